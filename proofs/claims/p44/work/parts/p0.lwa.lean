/-! THE LAW'S SCHOOL: its methods that only read (the School holds the class's numbers) -/
abbrev tsl (w : Nat → Nat) : Nat → Nat := fun l => w l / 10
abbrev trm (w : Nat → Nat) : Nat → Nat := fun l => w l % 10
/-- a table's first n values are of slots and rooms that exist -/
def WB (σ : Nat → Nat → Nat) (n : Nat) (w : Nat → Nat) : Prop := ∀ l, l < n → w l / 10 < (σ 1 2) ∧ w l % 10 < (σ 1 5)
def hb6 (x : Nat) : Nat := if x < 2 then 0 else if x < 4 then 1 else if x < 8 then 2 else if x < 16 then 3 else if x < 32 then 4 else 5
set_option maxRecDepth 100000 in
theorem cov_hb {σ : Nat → Nat → Nat} (O : Ok σ) {l s : Nat} (hs : s < (σ 1 2)) : (cov σ l s = 1 ∨ cov σ l s = 2 ∨ cov σ l s = 3 ∨ cov σ l s = 4 ∨ cov σ l s = 6 ∨ cov σ l s = 8 ∨ cov σ l s = 12 ∨ cov σ l s = 16 ∨ cov σ l s = 24 ∨ cov σ l s = 32 ∨ cov σ l s = 48) ∧ hb6 (cov σ l s) = las σ l s := by
  obtain ⟨hD1, hD2, hH1, hH2, hS, hC, hT, hR, hL, hQ⟩ := Ok_b O
  have h2 : s = 0 ∨ s = 1 ∨ s = 2 ∨ s = 3 ∨ s = 4 ∨ s = 5 := by omega
  unfold cov las
  by_cases h : σ 7 l = 2 ∧ s + 1 < (σ 1 2)
  · rw [if_pos h, if_pos h]
    rcases h2 with rfl | rfl | rfl | rfl | rfl | rfl
    all_goals first | decide | omega
  · rw [if_neg h, if_neg h]
    rcases h2 with rfl | rfl | rfl | rfl | rfl | rfl <;> decide
set_option maxRecDepth 100000 in
theorem dm_sh {σ : Nat → Nat → Nat} (O : Ok σ) {y c : Nat} (hy : y < (σ 1 0)) (hc : c < 64) : pc 10 ((c >>> (y * (σ 1 1))) &&& ((1 <<< (σ 1 1)) - 1)) = pc 10 (c &&& dm σ y) ∧ (((c >>> (y * (σ 1 1))) &&& ((1 <<< (σ 1 1)) - 1)) = 0 ↔ c &&& dm σ y = 0) ∧ ((c >>> (y * (σ 1 1))) &&& ((1 <<< (σ 1 1)) - 1)) < 1024 ∧ ((σ 1 1) = 3 → ((c >>> (y * (σ 1 1))) &&& 7 = 5 ↔ (c &&& dm σ y) >>> (y * (σ 1 1)) = 5)) ∧ ((σ 1 1) ≠ 3 → ¬ (c &&& dm σ y) >>> (y * (σ 1 1)) = 5) := by
  obtain ⟨hD1, hD2, hH1, hH2, hS, hC, hT, hR, hL, hQ⟩ := Ok_b O
  have h1 : (σ 1 1) = 1 ∨ (σ 1 1) = 2 ∨ (σ 1 1) = 3 := by omega
  have h2 : y = 0 ∨ y = 1 := by omega
  have key1 : ∀ H, H < 4 → ∀ y, y < 2 → ∀ c, c < 64 → pc 10 ((c >>> (y * H)) &&& ((1 <<< H) - 1)) = pc 10 (c &&& (((1 <<< H) - 1) <<< (y * H))) := by decide +kernel
  have key2 : ∀ H, H < 4 → ∀ y, y < 2 → ∀ c, c < 64 → (((c >>> (y * H)) &&& ((1 <<< H) - 1)) = 0 ↔ c &&& (((1 <<< H) - 1) <<< (y * H)) = 0) := by decide +kernel
  have key3 : ∀ H, H < 4 → ∀ y, y < 2 → ∀ c, c < 64 → ((c >>> (y * H)) &&& ((1 <<< H) - 1)) < 1024 := by decide +kernel
  have key4 : ∀ H, H < 4 → ∀ y, y < 2 → ∀ c, c < 64 → H = 3 → ((c >>> (y * H)) &&& 7 = 5 ↔ (c &&& (((1 <<< H) - 1) <<< (y * H))) >>> (y * H) = 5) := by decide +kernel
  have key5 : ∀ H, H < 4 → ∀ y, y < 2 → ∀ c, c < 64 → H ≠ 3 → ¬ (c &&& (((1 <<< H) - 1) <<< (y * H))) >>> (y * H) = 5 := by decide +kernel
  have a1 : (σ 1 1) < 4 := by omega
  have a2 : y < 2 := by omega
  exact ⟨key1 _ a1 y a2 c hc, key2 _ a1 y a2 c hc, key3 _ a1 y a2 c hc, key4 _ a1 y a2 c hc, key5 _ a1 y a2 c hc⟩
section Pa
variable {xs : List Int32} {d : Nat} {σ M : Nat → Nat → Nat} {ρ : Int32} {N : Nat} {Ts : List (Option Nat)} {B : Nat → Nat} {Q : ab_H} {l o s r u v q t i n x p : Nat} {w : Nat → Nat} {h : ab_H}
set_option maxRecDepth 100000 in
theorem WB_v (O : Ok σ) (hw : WB σ n w) (hl : l < n) : w l < 60 := by
  obtain ⟨hD1, hD2, hH1, hH2, hS, hC, hT, hR, hL, hQ⟩ := Ok_b O
  have := (hw l hl).1
  omega
set_option maxRecDepth 100000 in
theorem p_279 (hx : x = 1 ∨ x = 2 ∨ x = 3 ∨ x = 4 ∨ x = 6 ∨ x = 8 ∨ x = 12 ∨ x = 16 ∨ x = 24 ∨ x = 32 ∨ x = 48) : ev xs d 279 0 ([.int (nI x), .retAddr 9], [], h) = some (.inl (some (.int (nI (31 - hb6 x)))), h) := by
  rcases hx with rfl | rfl | rfl | rfl | rfl | rfl | rfl | rfl | rfl | rfl | rfl <;> exact ab_ev_iff.mpr ⟨20, rfl⟩
set_option maxRecDepth 100000 in
theorem p_281 (O : Ok σ) : ev xs d 281 0 ([.ref 63], [], hc σ M (LR ρ σ N Ts B Q)) = some (.inl (some (.int (nI ((σ 1 2))))), hc σ M (LR ρ σ N Ts B Q)) := by
  have : (σ 1 2) = (σ 1 0) * (σ 1 1) := O.2.2.1
  simp (disch := first | assumption | omega | exact st8_a (Nat.le_of_ble_eq_true rfl)) only [← this, eb_281_0, xr_1, xr_2, xr_3, xr_4, xr_41, xr_5, xt_ib, xt_ic, xt_ir, lF_0, lF_1, iN_add, iN_mul, iN_sub, iN_and, iN_or, iN_clr, iN_shl, iN_shr, tb_r1, b1_z, b1_or, b1_and, b1_or0, b1_or1, b1_0or, b1_t, b1_f, iN_lt, iN_inj, reduceIte, if_true, if_false, Nat.zero_add, Nat.add_zero, Bool.false_eq_true, Bool.true_eq_false, Nat.lt_irrefl, iN_az, not_true_eq_false, not_false_eq_true, Nat.reduceEqDiff, Nat.reduceLT, Nat.reduceAdd, Nat.reduceMul, Nat.reduceSub]
set_option maxRecDepth 100000 in
theorem p_282 (O : Ok σ) (hl : l < (σ 1 6)) (hs : v / 10 < (σ 1 2)) : ev xs (d + 1) 282 0 ([.ref 63, .int (nI l), .int (nI v), .retAddr 9], [], hc σ M (LR ρ σ N Ts B Q)) = some (.inl (some (.int (nI (cov σ l (v / 10))))), hc σ M (LR ρ σ N Ts B Q)) := by
  obtain ⟨hD1, hD2, hH1, hH2, hS, hC, hT, hR, hL, hQ⟩ := Ok_b O
  obtain ⟨h1, h2, h3⟩ := Ok_l O hl
  have hv : v < 60 := by omega
  have e3 : 1 <<< (v / 10) ||| 2 <<< (v / 10) = 3 <<< (v / 10) := by
    rw [← Nat.shiftLeft_or_distrib]
    rfl
  by_cases h4 : σ 7 l = 2 <;> by_cases h5 : v / 10 + 1 < (σ 1 2) <;> simp (disch := first | assumption | omega | exact st8_a (Nat.le_of_ble_eq_true rfl)) only [cov, h4, h5, and_true, and_false, p_281 O, e3, Nat.or_zero, eb_282_0, eb_282_1, eb_282_2, eb_282_3, eb_282_4, eb_282_5, kl_a, kl_d, kl_f, kl_i, kl_l, kl_n, kl_r, xr_1, xr_10, xr_141, xr_2, xr_27, xr_28, xr_3, xr_31, xr_32, xr_37, xr_38, xr_4, xr_45, xr_5, xr_58, xr_65, xr_86, af_0, af_1, xt_goto, xt_ib, xt_ic, xt_ic_ge, xt_ic_ne, xt_ir, xt_nop, lF_11, lA_64, lA_65, lA_66, lA_67, lA_68, lA_69, lA_70, lA_71, lA_72, lA_73, lA_75, lA_62, xq_281_12_virtualm, iN_add, iN_mul, iN_sub, iN_and, iN_or, iN_clr, iN_shl, iN_shr, tb_r1, b1_z, b1_or, b1_and, b1_or0, b1_or1, b1_0or, b1_t, b1_f, iN_lt, iN_inj, reduceIte, if_true, if_false, Nat.zero_add, Nat.add_zero, Bool.false_eq_true, Bool.true_eq_false, Nat.lt_irrefl, iN_az, not_true_eq_false, not_false_eq_true, Nat.reduceEqDiff, Nat.reduceLT, Nat.reduceAdd, Nat.reduceMul, Nat.reduceSub]
set_option maxRecDepth 100000 in
theorem p_283 (O : Ok σ) (hl : l < (σ 1 6)) (hs : v / 10 < (σ 1 2)) : ev xs (d + 2) 283 0 ([.ref 63, .int (nI l), .int (nI v)], [], hc σ M (LR ρ σ N Ts B Q)) = some (.inl (some (.int (nI (las σ l (v / 10))))), hc σ M (LR ρ σ N Ts B Q)) := by
  obtain ⟨h1, h2⟩ := cov_hb O (l := l) hs
  have h5 := las_lt (σ := σ) (l := l) hs
  obtain ⟨hD1, hD2, hH1, hH2, hS, hC, hT, hR, hL, hQ⟩ := Ok_b O
  have h3 : 31 - hb6 (cov σ l (v / 10)) ≤ 31 := Nat.sub_le _ _
  have h4 : 31 - (31 - hb6 (cov σ l (v / 10))) = las σ l (v / 10) := by omega
  have h6 := p_279 (xs := xs) (d := d + 1) (h := hc σ M (LR ρ σ N Ts B Q)) h1
  clear h1 h2
  simp (disch := first | assumption | omega | exact st8_a (Nat.le_of_ble_eq_true rfl)) only [p_282 O hl hs, h6, h4, eb_283_0, eb_283_1, eb_283_2, xr_1, xr_2, xr_242, xr_28, xr_3, xr_31, xr_4, xr_5, xr_77, af_0, af_1, xt_ib, xt_ic, xt_ir, xq_279_200_static, xq_282_12_virtualm, iN_add, iN_mul, iN_sub, iN_and, iN_or, iN_clr, iN_shl, iN_shr, tb_r1, b1_z, b1_or, b1_and, b1_or0, b1_or1, b1_0or, b1_t, b1_f, iN_lt, iN_inj, reduceIte, if_true, if_false, Nat.zero_add, Nat.add_zero, Bool.false_eq_true, Bool.true_eq_false, Nat.lt_irrefl, iN_az, not_true_eq_false, not_false_eq_true, Nat.reduceEqDiff, Nat.reduceLT, Nat.reduceAdd, Nat.reduceMul, Nat.reduceSub]
set_option maxRecDepth 100000 in
theorem p_284 (O : Ok σ) (hl : l < (σ 1 6)) (hs : v / 10 < (σ 1 2)) (hr : v % 10 < (σ 1 5)) : ev xs d 284 0 ([.ref 63, .int (nI l), .int (nI v)], [], hc σ M (LR ρ σ N Ts B Q)) = some (.inl (some (.int (nI (b1 (sty σ l (v / 10) && sts σ l (v % 10)))))), hc σ M (LR ρ σ N Ts B Q)) := by
  obtain ⟨hD1, hD2, hH1, hH2, hS, hC, hT, hR, hL, hQ⟩ := Ok_b O
  obtain ⟨h1, h2, h3⟩ := Ok_l O hl
  have hv : v < 60 := by omega
  have h4 := hou_lt O hs
  have c1 := Ok_c O h1
  have c2 := Ok_r O hr
  by_cases h5 : (σ 1 1) < hou σ (v / 10) + σ 7 l
  · have t1 : sty σ l (v / 10) = false := by
      unfold sty
      rw [decide_eq_false (by omega), decide_eq_false (by omega)]
      rfl
    simp (disch := first | assumption | omega | exact st8_a (Nat.le_of_ble_eq_true rfl)) only [hou_m O hs, h5, t1, Bool.false_and, eb_284_0, eb_284_1, eb_284_2, eb_284_3, eb_284_4, xr_1, xr_10, xr_141, xr_143, xr_2, xr_27, xr_28, xr_3, xr_31, xr_38, xr_4, xr_5, xr_86, xt_goto, xt_ib, xt_ic, xt_ic_gt, xt_ic_lt, xt_ir, xt_nop, lF_1, lF_11, lF_3, lF_5, lF_9, lA_64, lA_65, lA_66, lA_67, lA_68, lA_69, lA_70, lA_71, lA_72, lA_73, lA_75, lA_62, iN_add, iN_mul, iN_sub, iN_and, iN_or, iN_clr, iN_shl, iN_shr, tb_r1, b1_z, b1_or, b1_and, b1_or0, b1_or1, b1_0or, b1_t, b1_f, iN_lt, iN_inj, reduceIte, if_true, if_false, Nat.zero_add, Nat.add_zero, Bool.false_eq_true, Bool.true_eq_false, Nat.lt_irrefl, iN_az, not_true_eq_false, not_false_eq_true, Nat.reduceEqDiff, Nat.reduceLT, Nat.reduceAdd, Nat.reduceMul, Nat.reduceSub]
  · have t1 : sty σ l (v / 10) = true := by
      unfold sty
      rcases h3 with h3 | h3
      · rw [decide_eq_true h3]; rfl
      · rw [decide_eq_true (p := hou σ (v / 10) + 1 < (σ 1 1)) (by omega), Bool.or_true]
    by_cases h6 : σ 4 (v % 10) < σ 2 (σ 5 l)
    · have t2 : sts σ l (v % 10) = false := decide_eq_false (by omega)
      simp (disch := first | assumption | omega | exact st8_a (Nat.le_of_ble_eq_true rfl)) only [hou_m O hs, h5, h6, t1, t2, Bool.and_false, eb_284_0, eb_284_1, eb_284_2, eb_284_3, eb_284_4, xr_1, xr_10, xr_141, xr_143, xr_2, xr_27, xr_28, xr_3, xr_31, xr_38, xr_4, xr_5, xr_86, xt_goto, xt_ib, xt_ic, xt_ic_gt, xt_ic_lt, xt_ir, xt_nop, lF_1, lF_11, lF_3, lF_5, lF_9, lA_64, lA_65, lA_66, lA_67, lA_68, lA_69, lA_70, lA_71, lA_72, lA_73, lA_75, lA_62, iN_add, iN_mul, iN_sub, iN_and, iN_or, iN_clr, iN_shl, iN_shr, tb_r1, b1_z, b1_or, b1_and, b1_or0, b1_or1, b1_0or, b1_t, b1_f, iN_lt, iN_inj, reduceIte, if_true, if_false, Nat.zero_add, Nat.add_zero, Bool.false_eq_true, Bool.true_eq_false, Nat.lt_irrefl, iN_az, not_true_eq_false, not_false_eq_true, Nat.reduceEqDiff, Nat.reduceLT, Nat.reduceAdd, Nat.reduceMul, Nat.reduceSub]
    · have t2 : sts σ l (v % 10) = true := decide_eq_true (by omega)
      simp (disch := first | assumption | omega | exact st8_a (Nat.le_of_ble_eq_true rfl)) only [hou_m O hs, h5, h6, t1, t2, Bool.and_true, eb_284_0, eb_284_1, eb_284_2, eb_284_3, eb_284_4, xr_1, xr_10, xr_141, xr_143, xr_2, xr_27, xr_28, xr_3, xr_31, xr_38, xr_4, xr_5, xr_86, xt_goto, xt_ib, xt_ic, xt_ic_gt, xt_ic_lt, xt_ir, xt_nop, lF_1, lF_11, lF_3, lF_5, lF_9, lA_64, lA_65, lA_66, lA_67, lA_68, lA_69, lA_70, lA_71, lA_72, lA_73, lA_75, lA_62, iN_add, iN_mul, iN_sub, iN_and, iN_or, iN_clr, iN_shl, iN_shr, tb_r1, b1_z, b1_or, b1_and, b1_or0, b1_or1, b1_0or, b1_t, b1_f, iN_lt, iN_inj, reduceIte, if_true, if_false, Nat.zero_add, Nat.add_zero, Bool.false_eq_true, Bool.true_eq_false, Nat.lt_irrefl, iN_az, not_true_eq_false, not_false_eq_true, Nat.reduceEqDiff, Nat.reduceLT, Nat.reduceAdd, Nat.reduceMul, Nat.reduceSub]
set_option maxRecDepth 100000 in
theorem p_285 (O : Ok σ) (hq : (hc σ M (LR ρ σ N Ts B Q))[p]? = some (oI (ar n w))) (hn : n ≤ 6) (hln : (σ 1 6) ≤ n) (hw : WB σ (σ 1 6) w) (ht : t < 2147483648) : ev xs (d + 2) 285 0 ([.ref 63, .int (nI t), .ref p, .retAddr 9, .retAddr 9], [], hc σ M (LR ρ σ N Ts B Q)) = some (.inl (some (.int (nI (ctc σ (tsl w) t)))), hc σ M (LR ρ σ N Ts B Q)) := by
  obtain ⟨hD1, hD2, hH1, hH2, hS, hC, hT, hR, hL, hQ⟩ := Ok_b O
  have key : ∀ k, k ≤ (σ 1 6) → ev xs (d + 2) 285 1 ([.ref 63, .int (nI t), .ref p, .int (nI (orn k fun l => if σ 6 l = t then cov σ l (w l / 10) else 0)), .int (nI k)], [], hc σ M (LR ρ σ N Ts B Q)) = some (.inl (some (.int (nI (ctc σ (tsl w) t)))), hc σ M (LR ρ σ N Ts B Q)) := by
    refine lp (σ 1 6) ?_ ?_
    · rw [eb_285_1]
      simp (disch := first | assumption | omega | exact st8_a (Nat.le_of_ble_eq_true rfl)) only [eb_285_7, kl_a, kl_d, kl_f, kl_i, kl_l, kl_n, kl_r, xr_1, xr_10, xr_16, xr_17, xr_18, xr_19, xr_2, xr_20, xr_28, xr_3, xr_32, xr_33, xr_34, xr_37, xr_4, xr_40, xr_45, xr_5, af_0, af_1, xt_goto, xt_ib, xt_ic, xt_ic_ge, xt_ic_ne, xt_ir, xt_nop, lF_10, lF_8, lA_64, lA_65, lA_66, lA_67, lA_68, lA_69, lA_70, lA_71, lA_72, lA_73, lA_75, lA_62, xq_282_12_virtualm, iN_add, iN_mul, iN_sub, iN_and, iN_or, iN_clr, iN_shl, iN_shr, tb_r1, b1_z, b1_or, b1_and, b1_or0, b1_or1, b1_0or, b1_t, b1_f, iN_lt, iN_inj, reduceIte, if_true, if_false, Nat.zero_add, Nat.add_zero, Bool.false_eq_true, Bool.true_eq_false, Nat.lt_irrefl, iN_az, not_true_eq_false, not_false_eq_true, Nat.reduceEqDiff, Nat.reduceLT, Nat.reduceAdd, Nat.reduceMul, Nat.reduceSub]
      rfl
    · intro k hk ih
      have h1 := Ok_l O hk
      have h0 := (hw k hk).1
      rw [eb_285_1]
      rw [orn] at ih
      by_cases h2 : σ 6 k = t
      · rw [if_pos h2] at ih
        simp (disch := first | assumption | omega | exact st8_a (Nat.le_of_ble_eq_true rfl)) only [hk, q_ia hq, p_282 O hk h0, eq_true h2, eb_285_0, eb_285_2, eb_285_3, eb_285_4, eb_285_5, eb_285_6, eb_285_7, kl_a, kl_d, kl_f, kl_i, kl_l, kl_n, kl_r, xr_1, xr_10, xr_16, xr_17, xr_18, xr_19, xr_2, xr_20, xr_28, xr_3, xr_32, xr_33, xr_34, xr_37, xr_4, xr_40, xr_45, xr_5, af_0, af_1, xt_goto, xt_ib, xt_ic, xt_ic_ge, xt_ic_ne, xt_ir, xt_nop, lF_10, lF_8, lA_64, lA_65, lA_66, lA_67, lA_68, lA_69, lA_70, lA_71, lA_72, lA_73, lA_75, lA_62, xq_282_12_virtualm, iN_add, iN_mul, iN_sub, iN_and, iN_or, iN_clr, iN_shl, iN_shr, tb_r1, b1_z, b1_or, b1_and, b1_or0, b1_or1, b1_0or, b1_t, b1_f, iN_lt, iN_inj, reduceIte, if_true, if_false, Nat.zero_add, Nat.add_zero, Bool.false_eq_true, Bool.true_eq_false, Nat.lt_irrefl, iN_az, not_true_eq_false, not_false_eq_true, Nat.reduceEqDiff, Nat.reduceLT, Nat.reduceAdd, Nat.reduceMul, Nat.reduceSub]
        exact ih
      · rw [if_neg h2] at ih
        simp (disch := first | assumption | omega | exact st8_a (Nat.le_of_ble_eq_true rfl)) only [hk, q_ia hq, h2, eb_285_0, eb_285_2, eb_285_3, eb_285_4, eb_285_5, eb_285_6, eb_285_7, kl_a, kl_d, kl_f, kl_i, kl_l, kl_n, kl_r, xr_1, xr_10, xr_16, xr_17, xr_18, xr_19, xr_2, xr_20, xr_28, xr_3, xr_32, xr_33, xr_34, xr_37, xr_4, xr_40, xr_45, xr_5, af_0, af_1, xt_goto, xt_ib, xt_ic, xt_ic_ge, xt_ic_ne, xt_ir, xt_nop, lF_10, lF_8, lA_64, lA_65, lA_66, lA_67, lA_68, lA_69, lA_70, lA_71, lA_72, lA_73, lA_75, lA_62, xq_282_12_virtualm, iN_add, iN_mul, iN_sub, iN_and, iN_or, iN_clr, iN_shl, iN_shr, tb_r1, b1_z, b1_or, b1_and, b1_or0, b1_or1, b1_0or, b1_t, b1_f, iN_lt, iN_inj, reduceIte, if_true, if_false, Nat.zero_add, Nat.add_zero, Bool.false_eq_true, Bool.true_eq_false, Nat.lt_irrefl, iN_az, not_true_eq_false, not_false_eq_true, Nat.reduceEqDiff, Nat.reduceLT, Nat.reduceAdd, Nat.reduceMul, Nat.reduceSub]
        exact ih
  have e := key 0 (Nat.zero_le _)
  clear key
  simp (disch := first | assumption | omega | exact st8_a (Nat.le_of_ble_eq_true rfl)) only [eb_285_0, kl_a, kl_d, kl_f, kl_i, kl_l, kl_n, kl_r, xr_1, xr_10, xr_16, xr_17, xr_18, xr_19, xr_2, xr_20, xr_28, xr_3, xr_32, xr_33, xr_34, xr_37, xr_4, xr_40, xr_45, xr_5, af_0, af_1, xt_goto, xt_ib, xt_ic, xt_ic_ge, xt_ic_ne, xt_ir, xt_nop, lF_10, lF_8, lA_64, lA_65, lA_66, lA_67, lA_68, lA_69, lA_70, lA_71, lA_72, lA_73, lA_75, lA_62, xq_282_12_virtualm, iN_add, iN_mul, iN_sub, iN_and, iN_or, iN_clr, iN_shl, iN_shr, tb_r1, b1_z, b1_or, b1_and, b1_or0, b1_or1, b1_0or, b1_t, b1_f, iN_lt, iN_inj, reduceIte, if_true, if_false, Nat.zero_add, Nat.add_zero, Bool.false_eq_true, Bool.true_eq_false, Nat.lt_irrefl, iN_az, not_true_eq_false, not_false_eq_true, Nat.reduceEqDiff, Nat.reduceLT, Nat.reduceAdd, Nat.reduceMul, Nat.reduceSub]
  exact e
set_option maxRecDepth 100000 in
theorem p_286 (O : Ok σ) (hq : (hc σ M (LR ρ σ N Ts B Q))[p]? = some (oI (ar n w))) (hn : n ≤ 6) (hln : (σ 1 6) ≤ n) (hw : WB σ (σ 1 6) w) (hr : q < (σ 1 7)) : ev xs (d + 3) 286 0 ([.ref 63, .int (nI q), .ref p, .retAddr 9, .retAddr 9], [], hc σ M (LR ρ σ N Ts B Q)) = some (.inl (some (.int (nI (b1 (kpq σ (tsl w) (trm w) q))))), hc σ M (LR ρ σ N Ts B Q)) := by
  obtain ⟨hD1, hD2, hH1, hH2, hS, hC, hT, hR, hL, hQ⟩ := Ok_b O
  have hv : ∀ l, l < (σ 1 6) → w l < 60 := fun l hl => WB_v O hw hl
  have hs : ∀ l, l < (σ 1 6) → (tsl w) l < (σ 1 2) := fun l hl => (hw l hl).1
  rcases rk_c O hr with h0 | h0 | h0 | h0 | h0
  · obtain ⟨ha, hb⟩ := rk_0 O hr h0
    have c1 := cov_lt O (l := σ 9 q) (hw _ ha).1
    have e1 := hv _ ha
    have e2 := p_282 (xs := xs) (d := d + 1) (M := M) (ρ := ρ) (N := N) (Ts := Ts) (B := B) (Q := Q) O ha (hw _ ha).1
    unfold kpq
    rw [if_pos h0]
    clear hv hs hw
    cases h2 : (cov σ (σ 9 q) (w (σ 9 q) / 10)).testBit (σ 10 q) <;> simp (disch := first | assumption | omega | exact st8_a (Nat.le_of_ble_eq_true rfl)) only [h0, q_ia hq, e2, h2, Bool.not_true, Bool.not_false, eb_286_0, eb_286_1, eb_286_2, eb_286_3, eb_286_4, eb_286_5, kl_a, kl_d, kl_f, kl_i, kl_l, kl_n, kl_r, xr_1, xr_10, xr_141, xr_143, xr_16, xr_17, xr_18, xr_19, xr_2, xr_20, xr_27, xr_28, xr_3, xr_32, xr_33, xr_34, xr_37, xr_38, xr_4, xr_40, xr_41, xr_44, xr_5, xr_55, xr_58, xr_77, xr_86, af_0, af_1, xt_goto, xt_ib, xt_ic, xt_ic_eq, xt_ic_ge, xt_ic_gt, xt_ic_ne, xt_if_eq, xt_if_ne, xt_ir, xt_nop, xt_t0, xt_t2, sw_286_0_0, sw_286_0_1, sw_286_0_2, sw_286_0_3, sw_286_0_4, sw_286_0_5, sw_286_0_6, sw_286_0_7, sw_286_0_8, lF_0, lF_1, lF_13, lF_14, lF_15, lA_64, lA_65, lA_66, lA_67, lA_68, lA_69, lA_70, lA_71, lA_72, lA_73, lA_75, lA_62, xq_277_200_static, xq_282_12_virtualm, xq_283_12_virtualm, xq_285_12_virtualm, iN_add, iN_mul, iN_sub, iN_and, iN_or, iN_clr, iN_shl, iN_shr, tb_r1, b1_z, b1_or, b1_and, b1_or0, b1_or1, b1_0or, b1_t, b1_f, iN_lt, iN_inj, reduceIte, if_true, if_false, Nat.zero_add, Nat.add_zero, Bool.false_eq_true, Bool.true_eq_false, Nat.lt_irrefl, iN_az, not_true_eq_false, not_false_eq_true, Nat.reduceEqDiff, Nat.reduceLT, Nat.reduceAdd, Nat.reduceMul, Nat.reduceSub]
  · obtain ⟨ha, hb⟩ := rk_1 O hr h0
    have ec := ctc_lt O hs (σ 9 q)
    have e2 := p_285 (xs := xs) (d := d) (M := M) (ρ := ρ) (N := N) (Ts := Ts) (B := B) O hq hn hln hw (show σ 9 q < 2147483648 by omega)
    have key : ∀ k, k ≤ (σ 1 0) → ev xs (d + 3) 286 7 ([.ref 63, .int (nI q), .ref p, .int (nI (b1 (al k fun y => decide (pc 10 (ctc σ (tsl w) (σ 9 q) &&& dm σ y) ≤ σ 10 q)))), .int (nI k)], [], hc σ M (LR ρ σ N Ts B Q)) = some (.inl (some (.int (nI (b1 (al (σ 1 0) fun y => decide (pc 10 (ctc σ (tsl w) (σ 9 q) &&& dm σ y) ≤ σ 10 q)))))), hc σ M (LR ρ σ N Ts B Q)) := by
      refine lp (σ 1 0) ?_ ?_
      · rw [eb_286_7]
        clear hv hs hw e2
        simp (disch := first | assumption | omega | exact st8_a (Nat.le_of_ble_eq_true rfl)) only [eb_286_15, kl_a, kl_d, kl_f, kl_i, kl_l, kl_n, kl_r, xr_1, xr_10, xr_141, xr_143, xr_16, xr_17, xr_18, xr_19, xr_2, xr_20, xr_27, xr_28, xr_3, xr_32, xr_33, xr_34, xr_37, xr_38, xr_4, xr_40, xr_41, xr_44, xr_5, xr_55, xr_58, xr_77, xr_86, af_0, af_1, xt_goto, xt_ib, xt_ic, xt_ic_eq, xt_ic_ge, xt_ic_gt, xt_ic_ne, xt_if_eq, xt_if_ne, xt_ir, xt_nop, xt_t0, xt_t2, sw_286_0_0, sw_286_0_1, sw_286_0_2, sw_286_0_3, sw_286_0_4, sw_286_0_5, sw_286_0_6, sw_286_0_7, sw_286_0_8, lF_0, lF_1, lF_13, lF_14, lF_15, lA_64, lA_65, lA_66, lA_67, lA_68, lA_69, lA_70, lA_71, lA_72, lA_73, lA_75, lA_62, xq_277_200_static, xq_282_12_virtualm, xq_283_12_virtualm, xq_285_12_virtualm, iN_add, iN_mul, iN_sub, iN_and, iN_or, iN_clr, iN_shl, iN_shr, tb_r1, b1_z, b1_or, b1_and, b1_or0, b1_or1, b1_0or, b1_t, b1_f, iN_lt, iN_inj, reduceIte, if_true, if_false, Nat.zero_add, Nat.add_zero, Bool.false_eq_true, Bool.true_eq_false, Nat.lt_irrefl, iN_az, not_true_eq_false, not_false_eq_true, Nat.reduceEqDiff, Nat.reduceLT, Nat.reduceAdd, Nat.reduceMul, Nat.reduceSub]
      · intro k hk ih
        obtain ⟨f1, -, f2, -⟩ := dm_sh O hk ec
        have h5 := pc_le 10 (ctc σ (tsl w) (σ 9 q) &&& dm σ k)
        have h6 : k * (σ 1 1) < 32 := by
          have : k = 0 ∨ k = 1 := by omega
          rcases this with rfl | rfl <;> omega
        have h7 := one_shl (σ 1 1)
        have h8 := s_277 (xs := xs) (d := d + 2) (h := hc σ M (LR ρ σ N Ts B Q)) f2
        rw [f1] at h8
        rw [eb_286_7]
        rw [al] at ih
        clear hv hs hw
        cases h3 : al k fun y => decide (pc 10 (ctc σ (tsl w) (σ 9 q) &&& dm σ y) ≤ σ 10 q)
        · rw [h3] at ih
          simp (disch := first | assumption | omega | exact st8_a (Nat.le_of_ble_eq_true rfl)) only [hk, h3, eb_286_8, eb_286_13, eb_286_14, kl_a, kl_d, kl_f, kl_i, kl_l, kl_n, kl_r, xr_1, xr_10, xr_141, xr_143, xr_16, xr_17, xr_18, xr_19, xr_2, xr_20, xr_27, xr_28, xr_3, xr_32, xr_33, xr_34, xr_37, xr_38, xr_4, xr_40, xr_41, xr_44, xr_5, xr_55, xr_58, xr_77, xr_86, af_0, af_1, xt_goto, xt_ib, xt_ic, xt_ic_eq, xt_ic_ge, xt_ic_gt, xt_ic_ne, xt_if_eq, xt_if_ne, xt_ir, xt_nop, xt_t0, xt_t2, sw_286_0_0, sw_286_0_1, sw_286_0_2, sw_286_0_3, sw_286_0_4, sw_286_0_5, sw_286_0_6, sw_286_0_7, sw_286_0_8, lF_0, lF_1, lF_13, lF_14, lF_15, lA_64, lA_65, lA_66, lA_67, lA_68, lA_69, lA_70, lA_71, lA_72, lA_73, lA_75, lA_62, xq_277_200_static, xq_282_12_virtualm, xq_283_12_virtualm, xq_285_12_virtualm, iN_add, iN_mul, iN_sub, iN_and, iN_or, iN_clr, iN_shl, iN_shr, tb_r1, b1_z, b1_or, b1_and, b1_or0, b1_or1, b1_0or, b1_t, b1_f, iN_lt, iN_inj, reduceIte, if_true, if_false, Nat.zero_add, Nat.add_zero, Bool.false_eq_true, Bool.true_eq_false, Nat.lt_irrefl, iN_az, not_true_eq_false, not_false_eq_true, Nat.reduceEqDiff, Nat.reduceLT, Nat.reduceAdd, Nat.reduceMul, Nat.reduceSub]
          exact ih
        · rw [h3] at ih
          by_cases h4 : σ 10 q < pc 10 (ctc σ (tsl w) (σ 9 q) &&& dm σ k)
          · rw [decide_eq_false (by omega)] at ih
            simp (disch := first | assumption | omega | exact st8_a (Nat.le_of_ble_eq_true rfl)) only [hk, h3, h4, e2, h8, eb_286_8, eb_286_9, eb_286_10, eb_286_11, eb_286_13, eb_286_14, kl_a, kl_d, kl_f, kl_i, kl_l, kl_n, kl_r, xr_1, xr_10, xr_141, xr_143, xr_16, xr_17, xr_18, xr_19, xr_2, xr_20, xr_27, xr_28, xr_3, xr_32, xr_33, xr_34, xr_37, xr_38, xr_4, xr_40, xr_41, xr_44, xr_5, xr_55, xr_58, xr_77, xr_86, af_0, af_1, xt_goto, xt_ib, xt_ic, xt_ic_eq, xt_ic_ge, xt_ic_gt, xt_ic_ne, xt_if_eq, xt_if_ne, xt_ir, xt_nop, xt_t0, xt_t2, sw_286_0_0, sw_286_0_1, sw_286_0_2, sw_286_0_3, sw_286_0_4, sw_286_0_5, sw_286_0_6, sw_286_0_7, sw_286_0_8, lF_0, lF_1, lF_13, lF_14, lF_15, lA_64, lA_65, lA_66, lA_67, lA_68, lA_69, lA_70, lA_71, lA_72, lA_73, lA_75, lA_62, xq_277_200_static, xq_282_12_virtualm, xq_283_12_virtualm, xq_285_12_virtualm, iN_add, iN_mul, iN_sub, iN_and, iN_or, iN_clr, iN_shl, iN_shr, tb_r1, b1_z, b1_or, b1_and, b1_or0, b1_or1, b1_0or, b1_t, b1_f, iN_lt, iN_inj, reduceIte, if_true, if_false, Nat.zero_add, Nat.add_zero, Bool.false_eq_true, Bool.true_eq_false, Nat.lt_irrefl, iN_az, not_true_eq_false, not_false_eq_true, Nat.reduceEqDiff, Nat.reduceLT, Nat.reduceAdd, Nat.reduceMul, Nat.reduceSub]
            exact ih
          · rw [decide_eq_true (by omega)] at ih
            simp (disch := first | assumption | omega | exact st8_a (Nat.le_of_ble_eq_true rfl)) only [hk, h3, h4, e2, h8, eb_286_8, eb_286_9, eb_286_10, eb_286_11, eb_286_12, eb_286_14, kl_a, kl_d, kl_f, kl_i, kl_l, kl_n, kl_r, xr_1, xr_10, xr_141, xr_143, xr_16, xr_17, xr_18, xr_19, xr_2, xr_20, xr_27, xr_28, xr_3, xr_32, xr_33, xr_34, xr_37, xr_38, xr_4, xr_40, xr_41, xr_44, xr_5, xr_55, xr_58, xr_77, xr_86, af_0, af_1, xt_goto, xt_ib, xt_ic, xt_ic_eq, xt_ic_ge, xt_ic_gt, xt_ic_ne, xt_if_eq, xt_if_ne, xt_ir, xt_nop, xt_t0, xt_t2, sw_286_0_0, sw_286_0_1, sw_286_0_2, sw_286_0_3, sw_286_0_4, sw_286_0_5, sw_286_0_6, sw_286_0_7, sw_286_0_8, lF_0, lF_1, lF_13, lF_14, lF_15, lA_64, lA_65, lA_66, lA_67, lA_68, lA_69, lA_70, lA_71, lA_72, lA_73, lA_75, lA_62, xq_277_200_static, xq_282_12_virtualm, xq_283_12_virtualm, xq_285_12_virtualm, iN_add, iN_mul, iN_sub, iN_and, iN_or, iN_clr, iN_shl, iN_shr, tb_r1, b1_z, b1_or, b1_and, b1_or0, b1_or1, b1_0or, b1_t, b1_f, iN_lt, iN_inj, reduceIte, if_true, if_false, Nat.zero_add, Nat.add_zero, Bool.false_eq_true, Bool.true_eq_false, Nat.lt_irrefl, iN_az, not_true_eq_false, not_false_eq_true, Nat.reduceEqDiff, Nat.reduceLT, Nat.reduceAdd, Nat.reduceMul, Nat.reduceSub]
            exact ih
    have e := key 0 (Nat.zero_le _)
    rw [al_lgd] at e
    unfold kpq
    rw [if_neg (by omega), if_pos h0]
    clear key hv hs hw e2
    simp (disch := first | assumption | omega | exact st8_a (Nat.le_of_ble_eq_true rfl)) only [h0, eb_286_0, eb_286_6, kl_a, kl_d, kl_f, kl_i, kl_l, kl_n, kl_r, xr_1, xr_10, xr_141, xr_143, xr_16, xr_17, xr_18, xr_19, xr_2, xr_20, xr_27, xr_28, xr_3, xr_32, xr_33, xr_34, xr_37, xr_38, xr_4, xr_40, xr_41, xr_44, xr_5, xr_55, xr_58, xr_77, xr_86, af_0, af_1, xt_goto, xt_ib, xt_ic, xt_ic_eq, xt_ic_ge, xt_ic_gt, xt_ic_ne, xt_if_eq, xt_if_ne, xt_ir, xt_nop, xt_t0, xt_t2, sw_286_0_0, sw_286_0_1, sw_286_0_2, sw_286_0_3, sw_286_0_4, sw_286_0_5, sw_286_0_6, sw_286_0_7, sw_286_0_8, lF_0, lF_1, lF_13, lF_14, lF_15, lA_64, lA_65, lA_66, lA_67, lA_68, lA_69, lA_70, lA_71, lA_72, lA_73, lA_75, lA_62, xq_277_200_static, xq_282_12_virtualm, xq_283_12_virtualm, xq_285_12_virtualm, iN_add, iN_mul, iN_sub, iN_and, iN_or, iN_clr, iN_shl, iN_shr, tb_r1, b1_z, b1_or, b1_and, b1_or0, b1_or1, b1_0or, b1_t, b1_f, iN_lt, iN_inj, reduceIte, if_true, if_false, Nat.zero_add, Nat.add_zero, Bool.false_eq_true, Bool.true_eq_false, Nat.lt_irrefl, iN_az, not_true_eq_false, not_false_eq_true, Nat.reduceEqDiff, Nat.reduceLT, Nat.reduceAdd, Nat.reduceMul, Nat.reduceSub]
    exact e
  · obtain ⟨ha, hb⟩ := rk_6 O hr h0
    have e1 := hv _ ha
    unfold kpq
    rw [if_neg (by omega), if_neg (by omega), if_pos h0]
    clear hv hs hw
    by_cases h2 : w (σ 9 q) % 10 = σ 10 q
    · simp (disch := first | assumption | omega | exact st8_a (Nat.le_of_ble_eq_true rfl)) only [h0, q_ia hq, eq_true h2, decide_true, eb_286_0, eb_286_37, eb_286_38, eb_286_39, eb_286_40, kl_a, kl_d, kl_f, kl_i, kl_l, kl_n, kl_r, xr_1, xr_10, xr_141, xr_143, xr_16, xr_17, xr_18, xr_19, xr_2, xr_20, xr_27, xr_28, xr_3, xr_32, xr_33, xr_34, xr_37, xr_38, xr_4, xr_40, xr_41, xr_44, xr_5, xr_55, xr_58, xr_77, xr_86, af_0, af_1, xt_goto, xt_ib, xt_ic, xt_ic_eq, xt_ic_ge, xt_ic_gt, xt_ic_ne, xt_if_eq, xt_if_ne, xt_ir, xt_nop, xt_t0, xt_t2, sw_286_0_0, sw_286_0_1, sw_286_0_2, sw_286_0_3, sw_286_0_4, sw_286_0_5, sw_286_0_6, sw_286_0_7, sw_286_0_8, lF_0, lF_1, lF_13, lF_14, lF_15, lA_64, lA_65, lA_66, lA_67, lA_68, lA_69, lA_70, lA_71, lA_72, lA_73, lA_75, lA_62, xq_277_200_static, xq_282_12_virtualm, xq_283_12_virtualm, xq_285_12_virtualm, iN_add, iN_mul, iN_sub, iN_and, iN_or, iN_clr, iN_shl, iN_shr, tb_r1, b1_z, b1_or, b1_and, b1_or0, b1_or1, b1_0or, b1_t, b1_f, iN_lt, iN_inj, reduceIte, if_true, if_false, Nat.zero_add, Nat.add_zero, Bool.false_eq_true, Bool.true_eq_false, Nat.lt_irrefl, iN_az, not_true_eq_false, not_false_eq_true, Nat.reduceEqDiff, Nat.reduceLT, Nat.reduceAdd, Nat.reduceMul, Nat.reduceSub]
    · simp (disch := first | assumption | omega | exact st8_a (Nat.le_of_ble_eq_true rfl)) only [h0, q_ia hq, h2, decide_false, eb_286_0, eb_286_37, eb_286_38, eb_286_39, eb_286_40, kl_a, kl_d, kl_f, kl_i, kl_l, kl_n, kl_r, xr_1, xr_10, xr_141, xr_143, xr_16, xr_17, xr_18, xr_19, xr_2, xr_20, xr_27, xr_28, xr_3, xr_32, xr_33, xr_34, xr_37, xr_38, xr_4, xr_40, xr_41, xr_44, xr_5, xr_55, xr_58, xr_77, xr_86, af_0, af_1, xt_goto, xt_ib, xt_ic, xt_ic_eq, xt_ic_ge, xt_ic_gt, xt_ic_ne, xt_if_eq, xt_if_ne, xt_ir, xt_nop, xt_t0, xt_t2, sw_286_0_0, sw_286_0_1, sw_286_0_2, sw_286_0_3, sw_286_0_4, sw_286_0_5, sw_286_0_6, sw_286_0_7, sw_286_0_8, lF_0, lF_1, lF_13, lF_14, lF_15, lA_64, lA_65, lA_66, lA_67, lA_68, lA_69, lA_70, lA_71, lA_72, lA_73, lA_75, lA_62, xq_277_200_static, xq_282_12_virtualm, xq_283_12_virtualm, xq_285_12_virtualm, iN_add, iN_mul, iN_sub, iN_and, iN_or, iN_clr, iN_shl, iN_shr, tb_r1, b1_z, b1_or, b1_and, b1_or0, b1_or1, b1_0or, b1_t, b1_f, iN_lt, iN_inj, reduceIte, if_true, if_false, Nat.zero_add, Nat.add_zero, Bool.false_eq_true, Bool.true_eq_false, Nat.lt_irrefl, iN_az, not_true_eq_false, not_false_eq_true, Nat.reduceEqDiff, Nat.reduceLT, Nat.reduceAdd, Nat.reduceMul, Nat.reduceSub]
  · obtain ⟨ha, hb⟩ := rk_7 O hr h0
    have ec := ctc_lt O hs (σ 9 q)
    have e2 := p_285 (xs := xs) (d := d) (M := M) (ρ := ρ) (N := N) (Ts := Ts) (B := B) O hq hn hln hw (show σ 9 q < 2147483648 by omega)
    unfold kpq
    rw [if_neg (by omega), if_neg (by omega), if_neg (by omega), if_pos h0]
    clear hv hs hw
    cases h2 : (ctc σ (tsl w) (σ 9 q)).testBit (σ 10 q) <;> simp (disch := first | assumption | omega | exact st8_a (Nat.le_of_ble_eq_true rfl)) only [h0, e2, h2, Bool.not_true, Bool.not_false, eb_286_0, eb_286_41, eb_286_42, eb_286_43, eb_286_44, eb_286_45, kl_a, kl_d, kl_f, kl_i, kl_l, kl_n, kl_r, xr_1, xr_10, xr_141, xr_143, xr_16, xr_17, xr_18, xr_19, xr_2, xr_20, xr_27, xr_28, xr_3, xr_32, xr_33, xr_34, xr_37, xr_38, xr_4, xr_40, xr_41, xr_44, xr_5, xr_55, xr_58, xr_77, xr_86, af_0, af_1, xt_goto, xt_ib, xt_ic, xt_ic_eq, xt_ic_ge, xt_ic_gt, xt_ic_ne, xt_if_eq, xt_if_ne, xt_ir, xt_nop, xt_t0, xt_t2, sw_286_0_0, sw_286_0_1, sw_286_0_2, sw_286_0_3, sw_286_0_4, sw_286_0_5, sw_286_0_6, sw_286_0_7, sw_286_0_8, lF_0, lF_1, lF_13, lF_14, lF_15, lA_64, lA_65, lA_66, lA_67, lA_68, lA_69, lA_70, lA_71, lA_72, lA_73, lA_75, lA_62, xq_277_200_static, xq_282_12_virtualm, xq_283_12_virtualm, xq_285_12_virtualm, iN_add, iN_mul, iN_sub, iN_and, iN_or, iN_clr, iN_shl, iN_shr, tb_r1, b1_z, b1_or, b1_and, b1_or0, b1_or1, b1_0or, b1_t, b1_f, iN_lt, iN_inj, reduceIte, if_true, if_false, Nat.zero_add, Nat.add_zero, Bool.false_eq_true, Bool.true_eq_false, Nat.lt_irrefl, iN_az, not_true_eq_false, not_false_eq_true, Nat.reduceEqDiff, Nat.reduceLT, Nat.reduceAdd, Nat.reduceMul, Nat.reduceSub]
  · obtain ⟨ha, hb, -⟩ := rk_2 O hr h0
    have e1 := hv _ ha
    have e2 := hv _ hb
    have s1 := (hw _ ha).1
    have s2 := (hw _ hb).1
    have l1 := las_lt (σ := σ) (l := σ 9 q) s1
    have l2 := las_lt (σ := σ) (l := σ 10 q) s2
    have d1 := dy_m O s1
    have d2 := dy_m O s2
    have k1 : dy σ (w (σ 9 q) / 10) < 2 := by unfold dy; split <;> omega
    have k2 : dy σ (w (σ 10 q) / 10) < 2 := by unfold dy; split <;> omega
    have m1 := p_283 (xs := xs) (d := d) (M := M) (ρ := ρ) (N := N) (Ts := Ts) (B := B) (Q := Q) O ha s1
    have m2 := p_283 (xs := xs) (d := d) (M := M) (ρ := ρ) (N := N) (Ts := Ts) (B := B) (Q := Q) O hb s2
    unfold kpq
    rw [if_neg (by omega), if_neg (by omega), if_neg (by omega), if_neg (by omega)]
    unfold kp2
    clear hv hs hw
    rcases h0 with h8 | h8 | h8 | h8
    · by_cases e : w (σ 9 q) / 10 = w (σ 10 q) / 10
      · simp (disch := first | assumption | omega | exact st8_a (Nat.le_of_ble_eq_true rfl)) only [h8, q_ia hq, eq_true e, decide_true, eb_286_0, eb_286_16, eb_286_17, eb_286_18, eb_286_19, kl_a, kl_d, kl_f, kl_i, kl_l, kl_n, kl_r, xr_1, xr_10, xr_141, xr_143, xr_16, xr_17, xr_18, xr_19, xr_2, xr_20, xr_27, xr_28, xr_3, xr_32, xr_33, xr_34, xr_37, xr_38, xr_4, xr_40, xr_41, xr_44, xr_5, xr_55, xr_58, xr_77, xr_86, af_0, af_1, xt_goto, xt_ib, xt_ic, xt_ic_eq, xt_ic_ge, xt_ic_gt, xt_ic_ne, xt_if_eq, xt_if_ne, xt_ir, xt_nop, xt_t0, xt_t2, sw_286_0_0, sw_286_0_1, sw_286_0_2, sw_286_0_3, sw_286_0_4, sw_286_0_5, sw_286_0_6, sw_286_0_7, sw_286_0_8, lF_0, lF_1, lF_13, lF_14, lF_15, lA_64, lA_65, lA_66, lA_67, lA_68, lA_69, lA_70, lA_71, lA_72, lA_73, lA_75, lA_62, xq_277_200_static, xq_282_12_virtualm, xq_283_12_virtualm, xq_285_12_virtualm, iN_add, iN_mul, iN_sub, iN_and, iN_or, iN_clr, iN_shl, iN_shr, tb_r1, b1_z, b1_or, b1_and, b1_or0, b1_or1, b1_0or, b1_t, b1_f, iN_lt, iN_inj, reduceIte, if_true, if_false, Nat.zero_add, Nat.add_zero, Bool.false_eq_true, Bool.true_eq_false, Nat.lt_irrefl, iN_az, not_true_eq_false, not_false_eq_true, Nat.reduceEqDiff, Nat.reduceLT, Nat.reduceAdd, Nat.reduceMul, Nat.reduceSub]
      · simp (disch := first | assumption | omega | exact st8_a (Nat.le_of_ble_eq_true rfl)) only [h8, q_ia hq, e, decide_false, eb_286_0, eb_286_16, eb_286_17, eb_286_18, eb_286_19, kl_a, kl_d, kl_f, kl_i, kl_l, kl_n, kl_r, xr_1, xr_10, xr_141, xr_143, xr_16, xr_17, xr_18, xr_19, xr_2, xr_20, xr_27, xr_28, xr_3, xr_32, xr_33, xr_34, xr_37, xr_38, xr_4, xr_40, xr_41, xr_44, xr_5, xr_55, xr_58, xr_77, xr_86, af_0, af_1, xt_goto, xt_ib, xt_ic, xt_ic_eq, xt_ic_ge, xt_ic_gt, xt_ic_ne, xt_if_eq, xt_if_ne, xt_ir, xt_nop, xt_t0, xt_t2, sw_286_0_0, sw_286_0_1, sw_286_0_2, sw_286_0_3, sw_286_0_4, sw_286_0_5, sw_286_0_6, sw_286_0_7, sw_286_0_8, lF_0, lF_1, lF_13, lF_14, lF_15, lA_64, lA_65, lA_66, lA_67, lA_68, lA_69, lA_70, lA_71, lA_72, lA_73, lA_75, lA_62, xq_277_200_static, xq_282_12_virtualm, xq_283_12_virtualm, xq_285_12_virtualm, iN_add, iN_mul, iN_sub, iN_and, iN_or, iN_clr, iN_shl, iN_shr, tb_r1, b1_z, b1_or, b1_and, b1_or0, b1_or1, b1_0or, b1_t, b1_f, iN_lt, iN_inj, reduceIte, if_true, if_false, Nat.zero_add, Nat.add_zero, Bool.false_eq_true, Bool.true_eq_false, Nat.lt_irrefl, iN_az, not_true_eq_false, not_false_eq_true, Nat.reduceEqDiff, Nat.reduceLT, Nat.reduceAdd, Nat.reduceMul, Nat.reduceSub]
    · by_cases e : dy σ (w (σ 9 q) / 10) = dy σ (w (σ 10 q) / 10)
      · simp (disch := first | assumption | omega | exact st8_a (Nat.le_of_ble_eq_true rfl)) only [h8, q_ia hq, d1, d2, eq_true e, ne_eq, decide_false, eb_286_0, eb_286_20, eb_286_21, eb_286_22, eb_286_23, kl_a, kl_d, kl_f, kl_i, kl_l, kl_n, kl_r, xr_1, xr_10, xr_141, xr_143, xr_16, xr_17, xr_18, xr_19, xr_2, xr_20, xr_27, xr_28, xr_3, xr_32, xr_33, xr_34, xr_37, xr_38, xr_4, xr_40, xr_41, xr_44, xr_5, xr_55, xr_58, xr_77, xr_86, af_0, af_1, xt_goto, xt_ib, xt_ic, xt_ic_eq, xt_ic_ge, xt_ic_gt, xt_ic_ne, xt_if_eq, xt_if_ne, xt_ir, xt_nop, xt_t0, xt_t2, sw_286_0_0, sw_286_0_1, sw_286_0_2, sw_286_0_3, sw_286_0_4, sw_286_0_5, sw_286_0_6, sw_286_0_7, sw_286_0_8, lF_0, lF_1, lF_13, lF_14, lF_15, lA_64, lA_65, lA_66, lA_67, lA_68, lA_69, lA_70, lA_71, lA_72, lA_73, lA_75, lA_62, xq_277_200_static, xq_282_12_virtualm, xq_283_12_virtualm, xq_285_12_virtualm, iN_add, iN_mul, iN_sub, iN_and, iN_or, iN_clr, iN_shl, iN_shr, tb_r1, b1_z, b1_or, b1_and, b1_or0, b1_or1, b1_0or, b1_t, b1_f, iN_lt, iN_inj, reduceIte, if_true, if_false, Nat.zero_add, Nat.add_zero, Bool.false_eq_true, Bool.true_eq_false, Nat.lt_irrefl, iN_az, not_true_eq_false, not_false_eq_true, Nat.reduceEqDiff, Nat.reduceLT, Nat.reduceAdd, Nat.reduceMul, Nat.reduceSub]
      · simp (disch := first | assumption | omega | exact st8_a (Nat.le_of_ble_eq_true rfl)) only [h8, q_ia hq, d1, d2, e, ne_eq, decide_true, eb_286_0, eb_286_20, eb_286_21, eb_286_22, eb_286_23, kl_a, kl_d, kl_f, kl_i, kl_l, kl_n, kl_r, xr_1, xr_10, xr_141, xr_143, xr_16, xr_17, xr_18, xr_19, xr_2, xr_20, xr_27, xr_28, xr_3, xr_32, xr_33, xr_34, xr_37, xr_38, xr_4, xr_40, xr_41, xr_44, xr_5, xr_55, xr_58, xr_77, xr_86, af_0, af_1, xt_goto, xt_ib, xt_ic, xt_ic_eq, xt_ic_ge, xt_ic_gt, xt_ic_ne, xt_if_eq, xt_if_ne, xt_ir, xt_nop, xt_t0, xt_t2, sw_286_0_0, sw_286_0_1, sw_286_0_2, sw_286_0_3, sw_286_0_4, sw_286_0_5, sw_286_0_6, sw_286_0_7, sw_286_0_8, lF_0, lF_1, lF_13, lF_14, lF_15, lA_64, lA_65, lA_66, lA_67, lA_68, lA_69, lA_70, lA_71, lA_72, lA_73, lA_75, lA_62, xq_277_200_static, xq_282_12_virtualm, xq_283_12_virtualm, xq_285_12_virtualm, iN_add, iN_mul, iN_sub, iN_and, iN_or, iN_clr, iN_shl, iN_shr, tb_r1, b1_z, b1_or, b1_and, b1_or0, b1_or1, b1_0or, b1_t, b1_f, iN_lt, iN_inj, reduceIte, if_true, if_false, Nat.zero_add, Nat.add_zero, Bool.false_eq_true, Bool.true_eq_false, Nat.lt_irrefl, iN_az, not_true_eq_false, not_false_eq_true, Nat.reduceEqDiff, Nat.reduceLT, Nat.reduceAdd, Nat.reduceMul, Nat.reduceSub]
    · by_cases e : las σ (σ 9 q) (w (σ 9 q) / 10) < w (σ 10 q) / 10
      · simp (disch := first | assumption | omega | exact st8_a (Nat.le_of_ble_eq_true rfl)) only [h8, q_ia hq, m1, e, decide_true, eb_286_0, eb_286_24, eb_286_25, eb_286_26, eb_286_27, eb_286_28, kl_a, kl_d, kl_f, kl_i, kl_l, kl_n, kl_r, xr_1, xr_10, xr_141, xr_143, xr_16, xr_17, xr_18, xr_19, xr_2, xr_20, xr_27, xr_28, xr_3, xr_32, xr_33, xr_34, xr_37, xr_38, xr_4, xr_40, xr_41, xr_44, xr_5, xr_55, xr_58, xr_77, xr_86, af_0, af_1, xt_goto, xt_ib, xt_ic, xt_ic_eq, xt_ic_ge, xt_ic_gt, xt_ic_ne, xt_if_eq, xt_if_ne, xt_ir, xt_nop, xt_t0, xt_t2, sw_286_0_0, sw_286_0_1, sw_286_0_2, sw_286_0_3, sw_286_0_4, sw_286_0_5, sw_286_0_6, sw_286_0_7, sw_286_0_8, lF_0, lF_1, lF_13, lF_14, lF_15, lA_64, lA_65, lA_66, lA_67, lA_68, lA_69, lA_70, lA_71, lA_72, lA_73, lA_75, lA_62, xq_277_200_static, xq_282_12_virtualm, xq_283_12_virtualm, xq_285_12_virtualm, iN_add, iN_mul, iN_sub, iN_and, iN_or, iN_clr, iN_shl, iN_shr, tb_r1, b1_z, b1_or, b1_and, b1_or0, b1_or1, b1_0or, b1_t, b1_f, iN_lt, iN_inj, reduceIte, if_true, if_false, Nat.zero_add, Nat.add_zero, Bool.false_eq_true, Bool.true_eq_false, Nat.lt_irrefl, iN_az, not_true_eq_false, not_false_eq_true, Nat.reduceEqDiff, Nat.reduceLT, Nat.reduceAdd, Nat.reduceMul, Nat.reduceSub]
      · simp (disch := first | assumption | omega | exact st8_a (Nat.le_of_ble_eq_true rfl)) only [h8, q_ia hq, m1, e, decide_false, eb_286_0, eb_286_24, eb_286_25, eb_286_26, eb_286_27, eb_286_28, kl_a, kl_d, kl_f, kl_i, kl_l, kl_n, kl_r, xr_1, xr_10, xr_141, xr_143, xr_16, xr_17, xr_18, xr_19, xr_2, xr_20, xr_27, xr_28, xr_3, xr_32, xr_33, xr_34, xr_37, xr_38, xr_4, xr_40, xr_41, xr_44, xr_5, xr_55, xr_58, xr_77, xr_86, af_0, af_1, xt_goto, xt_ib, xt_ic, xt_ic_eq, xt_ic_ge, xt_ic_gt, xt_ic_ne, xt_if_eq, xt_if_ne, xt_ir, xt_nop, xt_t0, xt_t2, sw_286_0_0, sw_286_0_1, sw_286_0_2, sw_286_0_3, sw_286_0_4, sw_286_0_5, sw_286_0_6, sw_286_0_7, sw_286_0_8, lF_0, lF_1, lF_13, lF_14, lF_15, lA_64, lA_65, lA_66, lA_67, lA_68, lA_69, lA_70, lA_71, lA_72, lA_73, lA_75, lA_62, xq_277_200_static, xq_282_12_virtualm, xq_283_12_virtualm, xq_285_12_virtualm, iN_add, iN_mul, iN_sub, iN_and, iN_or, iN_clr, iN_shl, iN_shr, tb_r1, b1_z, b1_or, b1_and, b1_or0, b1_or1, b1_0or, b1_t, b1_f, iN_lt, iN_inj, reduceIte, if_true, if_false, Nat.zero_add, Nat.add_zero, Bool.false_eq_true, Bool.true_eq_false, Nat.lt_irrefl, iN_az, not_true_eq_false, not_false_eq_true, Nat.reduceEqDiff, Nat.reduceLT, Nat.reduceAdd, Nat.reduceMul, Nat.reduceSub]
    · by_cases e : dy σ (w (σ 9 q) / 10) = dy σ (w (σ 10 q) / 10)
      · by_cases e3 : w (σ 10 q) / 10 = las σ (σ 9 q) (w (σ 9 q) / 10) + 1
        · simp (disch := first | assumption | omega | exact st8_a (Nat.le_of_ble_eq_true rfl)) only [h8, q_ia hq, d1, d2, m1, m2, eq_true e, eq_true e3, decide_true, Bool.true_or, Bool.true_and, eb_286_0, eb_286_29, eb_286_30, eb_286_31, eb_286_32, eb_286_33, eb_286_34, eb_286_35, eb_286_36, kl_a, kl_d, kl_f, kl_i, kl_l, kl_n, kl_r, xr_1, xr_10, xr_141, xr_143, xr_16, xr_17, xr_18, xr_19, xr_2, xr_20, xr_27, xr_28, xr_3, xr_32, xr_33, xr_34, xr_37, xr_38, xr_4, xr_40, xr_41, xr_44, xr_5, xr_55, xr_58, xr_77, xr_86, af_0, af_1, xt_goto, xt_ib, xt_ic, xt_ic_eq, xt_ic_ge, xt_ic_gt, xt_ic_ne, xt_if_eq, xt_if_ne, xt_ir, xt_nop, xt_t0, xt_t2, sw_286_0_0, sw_286_0_1, sw_286_0_2, sw_286_0_3, sw_286_0_4, sw_286_0_5, sw_286_0_6, sw_286_0_7, sw_286_0_8, lF_0, lF_1, lF_13, lF_14, lF_15, lA_64, lA_65, lA_66, lA_67, lA_68, lA_69, lA_70, lA_71, lA_72, lA_73, lA_75, lA_62, xq_277_200_static, xq_282_12_virtualm, xq_283_12_virtualm, xq_285_12_virtualm, iN_add, iN_mul, iN_sub, iN_and, iN_or, iN_clr, iN_shl, iN_shr, tb_r1, b1_z, b1_or, b1_and, b1_or0, b1_or1, b1_0or, b1_t, b1_f, iN_lt, iN_inj, reduceIte, if_true, if_false, Nat.zero_add, Nat.add_zero, Bool.false_eq_true, Bool.true_eq_false, Nat.lt_irrefl, iN_az, not_true_eq_false, not_false_eq_true, Nat.reduceEqDiff, Nat.reduceLT, Nat.reduceAdd, Nat.reduceMul, Nat.reduceSub]
        · by_cases e4 : w (σ 9 q) / 10 = las σ (σ 10 q) (w (σ 10 q) / 10) + 1
          · simp (disch := first | assumption | omega | exact st8_a (Nat.le_of_ble_eq_true rfl)) only [h8, q_ia hq, d1, d2, m1, m2, eq_true e, e3, eq_true e4, decide_true, decide_false, Bool.false_or, Bool.true_and, eb_286_0, eb_286_29, eb_286_30, eb_286_31, eb_286_32, eb_286_33, eb_286_34, eb_286_35, eb_286_36, kl_a, kl_d, kl_f, kl_i, kl_l, kl_n, kl_r, xr_1, xr_10, xr_141, xr_143, xr_16, xr_17, xr_18, xr_19, xr_2, xr_20, xr_27, xr_28, xr_3, xr_32, xr_33, xr_34, xr_37, xr_38, xr_4, xr_40, xr_41, xr_44, xr_5, xr_55, xr_58, xr_77, xr_86, af_0, af_1, xt_goto, xt_ib, xt_ic, xt_ic_eq, xt_ic_ge, xt_ic_gt, xt_ic_ne, xt_if_eq, xt_if_ne, xt_ir, xt_nop, xt_t0, xt_t2, sw_286_0_0, sw_286_0_1, sw_286_0_2, sw_286_0_3, sw_286_0_4, sw_286_0_5, sw_286_0_6, sw_286_0_7, sw_286_0_8, lF_0, lF_1, lF_13, lF_14, lF_15, lA_64, lA_65, lA_66, lA_67, lA_68, lA_69, lA_70, lA_71, lA_72, lA_73, lA_75, lA_62, xq_277_200_static, xq_282_12_virtualm, xq_283_12_virtualm, xq_285_12_virtualm, iN_add, iN_mul, iN_sub, iN_and, iN_or, iN_clr, iN_shl, iN_shr, tb_r1, b1_z, b1_or, b1_and, b1_or0, b1_or1, b1_0or, b1_t, b1_f, iN_lt, iN_inj, reduceIte, if_true, if_false, Nat.zero_add, Nat.add_zero, Bool.false_eq_true, Bool.true_eq_false, Nat.lt_irrefl, iN_az, not_true_eq_false, not_false_eq_true, Nat.reduceEqDiff, Nat.reduceLT, Nat.reduceAdd, Nat.reduceMul, Nat.reduceSub]
          · simp (disch := first | assumption | omega | exact st8_a (Nat.le_of_ble_eq_true rfl)) only [h8, q_ia hq, d1, d2, m1, m2, eq_true e, e3, e4, decide_true, decide_false, Bool.false_or, Bool.true_and, eb_286_0, eb_286_29, eb_286_30, eb_286_31, eb_286_32, eb_286_33, eb_286_34, eb_286_35, eb_286_36, kl_a, kl_d, kl_f, kl_i, kl_l, kl_n, kl_r, xr_1, xr_10, xr_141, xr_143, xr_16, xr_17, xr_18, xr_19, xr_2, xr_20, xr_27, xr_28, xr_3, xr_32, xr_33, xr_34, xr_37, xr_38, xr_4, xr_40, xr_41, xr_44, xr_5, xr_55, xr_58, xr_77, xr_86, af_0, af_1, xt_goto, xt_ib, xt_ic, xt_ic_eq, xt_ic_ge, xt_ic_gt, xt_ic_ne, xt_if_eq, xt_if_ne, xt_ir, xt_nop, xt_t0, xt_t2, sw_286_0_0, sw_286_0_1, sw_286_0_2, sw_286_0_3, sw_286_0_4, sw_286_0_5, sw_286_0_6, sw_286_0_7, sw_286_0_8, lF_0, lF_1, lF_13, lF_14, lF_15, lA_64, lA_65, lA_66, lA_67, lA_68, lA_69, lA_70, lA_71, lA_72, lA_73, lA_75, lA_62, xq_277_200_static, xq_282_12_virtualm, xq_283_12_virtualm, xq_285_12_virtualm, iN_add, iN_mul, iN_sub, iN_and, iN_or, iN_clr, iN_shl, iN_shr, tb_r1, b1_z, b1_or, b1_and, b1_or0, b1_or1, b1_0or, b1_t, b1_f, iN_lt, iN_inj, reduceIte, if_true, if_false, Nat.zero_add, Nat.add_zero, Bool.false_eq_true, Bool.true_eq_false, Nat.lt_irrefl, iN_az, not_true_eq_false, not_false_eq_true, Nat.reduceEqDiff, Nat.reduceLT, Nat.reduceAdd, Nat.reduceMul, Nat.reduceSub]
      · simp (disch := first | assumption | omega | exact st8_a (Nat.le_of_ble_eq_true rfl)) only [h8, q_ia hq, d1, d2, e, decide_false, Bool.false_and, eb_286_0, eb_286_29, eb_286_30, eb_286_31, eb_286_32, eb_286_33, eb_286_34, eb_286_35, eb_286_36, kl_a, kl_d, kl_f, kl_i, kl_l, kl_n, kl_r, xr_1, xr_10, xr_141, xr_143, xr_16, xr_17, xr_18, xr_19, xr_2, xr_20, xr_27, xr_28, xr_3, xr_32, xr_33, xr_34, xr_37, xr_38, xr_4, xr_40, xr_41, xr_44, xr_5, xr_55, xr_58, xr_77, xr_86, af_0, af_1, xt_goto, xt_ib, xt_ic, xt_ic_eq, xt_ic_ge, xt_ic_gt, xt_ic_ne, xt_if_eq, xt_if_ne, xt_ir, xt_nop, xt_t0, xt_t2, sw_286_0_0, sw_286_0_1, sw_286_0_2, sw_286_0_3, sw_286_0_4, sw_286_0_5, sw_286_0_6, sw_286_0_7, sw_286_0_8, lF_0, lF_1, lF_13, lF_14, lF_15, lA_64, lA_65, lA_66, lA_67, lA_68, lA_69, lA_70, lA_71, lA_72, lA_73, lA_75, lA_62, xq_277_200_static, xq_282_12_virtualm, xq_283_12_virtualm, xq_285_12_virtualm, iN_add, iN_mul, iN_sub, iN_and, iN_or, iN_clr, iN_shl, iN_shr, tb_r1, b1_z, b1_or, b1_and, b1_or0, b1_or1, b1_0or, b1_t, b1_f, iN_lt, iN_inj, reduceIte, if_true, if_false, Nat.zero_add, Nat.add_zero, Bool.false_eq_true, Bool.true_eq_false, Nat.lt_irrefl, iN_az, not_true_eq_false, not_false_eq_true, Nat.reduceEqDiff, Nat.reduceLT, Nat.reduceAdd, Nat.reduceMul, Nat.reduceSub]
set_option maxRecDepth 100000 in
theorem p_287 (O : Ok σ) (hq : (hc σ M (LR ρ σ N Ts B Q))[p]? = some (oI (ar n w))) (hn : n ≤ 6) (hl : l < (σ 1 6)) (hln : (σ 1 6) ≤ n) (hw : WB σ (l + 1) w) : ev xs (d + 2) 287 0 ([.ref 63, .ref p, .int (nI l), .retAddr 9, .retAddr 9, .retAddr 9], [], hc σ M (LR ρ σ N Ts B Q)) = some (.inl (some (.int (nI (b1 (al l fun o => decide (pf σ (tsl w) (trm w) l o = 0)))))), hc σ M (LR ρ σ N Ts B Q)) := by
  obtain ⟨hD1, hD2, hH1, hH2, hS, hC, hT, hR, hL, hQ⟩ := Ok_b O
  have key : ∀ k, k ≤ l → ∀ y, ev xs (d + 2) 287 1 ([.ref 63, .ref p, .int (nI l), .int (nI (b1 (al k fun o => decide (pf σ (tsl w) (trm w) l o = 0)))), .int (nI k), y], [], hc σ M (LR ρ σ N Ts B Q)) = some (.inl (some (.int (nI (b1 (al l fun o => decide (pf σ (tsl w) (trm w) l o = 0)))))), hc σ M (LR ρ σ N Ts B Q)) := by
    refine lp l ?_ ?_
    · intro y
      rw [eb_287_1]
      simp (disch := first | assumption | omega | exact st8_a (Nat.le_of_ble_eq_true rfl)) only [eb_287_15, kl_a, kl_d, kl_f, kl_i, kl_l, kl_n, kl_r, xr_1, xr_10, xr_11, xr_12, xr_13, xr_14, xr_143, xr_15, xr_2, xr_27, xr_3, xr_31, xr_32, xr_33, xr_34, xr_35, xr_36, xr_37, xr_4, xr_40, xr_44, xr_5, xr_86, af_0, af_1, xt_goto, xt_ib, xt_ic, xt_ic_eq, xt_ic_ge, xt_ic_ne, xt_if_eq, xt_if_ne, xt_ir, xt_nop, lF_10, lF_9, lA_64, lA_65, lA_66, lA_67, lA_68, lA_69, lA_70, lA_71, lA_72, lA_73, lA_75, lA_62, xq_282_12_virtualm, iN_add, iN_mul, iN_sub, iN_and, iN_or, iN_clr, iN_shl, iN_shr, tb_r1, b1_z, b1_or, b1_and, b1_or0, b1_or1, b1_0or, b1_t, b1_f, iN_lt, iN_inj, reduceIte, if_true, if_false, Nat.zero_add, Nat.add_zero, Bool.false_eq_true, Bool.true_eq_false, Nat.lt_irrefl, iN_az, not_true_eq_false, not_false_eq_true, Nat.reduceEqDiff, Nat.reduceLT, Nat.reduceAdd, Nat.reduceMul, Nat.reduceSub]
    · intro k hk ih y
      have hkL : k < (σ 1 6) := by omega
      have h1 := Ok_l O hkL
      have h2 := Ok_l O hl
      obtain ⟨s1, r1⟩ := hw k (by omega)
      obtain ⟨s2, r2⟩ := hw l (by omega)
      have v1 : w k < 60 := by omega
      have v2 : w l < 60 := by omega
      have c1 := cov_lt O (l := k) s1
      have c2 := cov_lt O (l := l) s2
      have c3 : cov σ k (w k / 10) &&& cov σ l (w l / 10) = cov σ l (w l / 10) &&& cov σ k (w k / 10) := Nat.and_comm _ _
      have c4 : cov σ l (w l / 10) &&& cov σ k (w k / 10) < 64 := Nat.lt_of_le_of_lt Nat.and_le_left c2
      have q1 := p_282 (xs := xs) (d := d) (M := M) (ρ := ρ) (N := N) (Ts := Ts) (B := B) (Q := Q) O hkL s1
      have q2 := p_282 (xs := xs) (d := d) (M := M) (ρ := ρ) (N := N) (Ts := Ts) (B := B) (Q := Q) O hl s2
      rw [eb_287_1]
      rw [al] at ih
      clear hw
      have ep : decide (pf σ (tsl w) (trm w) l k = 0) = (decide (cov σ l (w l / 10) &&& cov σ k (w k / 10) = 0) || !(decide (σ 5 k = σ 5 l) || (decide (σ 6 k = σ 6 l) || decide (w k % 10 = w l % 10)))) := by
        unfold pf sc stc
        by_cases e0 : cov σ l (w l / 10) &&& cov σ k (w k / 10) = 0
        · rw [if_pos e0, decide_eq_true e0]
          rfl
        · rw [if_neg e0, decide_eq_false e0, Bool.false_or]
          by_cases e1 : σ 5 k = σ 5 l
          · simp [e1, b1]
          · by_cases e2 : σ 6 k = σ 6 l
            · simp [e1, e2, b1]
            · by_cases e3 : w k % 10 = w l % 10
              · simp [e1, e2, e3, b1]
              · simp [e1, e2, e3, b1, Ne.symm e1, Ne.symm e2, Ne.symm e3, fun z => e1 (Eq.symm z), fun z => e2 (Eq.symm z), fun z => e3 (Eq.symm z)]
      rw [ep] at ih
      clear ep
      cases h3 : al k fun o => decide (pf σ (tsl w) (trm w) l o = 0)
      · rw [h3] at ih
        rw [Bool.false_and] at ih
        by_cases e1 : σ 5 k = σ 5 l <;> by_cases e2 : σ 6 k = σ 6 l <;> by_cases e3 : w k % 10 = w l % 10 <;> simp (disch := first | assumption | omega | exact st8_a (Nat.le_of_ble_eq_true rfl)) only [hk, h3, q_ia hq, e1, e2, e3, eb_287_2, eb_287_3, eb_287_4, eb_287_5, eb_287_6, eb_287_7, eb_287_13, eb_287_14, kl_a, kl_d, kl_f, kl_i, kl_l, kl_n, kl_r, xr_1, xr_10, xr_11, xr_12, xr_13, xr_14, xr_143, xr_15, xr_2, xr_27, xr_3, xr_31, xr_32, xr_33, xr_34, xr_35, xr_36, xr_37, xr_4, xr_40, xr_44, xr_5, xr_86, af_0, af_1, xt_goto, xt_ib, xt_ic, xt_ic_eq, xt_ic_ge, xt_ic_ne, xt_if_eq, xt_if_ne, xt_ir, xt_nop, lF_10, lF_9, lA_64, lA_65, lA_66, lA_67, lA_68, lA_69, lA_70, lA_71, lA_72, lA_73, lA_75, lA_62, xq_282_12_virtualm, iN_add, iN_mul, iN_sub, iN_and, iN_or, iN_clr, iN_shl, iN_shr, tb_r1, b1_z, b1_or, b1_and, b1_or0, b1_or1, b1_0or, b1_t, b1_f, iN_lt, iN_inj, reduceIte, if_true, if_false, Nat.zero_add, Nat.add_zero, Bool.false_eq_true, Bool.true_eq_false, Nat.lt_irrefl, iN_az, not_true_eq_false, not_false_eq_true, Nat.reduceEqDiff, Nat.reduceLT, Nat.reduceAdd, Nat.reduceMul, Nat.reduceSub] <;> exact ih _
      · rw [h3] at ih
        rw [Bool.true_and] at ih
        by_cases e0 : cov σ l (w l / 10) &&& cov σ k (w k / 10) = 0
        · rw [decide_eq_true e0, Bool.true_or] at ih
          by_cases e1 : σ 5 k = σ 5 l <;> by_cases e2 : σ 6 k = σ 6 l <;> by_cases e3 : w k % 10 = w l % 10 <;> simp (disch := first | assumption | omega | exact st8_a (Nat.le_of_ble_eq_true rfl)) only [hk, h3, q_ia hq, e1, e2, e3, q1, q2, c3, e0, eb_287_2, eb_287_3, eb_287_4, eb_287_5, eb_287_6, eb_287_7, eb_287_8, eb_287_9, eb_287_10, eb_287_11, eb_287_12, eb_287_13, eb_287_14, kl_a, kl_d, kl_f, kl_i, kl_l, kl_n, kl_r, xr_1, xr_10, xr_11, xr_12, xr_13, xr_14, xr_143, xr_15, xr_2, xr_27, xr_3, xr_31, xr_32, xr_33, xr_34, xr_35, xr_36, xr_37, xr_4, xr_40, xr_44, xr_5, xr_86, af_0, af_1, xt_goto, xt_ib, xt_ic, xt_ic_eq, xt_ic_ge, xt_ic_ne, xt_if_eq, xt_if_ne, xt_ir, xt_nop, lF_10, lF_9, lA_64, lA_65, lA_66, lA_67, lA_68, lA_69, lA_70, lA_71, lA_72, lA_73, lA_75, lA_62, xq_282_12_virtualm, iN_add, iN_mul, iN_sub, iN_and, iN_or, iN_clr, iN_shl, iN_shr, tb_r1, b1_z, b1_or, b1_and, b1_or0, b1_or1, b1_0or, b1_t, b1_f, iN_lt, iN_inj, reduceIte, if_true, if_false, Nat.zero_add, Nat.add_zero, Bool.false_eq_true, Bool.true_eq_false, Nat.lt_irrefl, iN_az, not_true_eq_false, not_false_eq_true, Nat.reduceEqDiff, Nat.reduceLT, Nat.reduceAdd, Nat.reduceMul, Nat.reduceSub] <;> exact ih _
        · rw [decide_eq_false e0, Bool.false_or] at ih
          by_cases e1 : σ 5 k = σ 5 l
          · rw [decide_eq_true e1, Bool.true_or] at ih
            simp (disch := first | assumption | omega | exact st8_a (Nat.le_of_ble_eq_true rfl)) only [hk, h3, q_ia hq, eq_true e1, q1, q2, c3, e0, eb_287_2, eb_287_3, eb_287_4, eb_287_5, eb_287_6, eb_287_7, eb_287_8, eb_287_9, eb_287_10, eb_287_11, eb_287_12, eb_287_13, eb_287_14, kl_a, kl_d, kl_f, kl_i, kl_l, kl_n, kl_r, xr_1, xr_10, xr_11, xr_12, xr_13, xr_14, xr_143, xr_15, xr_2, xr_27, xr_3, xr_31, xr_32, xr_33, xr_34, xr_35, xr_36, xr_37, xr_4, xr_40, xr_44, xr_5, xr_86, af_0, af_1, xt_goto, xt_ib, xt_ic, xt_ic_eq, xt_ic_ge, xt_ic_ne, xt_if_eq, xt_if_ne, xt_ir, xt_nop, lF_10, lF_9, lA_64, lA_65, lA_66, lA_67, lA_68, lA_69, lA_70, lA_71, lA_72, lA_73, lA_75, lA_62, xq_282_12_virtualm, iN_add, iN_mul, iN_sub, iN_and, iN_or, iN_clr, iN_shl, iN_shr, tb_r1, b1_z, b1_or, b1_and, b1_or0, b1_or1, b1_0or, b1_t, b1_f, iN_lt, iN_inj, reduceIte, if_true, if_false, Nat.zero_add, Nat.add_zero, Bool.false_eq_true, Bool.true_eq_false, Nat.lt_irrefl, iN_az, not_true_eq_false, not_false_eq_true, Nat.reduceEqDiff, Nat.reduceLT, Nat.reduceAdd, Nat.reduceMul, Nat.reduceSub]
            exact ih _
          · rw [decide_eq_false e1, Bool.false_or] at ih
            by_cases e2 : σ 6 k = σ 6 l
            · rw [decide_eq_true e2, Bool.true_or] at ih
              simp (disch := first | assumption | omega | exact st8_a (Nat.le_of_ble_eq_true rfl)) only [hk, h3, q_ia hq, e1, eq_true e2, q1, q2, c3, e0, eb_287_2, eb_287_3, eb_287_4, eb_287_5, eb_287_6, eb_287_7, eb_287_8, eb_287_9, eb_287_10, eb_287_11, eb_287_12, eb_287_13, eb_287_14, kl_a, kl_d, kl_f, kl_i, kl_l, kl_n, kl_r, xr_1, xr_10, xr_11, xr_12, xr_13, xr_14, xr_143, xr_15, xr_2, xr_27, xr_3, xr_31, xr_32, xr_33, xr_34, xr_35, xr_36, xr_37, xr_4, xr_40, xr_44, xr_5, xr_86, af_0, af_1, xt_goto, xt_ib, xt_ic, xt_ic_eq, xt_ic_ge, xt_ic_ne, xt_if_eq, xt_if_ne, xt_ir, xt_nop, lF_10, lF_9, lA_64, lA_65, lA_66, lA_67, lA_68, lA_69, lA_70, lA_71, lA_72, lA_73, lA_75, lA_62, xq_282_12_virtualm, iN_add, iN_mul, iN_sub, iN_and, iN_or, iN_clr, iN_shl, iN_shr, tb_r1, b1_z, b1_or, b1_and, b1_or0, b1_or1, b1_0or, b1_t, b1_f, iN_lt, iN_inj, reduceIte, if_true, if_false, Nat.zero_add, Nat.add_zero, Bool.false_eq_true, Bool.true_eq_false, Nat.lt_irrefl, iN_az, not_true_eq_false, not_false_eq_true, Nat.reduceEqDiff, Nat.reduceLT, Nat.reduceAdd, Nat.reduceMul, Nat.reduceSub]
              exact ih _
            · rw [decide_eq_false e2, Bool.false_or] at ih
              by_cases e3 : w k % 10 = w l % 10
              · rw [decide_eq_true e3] at ih
                simp (disch := first | assumption | omega | exact st8_a (Nat.le_of_ble_eq_true rfl)) only [hk, h3, q_ia hq, e1, e2, eq_true e3, q1, q2, c3, e0, eb_287_2, eb_287_3, eb_287_4, eb_287_5, eb_287_6, eb_287_7, eb_287_8, eb_287_9, eb_287_10, eb_287_11, eb_287_12, eb_287_13, eb_287_14, kl_a, kl_d, kl_f, kl_i, kl_l, kl_n, kl_r, xr_1, xr_10, xr_11, xr_12, xr_13, xr_14, xr_143, xr_15, xr_2, xr_27, xr_3, xr_31, xr_32, xr_33, xr_34, xr_35, xr_36, xr_37, xr_4, xr_40, xr_44, xr_5, xr_86, af_0, af_1, xt_goto, xt_ib, xt_ic, xt_ic_eq, xt_ic_ge, xt_ic_ne, xt_if_eq, xt_if_ne, xt_ir, xt_nop, lF_10, lF_9, lA_64, lA_65, lA_66, lA_67, lA_68, lA_69, lA_70, lA_71, lA_72, lA_73, lA_75, lA_62, xq_282_12_virtualm, iN_add, iN_mul, iN_sub, iN_and, iN_or, iN_clr, iN_shl, iN_shr, tb_r1, b1_z, b1_or, b1_and, b1_or0, b1_or1, b1_0or, b1_t, b1_f, iN_lt, iN_inj, reduceIte, if_true, if_false, Nat.zero_add, Nat.add_zero, Bool.false_eq_true, Bool.true_eq_false, Nat.lt_irrefl, iN_az, not_true_eq_false, not_false_eq_true, Nat.reduceEqDiff, Nat.reduceLT, Nat.reduceAdd, Nat.reduceMul, Nat.reduceSub]
                exact ih _
              · rw [decide_eq_false e3] at ih
                simp (disch := first | assumption | omega | exact st8_a (Nat.le_of_ble_eq_true rfl)) only [hk, h3, q_ia hq, e1, e2, e3, eb_287_2, eb_287_3, eb_287_4, eb_287_5, eb_287_6, eb_287_7, eb_287_8, eb_287_9, eb_287_10, eb_287_11, eb_287_12, eb_287_13, eb_287_14, kl_a, kl_d, kl_f, kl_i, kl_l, kl_n, kl_r, xr_1, xr_10, xr_11, xr_12, xr_13, xr_14, xr_143, xr_15, xr_2, xr_27, xr_3, xr_31, xr_32, xr_33, xr_34, xr_35, xr_36, xr_37, xr_4, xr_40, xr_44, xr_5, xr_86, af_0, af_1, xt_goto, xt_ib, xt_ic, xt_ic_eq, xt_ic_ge, xt_ic_ne, xt_if_eq, xt_if_ne, xt_ir, xt_nop, lF_10, lF_9, lA_64, lA_65, lA_66, lA_67, lA_68, lA_69, lA_70, lA_71, lA_72, lA_73, lA_75, lA_62, xq_282_12_virtualm, iN_add, iN_mul, iN_sub, iN_and, iN_or, iN_clr, iN_shl, iN_shr, tb_r1, b1_z, b1_or, b1_and, b1_or0, b1_or1, b1_0or, b1_t, b1_f, iN_lt, iN_inj, reduceIte, if_true, if_false, Nat.zero_add, Nat.add_zero, Bool.false_eq_true, Bool.true_eq_false, Nat.lt_irrefl, iN_az, not_true_eq_false, not_false_eq_true, Nat.reduceEqDiff, Nat.reduceLT, Nat.reduceAdd, Nat.reduceMul, Nat.reduceSub]
                exact ih _
  have e := key 0 (Nat.zero_le _) (.retAddr 9)
  clear key hw
  simp (disch := first | assumption | omega | exact st8_a (Nat.le_of_ble_eq_true rfl)) only [eb_287_0, kl_a, kl_d, kl_f, kl_i, kl_l, kl_n, kl_r, xr_1, xr_10, xr_11, xr_12, xr_13, xr_14, xr_143, xr_15, xr_2, xr_27, xr_3, xr_31, xr_32, xr_33, xr_34, xr_35, xr_36, xr_37, xr_4, xr_40, xr_44, xr_5, xr_86, af_0, af_1, xt_goto, xt_ib, xt_ic, xt_ic_eq, xt_ic_ge, xt_ic_ne, xt_if_eq, xt_if_ne, xt_ir, xt_nop, lF_10, lF_9, lA_64, lA_65, lA_66, lA_67, lA_68, lA_69, lA_70, lA_71, lA_72, lA_73, lA_75, lA_62, xq_282_12_virtualm, iN_add, iN_mul, iN_sub, iN_and, iN_or, iN_clr, iN_shl, iN_shr, tb_r1, b1_z, b1_or, b1_and, b1_or0, b1_or1, b1_0or, b1_t, b1_f, iN_lt, iN_inj, reduceIte, if_true, if_false, Nat.zero_add, Nat.add_zero, Bool.false_eq_true, Bool.true_eq_false, Nat.lt_irrefl, iN_az, not_true_eq_false, not_false_eq_true, Nat.reduceEqDiff, Nat.reduceLT, Nat.reduceAdd, Nat.reduceMul, Nat.reduceSub]
  exact e
set_option maxRecDepth 100000 in
theorem p_289 (hN : N ≤ 2000) (hB : ∀ k, k < N → B k < 1024) (hu : u < 4294967296) : ev xs d 289 0 ([.ref 63, .int (nI u), .retAddr 9], [], hc σ M (LR ρ σ N Ts B Q)) = some (.inl (some (.int (nI (b1 (an N fun k => decide (B k &&& u = 0)))))), hc σ M (LR ρ σ N Ts B Q)) := by
  have key : ∀ k, k ≤ N → (an k fun k => decide (B k &&& u = 0)) = false → ev xs d 289 1 ([.ref 63, .int (nI u), .int (nI k)], [], hc σ M (LR ρ σ N Ts B Q)) = some (.inl (some (.int (nI (b1 (an N fun k => decide (B k &&& u = 0)))))), hc σ M (LR ρ σ N Ts B Q)) := by
    refine lp N ?_ ?_
    · intro h0
      rw [h0, eb_289_1]
      simp (disch := first | assumption | omega | exact st8_a (Nat.le_of_ble_eq_true rfl)) only [eb_289_5, kl_a, kl_d, kl_f, kl_i, kl_l, kl_n, kl_r, xr_1, xr_10, xr_2, xr_27, xr_28, xr_3, xr_30, xr_31, xr_4, xr_42, xr_44, xr_5, xt_goto, xt_ib, xt_ic, xt_ic_ge, xt_if_ne, xt_ir, xt_nop, lF_18, lF_19, lA_64, lA_65, lA_66, lA_67, lA_68, lA_69, lA_70, lA_71, lA_72, lA_73, lA_75, lA_62, iN_add, iN_mul, iN_sub, iN_and, iN_or, iN_clr, iN_shl, iN_shr, tb_r1, b1_z, b1_or, b1_and, b1_or0, b1_or1, b1_0or, b1_t, b1_f, iN_lt, iN_inj, reduceIte, if_true, if_false, Nat.zero_add, Nat.add_zero, Bool.false_eq_true, Bool.true_eq_false, Nat.lt_irrefl, iN_az, not_true_eq_false, not_false_eq_true, Nat.reduceEqDiff, Nat.reduceLT, Nat.reduceAdd, Nat.reduceMul, Nat.reduceSub]
    · intro k hk ih h0
      have hb := hB k hk
      have c1 : B k &&& u < 1024 := Nat.lt_of_le_of_lt Nat.and_le_left hb
      rw [eb_289_1]
      by_cases h1 : B k &&& u = 0
      · rw [an_t.mpr ⟨k, hk, decide_eq_true h1⟩]
        clear ih
        simp (disch := first | assumption | omega | exact st8_a (Nat.le_of_ble_eq_true rfl)) only [hk, h1, eb_289_2, eb_289_3, kl_a, kl_d, kl_f, kl_i, kl_l, kl_n, kl_r, xr_1, xr_10, xr_2, xr_27, xr_28, xr_3, xr_30, xr_31, xr_4, xr_42, xr_44, xr_5, xt_goto, xt_ib, xt_ic, xt_ic_ge, xt_if_ne, xt_ir, xt_nop, lF_18, lF_19, lA_64, lA_65, lA_66, lA_67, lA_68, lA_69, lA_70, lA_71, lA_72, lA_73, lA_75, lA_62, iN_add, iN_mul, iN_sub, iN_and, iN_or, iN_clr, iN_shl, iN_shr, tb_r1, b1_z, b1_or, b1_and, b1_or0, b1_or1, b1_0or, b1_t, b1_f, iN_lt, iN_inj, reduceIte, if_true, if_false, Nat.zero_add, Nat.add_zero, Bool.false_eq_true, Bool.true_eq_false, Nat.lt_irrefl, iN_az, not_true_eq_false, not_false_eq_true, Nat.reduceEqDiff, Nat.reduceLT, Nat.reduceAdd, Nat.reduceMul, Nat.reduceSub]
      · have e := ih (by rw [an, h0, decide_eq_false h1]; rfl)
        clear ih
        simp (disch := first | assumption | omega | exact st8_a (Nat.le_of_ble_eq_true rfl)) only [hk, h1, eb_289_2, eb_289_4, kl_a, kl_d, kl_f, kl_i, kl_l, kl_n, kl_r, xr_1, xr_10, xr_2, xr_27, xr_28, xr_3, xr_30, xr_31, xr_4, xr_42, xr_44, xr_5, xt_goto, xt_ib, xt_ic, xt_ic_ge, xt_if_ne, xt_ir, xt_nop, lF_18, lF_19, lA_64, lA_65, lA_66, lA_67, lA_68, lA_69, lA_70, lA_71, lA_72, lA_73, lA_75, lA_62, iN_add, iN_mul, iN_sub, iN_and, iN_or, iN_clr, iN_shl, iN_shr, tb_r1, b1_z, b1_or, b1_and, b1_or0, b1_or1, b1_0or, b1_t, b1_f, iN_lt, iN_inj, reduceIte, if_true, if_false, Nat.zero_add, Nat.add_zero, Bool.false_eq_true, Bool.true_eq_false, Nat.lt_irrefl, iN_az, not_true_eq_false, not_false_eq_true, Nat.reduceEqDiff, Nat.reduceLT, Nat.reduceAdd, Nat.reduceMul, Nat.reduceSub]
        exact e
  have e := key 0 (Nat.zero_le _) rfl
  clear key
  simp (disch := first | assumption | omega | exact st8_a (Nat.le_of_ble_eq_true rfl)) only [eb_289_0, kl_a, kl_d, kl_f, kl_i, kl_l, kl_n, kl_r, xr_1, xr_10, xr_2, xr_27, xr_28, xr_3, xr_30, xr_31, xr_4, xr_42, xr_44, xr_5, xt_goto, xt_ib, xt_ic, xt_ic_ge, xt_if_ne, xt_ir, xt_nop, lF_18, lF_19, lA_64, lA_65, lA_66, lA_67, lA_68, lA_69, lA_70, lA_71, lA_72, lA_73, lA_75, lA_62, iN_add, iN_mul, iN_sub, iN_and, iN_or, iN_clr, iN_shl, iN_shr, tb_r1, b1_z, b1_or, b1_and, b1_or0, b1_or1, b1_0or, b1_t, b1_f, iN_lt, iN_inj, reduceIte, if_true, if_false, Nat.zero_add, Nat.add_zero, Bool.false_eq_true, Bool.true_eq_false, Nat.lt_irrefl, iN_az, not_true_eq_false, not_false_eq_true, Nat.reduceEqDiff, Nat.reduceLT, Nat.reduceAdd, Nat.reduceMul, Nat.reduceSub]
  exact e
set_option maxRecDepth 100000 in
theorem p_290 (O : Ok σ) (hq : (hc σ M (LR ρ σ N Ts B Q))[p]? = some (oI (ar n w))) (hn : n ≤ 6) (hln : (σ 1 6) ≤ n) (hw : WB σ (σ 1 6) w) : ev xs (d + 3) 290 0 ([.ref 63, .ref p, .retAddr 9, .retAddr 9, .retAddr 9], [], hc σ M (LR ρ σ N Ts B Q)) = some (.inl (some (.int (nI (wt σ (tsl w) (trm w))))), hc σ M (LR ρ σ N Ts B Q)) := by
  obtain ⟨hD1, hD2, hH1, hH2, hS, hC, hT, hR, hL, hQ⟩ := Ok_b O
  have hs : ∀ l, l < (σ 1 6) → (tsl w) l < (σ 1 2) := fun l hl => (hw l hl).1
  have w0 := Ok_w O (i := 0) (by decide)
  have w1 := Ok_w O (i := 1) (by decide)
  have w2 := Ok_w O (i := 2) (by decide)
  have key2 : ∀ k, k ≤ (σ 1 4) → ∀ acc y1, acc = (sm (σ 1 6) fun l => wv σ l (w l / 10) (w l % 10)) + (sm k fun u => σ 11 2 * gap σ (ctc σ (tsl w) u)) → ev xs (d + 3) 290 9 ([.ref 63, .ref p, .int (nI acc), .int (nI k), y1], [], hc σ M (LR ρ σ N Ts B Q)) = some (.inl (some (.int (nI (wt σ (tsl w) (trm w))))), hc σ M (LR ρ σ N Ts B Q)) := by
    refine lp (σ 1 4) ?_ ?_
    · intro acc y1 ha
      rw [eb_290_9]
      clear hw hs
      simp (disch := first | assumption | omega | exact st8_a (Nat.le_of_ble_eq_true rfl)) only [eb_290_19, kl_a, kl_d, kl_f, kl_i, kl_l, kl_n, kl_r, xr_1, xr_10, xr_11, xr_12, xr_13, xr_14, xr_143, xr_15, xr_2, xr_27, xr_3, xr_30, xr_31, xr_32, xr_33, xr_34, xr_37, xr_38, xr_4, xr_40, xr_41, xr_43, xr_44, xr_5, xr_55, xr_64, xr_65, xr_66, xr_71, xr_86, xr_87, af_0, af_1, xt_goto, xt_ib, xt_ic, xt_ic_eq, xt_ic_ge, xt_ic_ne, xt_ir, xt_nop, lF_0, lF_1, lF_16, lF_6, lF_7, lF_8, lF_9, lA_64, lA_65, lA_66, lA_67, lA_68, lA_69, lA_70, lA_71, lA_72, lA_73, lA_75, lA_62, xq_283_12_virtualm, xq_285_12_virtualm, iN_add, iN_mul, iN_sub, iN_and, iN_or, iN_clr, iN_shl, iN_shr, tb_r1, b1_z, b1_or, b1_and, b1_or0, b1_or1, b1_0or, b1_t, b1_f, iN_lt, iN_inj, reduceIte, if_true, if_false, Nat.zero_add, Nat.add_zero, Bool.false_eq_true, Bool.true_eq_false, Nat.lt_irrefl, iN_az, not_true_eq_false, not_false_eq_true, Nat.reduceEqDiff, Nat.reduceLT, Nat.reduceAdd, Nat.reduceMul, Nat.reduceSub]
      rw [ha]
      rfl
    · intro k hk ih acc y1 ha
      have hb : ctc σ (tsl w) k < 64 := ctc_lt O hs k
      have e2 := p_285 (xs := xs) (d := d) (M := M) (ρ := ρ) (N := N) (Ts := Ts) (B := B) O hq hn hln hw (show k < 2147483648 by omega)
      rw [eb_290_9]
      by_cases h3 : (σ 1 1) = 3
      · have inn : ∀ j, j ≤ (σ 1 0) → ∀ acc, acc = (sm (σ 1 6) fun l => wv σ l (w l / 10) (w l % 10)) + (sm k fun u => σ 11 2 * gap σ (ctc σ (tsl w) u)) + σ 11 2 * (sm j fun y => b1 (decide ((ctc σ (tsl w) k &&& dm σ y) >>> (y * (σ 1 1)) = 5))) → ev xs (d + 3) 290 11 ([.ref 63, .ref p, .int (nI acc), .int (nI k), .int (nI j)], [], hc σ M (LR ρ σ N Ts B Q)) = some (.inl (some (.int (nI (wt σ (tsl w) (trm w))))), hc σ M (LR ρ σ N Ts B Q)) := by
          refine lp (σ 1 0) ?_ ?_
          · intro acc ha
            have e := ih acc (.int (nI (σ 1 0))) (by rw [ha, sm, ← Nat.add_assoc]; rfl)
            rw [eb_290_11]
            clear hw hs ih ha
            simp (disch := first | assumption | omega | exact st8_a (Nat.le_of_ble_eq_true rfl)) only [eb_290_18, kl_a, kl_d, kl_f, kl_i, kl_l, kl_n, kl_r, xr_1, xr_10, xr_11, xr_12, xr_13, xr_14, xr_143, xr_15, xr_2, xr_27, xr_3, xr_30, xr_31, xr_32, xr_33, xr_34, xr_37, xr_38, xr_4, xr_40, xr_41, xr_43, xr_44, xr_5, xr_55, xr_64, xr_65, xr_66, xr_71, xr_86, xr_87, af_0, af_1, xt_goto, xt_ib, xt_ic, xt_ic_eq, xt_ic_ge, xt_ic_ne, xt_ir, xt_nop, lF_0, lF_1, lF_16, lF_6, lF_7, lF_8, lF_9, lA_64, lA_65, lA_66, lA_67, lA_68, lA_69, lA_70, lA_71, lA_72, lA_73, lA_75, lA_62, xq_283_12_virtualm, xq_285_12_virtualm, iN_add, iN_mul, iN_sub, iN_and, iN_or, iN_clr, iN_shl, iN_shr, tb_r1, b1_z, b1_or, b1_and, b1_or0, b1_or1, b1_0or, b1_t, b1_f, iN_lt, iN_inj, reduceIte, if_true, if_false, Nat.zero_add, Nat.add_zero, Bool.false_eq_true, Bool.true_eq_false, Nat.lt_irrefl, iN_az, not_true_eq_false, not_false_eq_true, Nat.reduceEqDiff, Nat.reduceLT, Nat.reduceAdd, Nat.reduceMul, Nat.reduceSub]
            exact e
          · intro j hj ih2 acc ha
            obtain ⟨-, -, -, f1, -⟩ := dm_sh O hj hb
            have f1 := f1 h3
            rw [h3] at f1
            have h2 : 3 * j < 32 := by omega
            rw [show j * 3 = 3 * j by omega] at f1
            have g1 : (ctc σ (tsl w) k) >>> (3 * j) < 64 := Nat.lt_of_le_of_lt (Nat.shiftRight_le _ _) hb
            have g2 : (ctc σ (tsl w) k) >>> (3 * j) &&& 7 < 64 := Nat.lt_of_le_of_lt Nat.and_le_left g1
            rw [eb_290_11]
            by_cases h4 : (ctc σ (tsl w) k) >>> (3 * j) &&& 7 = 5
            · have e := ih2 (acc + σ 11 2) (by
                have h6 : (ctc σ (tsl w) k &&& dm σ j) >>> (j * (σ 1 1)) = 5 := by rw [h3, show j * 3 = 3 * j by omega]; exact f1.mp h4
                rw [ha, sm, decide_eq_true h6, b1_t, Nat.mul_add, Nat.mul_one]; omega)
              clear ih2 ih ha f1 hw hs
              simp (disch := first | assumption | omega | exact st8_a (Nat.le_of_ble_eq_true rfl)) only [hj, h3, e2, eq_true h4, eb_290_12, eb_290_13, eb_290_14, eb_290_15, eb_290_17, kl_a, kl_d, kl_f, kl_i, kl_l, kl_n, kl_r, xr_1, xr_10, xr_11, xr_12, xr_13, xr_14, xr_143, xr_15, xr_2, xr_27, xr_3, xr_30, xr_31, xr_32, xr_33, xr_34, xr_37, xr_38, xr_4, xr_40, xr_41, xr_43, xr_44, xr_5, xr_55, xr_64, xr_65, xr_66, xr_71, xr_86, xr_87, af_0, af_1, xt_goto, xt_ib, xt_ic, xt_ic_eq, xt_ic_ge, xt_ic_ne, xt_ir, xt_nop, lF_0, lF_1, lF_16, lF_6, lF_7, lF_8, lF_9, lA_64, lA_65, lA_66, lA_67, lA_68, lA_69, lA_70, lA_71, lA_72, lA_73, lA_75, lA_62, xq_283_12_virtualm, xq_285_12_virtualm, iN_add, iN_mul, iN_sub, iN_and, iN_or, iN_clr, iN_shl, iN_shr, tb_r1, b1_z, b1_or, b1_and, b1_or0, b1_or1, b1_0or, b1_t, b1_f, iN_lt, iN_inj, reduceIte, if_true, if_false, Nat.zero_add, Nat.add_zero, Bool.false_eq_true, Bool.true_eq_false, Nat.lt_irrefl, iN_az, not_true_eq_false, not_false_eq_true, Nat.reduceEqDiff, Nat.reduceLT, Nat.reduceAdd, Nat.reduceMul, Nat.reduceSub]
              exact e
            · have e := ih2 acc (by
                have h6 : ¬ (ctc σ (tsl w) k &&& dm σ j) >>> (j * (σ 1 1)) = 5 := by rw [h3, show j * 3 = 3 * j by omega]; exact fun z => h4 (f1.mpr z)
                rw [ha, sm, decide_eq_false h6, b1_f, Nat.add_zero])
              clear ih2 ih ha f1 hw hs
              simp (disch := first | assumption | omega | exact st8_a (Nat.le_of_ble_eq_true rfl)) only [hj, h3, e2, h4, eb_290_12, eb_290_13, eb_290_14, eb_290_16, eb_290_17, kl_a, kl_d, kl_f, kl_i, kl_l, kl_n, kl_r, xr_1, xr_10, xr_11, xr_12, xr_13, xr_14, xr_143, xr_15, xr_2, xr_27, xr_3, xr_30, xr_31, xr_32, xr_33, xr_34, xr_37, xr_38, xr_4, xr_40, xr_41, xr_43, xr_44, xr_5, xr_55, xr_64, xr_65, xr_66, xr_71, xr_86, xr_87, af_0, af_1, xt_goto, xt_ib, xt_ic, xt_ic_eq, xt_ic_ge, xt_ic_ne, xt_ir, xt_nop, lF_0, lF_1, lF_16, lF_6, lF_7, lF_8, lF_9, lA_64, lA_65, lA_66, lA_67, lA_68, lA_69, lA_70, lA_71, lA_72, lA_73, lA_75, lA_62, xq_283_12_virtualm, xq_285_12_virtualm, iN_add, iN_mul, iN_sub, iN_and, iN_or, iN_clr, iN_shl, iN_shr, tb_r1, b1_z, b1_or, b1_and, b1_or0, b1_or1, b1_0or, b1_t, b1_f, iN_lt, iN_inj, reduceIte, if_true, if_false, Nat.zero_add, Nat.add_zero, Bool.false_eq_true, Bool.true_eq_false, Nat.lt_irrefl, iN_az, not_true_eq_false, not_false_eq_true, Nat.reduceEqDiff, Nat.reduceLT, Nat.reduceAdd, Nat.reduceMul, Nat.reduceSub]
              exact e
        have e := inn 0 (Nat.zero_le _) acc (by rw [ha, sm, Nat.mul_zero, Nat.add_zero])
        clear inn ih ha hw hs
        simp (disch := first | assumption | omega | exact st8_a (Nat.le_of_ble_eq_true rfl)) only [hk, eb_290_10, kl_a, kl_d, kl_f, kl_i, kl_l, kl_n, kl_r, xr_1, xr_10, xr_11, xr_12, xr_13, xr_14, xr_143, xr_15, xr_2, xr_27, xr_3, xr_30, xr_31, xr_32, xr_33, xr_34, xr_37, xr_38, xr_4, xr_40, xr_41, xr_43, xr_44, xr_5, xr_55, xr_64, xr_65, xr_66, xr_71, xr_86, xr_87, af_0, af_1, xt_goto, xt_ib, xt_ic, xt_ic_eq, xt_ic_ge, xt_ic_ne, xt_ir, xt_nop, lF_0, lF_1, lF_16, lF_6, lF_7, lF_8, lF_9, lA_64, lA_65, lA_66, lA_67, lA_68, lA_69, lA_70, lA_71, lA_72, lA_73, lA_75, lA_62, xq_283_12_virtualm, xq_285_12_virtualm, iN_add, iN_mul, iN_sub, iN_and, iN_or, iN_clr, iN_shl, iN_shr, tb_r1, b1_z, b1_or, b1_and, b1_or0, b1_or1, b1_0or, b1_t, b1_f, iN_lt, iN_inj, reduceIte, if_true, if_false, Nat.zero_add, Nat.add_zero, Bool.false_eq_true, Bool.true_eq_false, Nat.lt_irrefl, iN_az, not_true_eq_false, not_false_eq_true, Nat.reduceEqDiff, Nat.reduceLT, Nat.reduceAdd, Nat.reduceMul, Nat.reduceSub]
        exact e
      · have e := ih acc (.int (nI 0)) (by
          rw [ha, sm]
          have : gap σ (ctc σ (tsl w) k) = 0 := sm_z.mpr fun y hy => by
            rw [decide_eq_false ((dm_sh O hy hb).2.2.2.2 h3)]
            rfl
          rw [this, Nat.mul_zero, Nat.add_zero])
        have hD0 : 0 < (σ 1 0) := by omega
        clear ih ha hw hs
        have e3 : ev xs (d + 3) 290 11 ([.ref 63, .ref p, .int (nI acc), .int (nI k), .int (nI 0)], [], hc σ M (LR ρ σ N Ts B Q)) = some (.inl (some (.int (nI (wt σ (tsl w) (trm w))))), hc σ M (LR ρ σ N Ts B Q)) := by
          rw [eb_290_11]
          simp (disch := first | assumption | omega | exact st8_a (Nat.le_of_ble_eq_true rfl)) only [hD0, h3, eb_290_12, eb_290_18, kl_a, kl_d, kl_f, kl_i, kl_l, kl_n, kl_r, xr_1, xr_10, xr_11, xr_12, xr_13, xr_14, xr_143, xr_15, xr_2, xr_27, xr_3, xr_30, xr_31, xr_32, xr_33, xr_34, xr_37, xr_38, xr_4, xr_40, xr_41, xr_43, xr_44, xr_5, xr_55, xr_64, xr_65, xr_66, xr_71, xr_86, xr_87, af_0, af_1, xt_goto, xt_ib, xt_ic, xt_ic_eq, xt_ic_ge, xt_ic_ne, xt_ir, xt_nop, lF_0, lF_1, lF_16, lF_6, lF_7, lF_8, lF_9, lA_64, lA_65, lA_66, lA_67, lA_68, lA_69, lA_70, lA_71, lA_72, lA_73, lA_75, lA_62, xq_283_12_virtualm, xq_285_12_virtualm, iN_add, iN_mul, iN_sub, iN_and, iN_or, iN_clr, iN_shl, iN_shr, tb_r1, b1_z, b1_or, b1_and, b1_or0, b1_or1, b1_0or, b1_t, b1_f, iN_lt, iN_inj, reduceIte, if_true, if_false, Nat.zero_add, Nat.add_zero, Bool.false_eq_true, Bool.true_eq_false, Nat.lt_irrefl, iN_az, not_true_eq_false, not_false_eq_true, Nat.reduceEqDiff, Nat.reduceLT, Nat.reduceAdd, Nat.reduceMul, Nat.reduceSub]
          exact e
        simp (disch := first | assumption | omega | exact st8_a (Nat.le_of_ble_eq_true rfl)) only [hk, eb_290_10, kl_a, kl_d, kl_f, kl_i, kl_l, kl_n, kl_r, xr_1, xr_10, xr_11, xr_12, xr_13, xr_14, xr_143, xr_15, xr_2, xr_27, xr_3, xr_30, xr_31, xr_32, xr_33, xr_34, xr_37, xr_38, xr_4, xr_40, xr_41, xr_43, xr_44, xr_5, xr_55, xr_64, xr_65, xr_66, xr_71, xr_86, xr_87, af_0, af_1, xt_goto, xt_ib, xt_ic, xt_ic_eq, xt_ic_ge, xt_ic_ne, xt_ir, xt_nop, lF_0, lF_1, lF_16, lF_6, lF_7, lF_8, lF_9, lA_64, lA_65, lA_66, lA_67, lA_68, lA_69, lA_70, lA_71, lA_72, lA_73, lA_75, lA_62, xq_283_12_virtualm, xq_285_12_virtualm, iN_add, iN_mul, iN_sub, iN_and, iN_or, iN_clr, iN_shl, iN_shr, tb_r1, b1_z, b1_or, b1_and, b1_or0, b1_or1, b1_0or, b1_t, b1_f, iN_lt, iN_inj, reduceIte, if_true, if_false, Nat.zero_add, Nat.add_zero, Bool.false_eq_true, Bool.true_eq_false, Nat.lt_irrefl, iN_az, not_true_eq_false, not_false_eq_true, Nat.reduceEqDiff, Nat.reduceLT, Nat.reduceAdd, Nat.reduceMul, Nat.reduceSub]
        exact e3
  have key : ∀ k, k ≤ (σ 1 6) → ∀ y, ev xs (d + 3) 290 1 ([.ref 63, .ref p, .int (nI (sm k fun l => wv σ l (w l / 10) (w l % 10))), .int (nI k), y], [], hc σ M (LR ρ σ N Ts B Q)) = some (.inl (some (.int (nI (wt σ (tsl w) (trm w))))), hc σ M (LR ρ σ N Ts B Q)) := by
    refine lp (σ 1 6) ?_ ?_
    · intro y
      have e := key2 0 (Nat.zero_le _) _ y rfl
      rw [eb_290_1]
      clear key2 hw hs
      rw [sm, Nat.add_zero] at e
      simp (disch := first | assumption | omega | exact st8_a (Nat.le_of_ble_eq_true rfl)) only [eb_290_8, kl_a, kl_d, kl_f, kl_i, kl_l, kl_n, kl_r, xr_1, xr_10, xr_11, xr_12, xr_13, xr_14, xr_143, xr_15, xr_2, xr_27, xr_3, xr_30, xr_31, xr_32, xr_33, xr_34, xr_37, xr_38, xr_4, xr_40, xr_41, xr_43, xr_44, xr_5, xr_55, xr_64, xr_65, xr_66, xr_71, xr_86, xr_87, af_0, af_1, xt_goto, xt_ib, xt_ic, xt_ic_eq, xt_ic_ge, xt_ic_ne, xt_ir, xt_nop, lF_0, lF_1, lF_16, lF_6, lF_7, lF_8, lF_9, lA_64, lA_65, lA_66, lA_67, lA_68, lA_69, lA_70, lA_71, lA_72, lA_73, lA_75, lA_62, xq_283_12_virtualm, xq_285_12_virtualm, iN_add, iN_mul, iN_sub, iN_and, iN_or, iN_clr, iN_shl, iN_shr, tb_r1, b1_z, b1_or, b1_and, b1_or0, b1_or1, b1_0or, b1_t, b1_f, iN_lt, iN_inj, reduceIte, if_true, if_false, Nat.zero_add, Nat.add_zero, Bool.false_eq_true, Bool.true_eq_false, Nat.lt_irrefl, iN_az, not_true_eq_false, not_false_eq_true, Nat.reduceEqDiff, Nat.reduceLT, Nat.reduceAdd, Nat.reduceMul, Nat.reduceSub]
      exact e
    · intro k hk ih y
      obtain ⟨s1, r1⟩ := hw k hk
      have v1 : w k < 60 := by omega
      obtain ⟨h1, h2, h3⟩ := Ok_l O hk
      have h4 := Ok_c O h1
      have h5 := las_lt (σ := σ) (l := k) s1
      have h8 : ¬ w k % 10 = 4294967295 := by omega
      have h9 := hou_lt O h5
      have m1 := p_283 (xs := xs) (d := d) (M := M) (ρ := ρ) (N := N) (Ts := Ts) (B := B) (Q := Q) O hk s1
      rw [eb_290_1]
      rw [sm] at ih
      unfold wv at ih
      unfold wv
      clear hw hs key2
      by_cases h6 : σ 3 (σ 5 k) = 4294967295
      · rw [if_neg (by intro z; exact z.1 h6)] at ih
        simp (disch := first | assumption | omega | exact st8_a (Nat.le_of_ble_eq_true rfl)) only [hk, q_ia hq, m1, hou_m O h5, h6, Nat.add_zero, eb_290_2, eb_290_3, eb_290_6, eb_290_7, kl_a, kl_d, kl_f, kl_i, kl_l, kl_n, kl_r, xr_1, xr_10, xr_11, xr_12, xr_13, xr_14, xr_143, xr_15, xr_2, xr_27, xr_3, xr_30, xr_31, xr_32, xr_33, xr_34, xr_37, xr_38, xr_4, xr_40, xr_41, xr_43, xr_44, xr_5, xr_55, xr_64, xr_65, xr_66, xr_71, xr_86, xr_87, af_0, af_1, xt_goto, xt_ib, xt_ic, xt_ic_eq, xt_ic_ge, xt_ic_ne, xt_ir, xt_nop, lF_0, lF_1, lF_16, lF_6, lF_7, lF_8, lF_9, lA_64, lA_65, lA_66, lA_67, lA_68, lA_69, lA_70, lA_71, lA_72, lA_73, lA_75, lA_62, xq_283_12_virtualm, xq_285_12_virtualm, iN_add, iN_mul, iN_sub, iN_and, iN_or, iN_clr, iN_shl, iN_shr, tb_r1, b1_z, b1_or, b1_and, b1_or0, b1_or1, b1_0or, b1_t, b1_f, iN_lt, iN_inj, reduceIte, if_true, if_false, Nat.zero_add, Bool.false_eq_true, Bool.true_eq_false, Nat.lt_irrefl, iN_az, not_true_eq_false, not_false_eq_true, Nat.reduceEqDiff, Nat.reduceLT, Nat.reduceAdd, Nat.reduceMul, Nat.reduceSub]
        exact ih _
      · by_cases h7 : σ 3 (σ 5 k) = w k % 10
        · rw [if_neg (by intro z; exact z.2 h7)] at ih
          simp (disch := first | assumption | omega | exact st8_a (Nat.le_of_ble_eq_true rfl)) only [hk, q_ia hq, m1, hou_m O h5, h6, h7, h8, Nat.add_zero, eb_290_2, eb_290_3, eb_290_4, eb_290_6, eb_290_7, kl_a, kl_d, kl_f, kl_i, kl_l, kl_n, kl_r, xr_1, xr_10, xr_11, xr_12, xr_13, xr_14, xr_143, xr_15, xr_2, xr_27, xr_3, xr_30, xr_31, xr_32, xr_33, xr_34, xr_37, xr_38, xr_4, xr_40, xr_41, xr_43, xr_44, xr_5, xr_55, xr_64, xr_65, xr_66, xr_71, xr_86, xr_87, af_0, af_1, xt_goto, xt_ib, xt_ic, xt_ic_eq, xt_ic_ge, xt_ic_ne, xt_ir, xt_nop, lF_0, lF_1, lF_16, lF_6, lF_7, lF_8, lF_9, lA_64, lA_65, lA_66, lA_67, lA_68, lA_69, lA_70, lA_71, lA_72, lA_73, lA_75, lA_62, xq_283_12_virtualm, xq_285_12_virtualm, iN_add, iN_mul, iN_sub, iN_and, iN_or, iN_clr, iN_shl, iN_shr, tb_r1, b1_z, b1_or, b1_and, b1_or0, b1_or1, b1_0or, b1_t, b1_f, iN_lt, iN_inj, reduceIte, if_true, if_false, Nat.zero_add, Bool.false_eq_true, Bool.true_eq_false, Nat.lt_irrefl, iN_az, not_true_eq_false, not_false_eq_true, Nat.reduceEqDiff, Nat.reduceLT, Nat.reduceAdd, Nat.reduceMul, Nat.reduceSub]
          exact ih _
        · rw [if_pos ⟨h6, h7⟩] at ih
          simp (disch := first | assumption | omega | exact st8_a (Nat.le_of_ble_eq_true rfl)) only [hk, q_ia hq, m1, hou_m O h5, h6, h7, eb_290_2, eb_290_3, eb_290_4, eb_290_5, eb_290_7, kl_a, kl_d, kl_f, kl_i, kl_l, kl_n, kl_r, xr_1, xr_10, xr_11, xr_12, xr_13, xr_14, xr_143, xr_15, xr_2, xr_27, xr_3, xr_30, xr_31, xr_32, xr_33, xr_34, xr_37, xr_38, xr_4, xr_40, xr_41, xr_43, xr_44, xr_5, xr_55, xr_64, xr_65, xr_66, xr_71, xr_86, xr_87, af_0, af_1, xt_goto, xt_ib, xt_ic, xt_ic_eq, xt_ic_ge, xt_ic_ne, xt_ir, xt_nop, lF_0, lF_1, lF_16, lF_6, lF_7, lF_8, lF_9, lA_64, lA_65, lA_66, lA_67, lA_68, lA_69, lA_70, lA_71, lA_72, lA_73, lA_75, lA_62, xq_283_12_virtualm, xq_285_12_virtualm, iN_add, iN_mul, iN_sub, iN_and, iN_or, iN_clr, iN_shl, iN_shr, tb_r1, b1_z, b1_or, b1_and, b1_or0, b1_or1, b1_0or, b1_t, b1_f, iN_lt, iN_inj, reduceIte, if_true, if_false, Nat.zero_add, Nat.add_zero, Bool.false_eq_true, Bool.true_eq_false, Nat.lt_irrefl, iN_az, not_true_eq_false, not_false_eq_true, Nat.reduceEqDiff, Nat.reduceLT, Nat.reduceAdd, Nat.reduceMul, Nat.reduceSub]
          exact ih _
  have e := key 0 (Nat.zero_le _) (.retAddr 9)
  rw [sm] at e
  clear key key2 hw hs
  simp (disch := first | assumption | omega | exact st8_a (Nat.le_of_ble_eq_true rfl)) only [eb_290_0, kl_a, kl_d, kl_f, kl_i, kl_l, kl_n, kl_r, xr_1, xr_10, xr_11, xr_12, xr_13, xr_14, xr_143, xr_15, xr_2, xr_27, xr_3, xr_30, xr_31, xr_32, xr_33, xr_34, xr_37, xr_38, xr_4, xr_40, xr_41, xr_43, xr_44, xr_5, xr_55, xr_64, xr_65, xr_66, xr_71, xr_86, xr_87, af_0, af_1, xt_goto, xt_ib, xt_ic, xt_ic_eq, xt_ic_ge, xt_ic_ne, xt_ir, xt_nop, lF_0, lF_1, lF_16, lF_6, lF_7, lF_8, lF_9, lA_64, lA_65, lA_66, lA_67, lA_68, lA_69, lA_70, lA_71, lA_72, lA_73, lA_75, lA_62, xq_283_12_virtualm, xq_285_12_virtualm, iN_add, iN_mul, iN_sub, iN_and, iN_or, iN_clr, iN_shl, iN_shr, tb_r1, b1_z, b1_or, b1_and, b1_or0, b1_or1, b1_0or, b1_t, b1_f, iN_lt, iN_inj, reduceIte, if_true, if_false, Nat.zero_add, Nat.add_zero, Bool.false_eq_true, Bool.true_eq_false, Nat.lt_irrefl, iN_az, not_true_eq_false, not_false_eq_true, Nat.reduceEqDiff, Nat.reduceLT, Nat.reduceAdd, Nat.reduceMul, Nat.reduceSub]
  exact e
end Pa
