/-! THE CLASS Search: seek -/
section Si
variable {xs : List Int32} {σ M N N2 M' : Nat → Nat → Nat} {R : ab_H} {e : Nat}
set_option maxRecDepth 100000 in
theorem pc_z (n : Nat) : pc n 0 = 0 := by
  rw [pc_sm]
  exact sm_z.mpr fun i _ => by rw [Nat.zero_testBit]; rfl
set_option maxRecDepth 100000 in
theorem usd_0 (t : Nat) : usd σ M 0 t = 0 := by
  rw [z_tb]
  intro i
  rw [← Bool.not_eq_true]
  intro h
  unfold usd at h
  obtain ⟨k, hk, h2⟩ := orn_tb.mp h
  simp at h2
-- what stays of a lesson's slots by the limits of the days alone
set_option maxRecDepth 100000 in
theorem dom_0 (O : Ok σ) (hW : QW σ M) {l x i : Nat} (hl : l < (σ 1 6)) (hx : x.testBit i = ((M 20 l).testBit i && !(decide (M 22 (σ 6 l) < (σ 1 1)) && (decide (i < (σ 1 2)) && decide (M 22 (σ 6 l) < pc 10 ((0 ||| cov σ l i) &&& dm σ (dy σ i))))))) : x.testBit i = true ↔ (M 20 l).testBit i = true ∧ DLm σ M (σ 6 l) (0 ||| cov σ l i) := by
  obtain ⟨hD1, hD2, hH1, hH2, hS, hC, hT, hR, hL, hQ⟩ := Ok_b O
  rw [hx, Nat.zero_or]
  simp only [Bool.and_eq_true, Bool.not_eq_true', Bool.and_eq_false_iff, decide_eq_false_iff_not]
  constructor
  · rintro ⟨z1, z2⟩
    refine ⟨z1, fun y hy => ?_⟩
    have hi := hW.1 l hl i z1
    by_cases hyd : y = dy σ i
    · subst hyd
      rcases z2 with z2 | z2 | z2
      · exact Nat.le_trans (pc_dm O _ hy) (by omega)
      · exact absurd hi.1 z2
      · omega
    · rw [cov_dy O hl hi.1 hi.2 hy hyd, pc_z]
      exact Nat.zero_le _
  · rintro ⟨z1, z2⟩
    have hi := hW.1 l hl i z1
    have hdy : dy σ i < (σ 1 0) := by
      unfold dy
      split <;> omega
    have := z2 _ hdy
    exact ⟨z1, .inr (.inr (by omega))⟩
set_option maxRecDepth 100000 in
theorem s_74 (O : Ok σ) (hW : QW σ M) (hdb : ∀ j, M 32 j < 64) {most : Nat} (hmo : most ≤ 100000) (least : Bool) : ∃ M', ∃ v, ev xs (e + 18) 74 0 ([.ref 28, .int (nI most), .int (nI (b1 least)), .retAddr 9], [], hc σ M R) = some (.inl (some (.int (nI (v)))), hc σ M' R) ∧ Fr FS M M' ∧ (∀ j, M' 32 j < 64) ∧ ((v = 4294967295 ∧ M' 29 = M 29 ∧ M' 30 = M 30 ∧ M' 31 = M 31 ∧ ∀ s r, QA σ M s r → most < QC σ M s r) ∨ (v ≤ most ∧ QA σ M (M' 30) (M' 31) ∧ QC σ M (M' 30) (M' 31) = v ∧ M' 29 0 = 1 ∧ M' 29 1 = (σ 1 6) ∧ (least = true → ∀ s r, QA σ M s r → v ≤ QC σ M s r))) := by
  obtain ⟨hD1, hD2, hH1, hH2, hS, hC, hT, hR, hL, hQ⟩ := Ok_b O
  have k1 : ∀ N', ev xs (e + 17) 278 0 ([.ref 36, .int (nI 0), .retAddr 9, .retAddr 9], [], hc σ N' R) = some (.inl none, hc σ (ur N' 36 fun _ => 0) R) := fun N' => fl_c rfl (fun _ => rfl) (by decide)
  have loop : ∀ k, k ≤ (σ 1 6) → ∀ N, (Fr FS M N ∧ N 28 8 = most ∧ N 28 10 = 4294967295 ∧ N 28 11 = b1 least ∧ N 29 = M 29 ∧ N 30 = M 30 ∧ N 31 = M 31 ∧ (∀ t, t < 4 → N 36 t = 0) ∧ (∀ j, N 32 j < 64) ∧ (∀ l, l < k → M 21 l ≠ 0 ∧ ∀ i, (N 32 l).testBit i = true ↔ (M 20 l).testBit i = true ∧ DLm σ M (σ 6 l) (0 ||| cov σ l i))) → ∃ M', ∃ v, ev xs (e + 18) 74 2 ([.ref 28, .int (nI most), .int (nI (b1 least)), .int (nI k)], [], hc σ N R) = some (.inl (some (.int (nI (v)))), hc σ M' R) ∧ Fr FS M M' ∧ (∀ j, M' 32 j < 64) ∧ ((v = 4294967295 ∧ M' 29 = M 29 ∧ M' 30 = M 30 ∧ M' 31 = M 31 ∧ ∀ s r, QA σ M s r → most < QC σ M s r) ∨ (v ≤ most ∧ QA σ M (M' 30) (M' 31) ∧ QC σ M (M' 30) (M' 31) = v ∧ M' 29 0 = 1 ∧ M' 29 1 = (σ 1 6) ∧ (least = true → ∀ s r, QA σ M s r → v ≤ QC σ M s r))) := by
    refine lp (σ 1 6) ?_ ?_
    · rintro N ⟨f1, f2, f3, f4, f5, f6, f7, f8, f9, f10⟩
      have hWN : QW σ N := by rw [QW_fr f1]; exact hW
      have hP : PS σ N 0 0 := by
        refine ⟨fun l hl h => ?_, fun l o hl ho hlo h => ?_, fun t ht => ?_, fun t ht y hy => ?_, fun l hl _ i => ?_⟩
        · rw [Nat.zero_testBit] at h; cases h
        · rw [Nat.zero_testBit] at h; cases h
        · rw [f8 t (by omega), usd_0]
        · rw [f8 t (by omega), Nat.zero_and, pc_z]
          exact Nat.zero_le _
        · have tl := (Ok_l O hl).2.1
          rw [Nat.zero_mul, Nat.zero_add, (f10 l hl).2 i, f8 _ (by omega), f1 20 rfl]
          have : DLm σ N (σ 6 l) (0 ||| cov σ l i) ↔ DLm σ M (σ 6 l) (0 ||| cov σ l i) := by
            unfold DLm
            rw [f1 22 rfl]
          rw [this]
          exact ⟨fun ⟨z1, z2⟩ => ⟨z1, fun o ho h => (by rw [Nat.zero_testBit] at h; cases h), z2⟩, fun ⟨z1, _, z2⟩ => ⟨z1, z2⟩⟩
      have hO0 : OS σ N 0 0 := ⟨Nat.zero_le _, by decide, fun k hk => absurd hk (Nat.not_lt_zero k), fun i j _ hj => absurd hj (Nat.not_lt_zero j), fun l hl h => (by rw [Nat.zero_testBit] at h; cases h), sm_z.mpr fun i _ => by rw [Nat.zero_testBit]; rfl⟩
      have hr0 : ∀ l, l < (σ 1 6) → N 21 l ≠ 0 := fun l hl => by rw [f1 21 rfl]; exact (f10 l hl).1
      obtain ⟨low, l1, l2, l3, el⟩ := s_87 (xs := xs) (d := e + 15) (R := R) O hWN hP hr0 (by omega) (by decide) (fun l hl h => by omega) f9
      have g1 : Fr FS M (up N 28 9 low) := Fr_p f1 rfl
      have hb1 := b1_lt least
      obtain ⟨M', b, ex, ⟨c1, c2, c3, c4, c5, c6, c7, c8⟩, hX⟩ := s_80 (xs := xs) (R := R) O (σ 1 6) 0 0 (e + 7) (up N 28 9 low) (by omega) (by omega) (by rw [QW_fr g1]; exact hW) hP hO0 f9 hr0 (by rw [up_s, u1_n (by decide), f2]; exact hmo) (by rw [up_s, u1_s]; exact l1) (by rw [up_s, u1_n (by decide), f4]; omega)
      have hfin : ∃ v, M' 28 10 = v ∧ ((v = 4294967295 ∧ M' 29 = M 29 ∧ M' 30 = M 30 ∧ M' 31 = M 31 ∧ ∀ s r, QA σ M s r → most < QC σ M s r) ∨ (v ≤ most ∧ QA σ M (M' 30) (M' 31) ∧ QC σ M (M' 30) (M' 31) = v ∧ M' 29 0 = 1 ∧ M' 29 1 = (σ 1 6) ∧ (least = true → ∀ s r, QA σ M s r → v ≤ QC σ M s r))) := by
        have e8 : up N 28 9 low 28 8 = most := by rw [up_s, u1_n (by decide), f2]
        have e9 : up N 28 9 low 28 9 = low := by rw [up_s, u1_s]
        have e10 : up N 28 9 low 28 10 = 4294967295 := by rw [up_s, u1_n (by decide), f3]
        have e11 : up N 28 9 low 28 11 = b1 least := by rw [up_s, u1_n (by decide), f4]
        unfold XO at hX
        rw [QA_fr g1, QC_fr g1, e8, e9, e11] at hX
        have hA : ∀ s : Nat → Nat, ∀ l, l < (σ 1 6) → (0 : Nat).testBit l = true → s l = up N 28 9 low 34 l := fun s l hl h => by rw [Nat.zero_testBit] at h; cases h
        rcases hX with ⟨x0, x1, x2, x3, x4, x5⟩ | ⟨c, x1, x2, x3, x4, x5, x6, x7, x8⟩
        · exact ⟨4294967295, by rw [x1]; exact e10, .inl ⟨rfl, x2.trans f5, x3.trans f6, x4.trans f7, fun s r hq => x5 s r hq (hA s)⟩⟩
        · refine ⟨c, x2, .inr ⟨x1, x3, x4, x5, x6, fun hl s r hq => ?_⟩⟩
          rw [hl] at x8
          rcases x8 rfl with ⟨-, z⟩ | ⟨-, -, -, z⟩
          · have hqN : QA σ N s r := by rw [QA_fr f1]; exact hq
            have h1 := l2 s (EX_A O hP hqN fun l hl h => by rw [Nat.zero_testBit] at h; cases h)
            have h2 := QA_mo hWN hqN
            rw [QC_fr f1] at h2
            omega
          · exact z s r hq (hA s)
      obtain ⟨v, hv, q⟩ := hfin
      refine ⟨M', v, ?_, Fr_t g1 c1, c6, q⟩
      rw [eb_74_2]
      cases b <;> simp (disch := first | assumption | omega | exact st8_a (Nat.le_of_ble_eq_true rfl)) only [el, ex, hv, eb_74_0, eb_74_1, eb_74_3, eb_74_4, eb_74_5, eb_74_6, eb_74_7, eb_74_8, eb_74_9, eb_74_10, kl_a, kl_d, kl_f, kl_i, kl_l, kl_n, kl_r, xr_1, xr_10, xr_2, xr_28, xr_3, xr_31, xr_32, xr_37, xr_4, xr_43, xr_5, xr_53, xr_54, xr_64, af_0, af_1, xt_goto, xt_ib, xt_ic, xt_ic_ge, xt_if_eq, xt_if_ne, xt_ir, xt_nop, gF_19_1, gF_19_2, gF_1_6, gF_28_0, gF_28_1, gF_28_10, gF_28_3, gF_28_7, gA_2, gA_3, gA_4, gA_5, gA_6, gA_7, gA_8, gA_9, gA_10, gA_11, gA_13, gA_14, gA_16, gA_17, gA_20, gA_21, gA_22, gA_23, gA_24, gA_25, gA_26, gA_27, gA_30, gA_31, gA_32, gA_33, gA_34, gA_35, gA_36, gA_38, gA_39, gA_41, gA_42, gA_46, gA_47, gA_49, gA_50, gA_51, gA_53, gA_56, gA_57, gA_59, gA_60, gW_2, gW_3, gW_4, gW_5, gW_6, gW_7, gW_8, gW_9, gW_10, gW_11, gW_13, gW_14, gW_16, gW_17, gW_20, gW_21, gW_22, gW_23, gW_24, gW_25, gW_26, gW_27, gW_30, gW_31, gW_32, gW_33, gW_34, gW_35, gW_36, gW_38, gW_39, gW_41, gW_42, gW_46, gW_47, gW_49, gW_50, gW_51, gW_53, gW_56, gW_57, gW_59, gW_60, gP_28_10, gP_28_11, gQ_28_11, gP_28_8, gP_28_9, xq_278_200_static, xq_80_7_virtualc, xq_82_7_virtualc, xq_87_7_virtualc, iN_add, iN_mul, iN_sub, iN_and, iN_or, iN_clr, iN_shl, iN_shr, tb_r1, b1_z, b1_or, b1_and, b1_or0, b1_or1, b1_0or, b1_t, b1_f, iN_lt, iN_inj, reduceIte, if_true, if_false, Nat.zero_add, Nat.add_zero, Bool.false_eq_true, Bool.true_eq_false, Nat.lt_irrefl, iN_az, not_true_eq_false, not_false_eq_true, Nat.reduceEqDiff, Nat.reduceLT, Nat.reduceAdd, Nat.reduceMul, Nat.reduceSub]
    · rintro k hk ih N ⟨f1, f2, f3, f4, f5, f6, f7, f8, f9, f10⟩
      have tk := (Ok_l O hk).2.1
      have hWN : QW σ N := by rw [QW_fr f1]; exact hW
      have e20 : N 20 k = M 20 k := by rw [f1 20 rfl]
      have e21 : N 21 k = M 21 k := by rw [f1 21 rfl]
      obtain ⟨x, e1, q1⟩ := s_82 (xs := xs) (d := e + 16) (M := N) (R := R) (sl := M 20 k) O hk (by rw [f8 _ (by omega)]; decide) (hWN.2.2.2.1 _ tk) (fun s hs => hWN.2.2.2.2.1 k hk s hs)
      rw [f8 _ (by omega), f1 22 rfl] at q1
      have hx := fun i => dom_0 O hW hk (q1 i)
      have hx64 : x < 64 := mask_lt (n := 6) fun i hi => by have := hW.1 k hk i ((hx i).mp hi).1; omega
      have h21 := QW_21 O hW hk
      have none : (x = 0 ∨ M 21 k = 0) → ∀ s r, QA σ M s r → most < QC σ M s r := by
        intro h s r hq
        exfalso
        rcases h with h | h
        · have h1 := (hx (s k)).mpr ⟨(hq.1 k hk).1, fun y hy => Nat.le_trans (pc_sub fun b hb => by
            rw [Nat.testBit_and, Nat.zero_or, Bool.and_eq_true] at hb
            rw [Nat.testBit_and, Bool.and_eq_true]
            exact ⟨ctc_tb.mpr ⟨k, hk, rfl, hb.1⟩, hb.2⟩) (hq.2.2 _ tk y hy)⟩
          rw [h, Nat.zero_testBit] at h1
          cases h1
        · have h1 := (hq.1 k hk).2
          rw [h, Nat.zero_testBit] at h1
          cases h1
      have g1 : Fr FS M (up N 32 k x) := Fr_p f1 rfl
      have gdb : ∀ j, up N 32 k x 32 j < 64 := fun j => by
        rw [up_s]
        unfold u1
        split
        · exact hx64
        · exact f9 j
      have es : up N 32 k x 32 k = x := by rw [up_s, u1_s]
      have es21 : up N 32 k x 21 k = M 21 k := by rw [up_n (by decide)]; exact e21
      rw [eb_74_2]
      by_cases hx0 : x = 0
      · refine ⟨up N 32 k x, 4294967295, ?_, g1, gdb, .inl ⟨rfl, by rw [up_n (by decide)]; exact f5, by rw [up_n (by decide)]; exact f6, by rw [up_n (by decide)]; exact f7, none (.inl hx0)⟩⟩
        rw [hx0] at es e1 ⊢
        simp (disch := first | assumption | omega | exact st8_a (Nat.le_of_ble_eq_true rfl)) only [hk, e20, e1, es, eb_74_0, eb_74_1, eb_74_3, eb_74_4, eb_74_5, eb_74_6, eb_74_7, eb_74_8, eb_74_9, eb_74_10, kl_a, kl_d, kl_f, kl_i, kl_l, kl_n, kl_r, xr_1, xr_10, xr_2, xr_28, xr_3, xr_31, xr_32, xr_37, xr_4, xr_43, xr_5, xr_53, xr_54, xr_64, af_0, af_1, xt_goto, xt_ib, xt_ic, xt_ic_ge, xt_if_eq, xt_if_ne, xt_ir, xt_nop, gF_19_1, gF_19_2, gF_1_6, gF_28_0, gF_28_1, gF_28_10, gF_28_3, gF_28_7, gA_2, gA_3, gA_4, gA_5, gA_6, gA_7, gA_8, gA_9, gA_10, gA_11, gA_13, gA_14, gA_16, gA_17, gA_20, gA_21, gA_22, gA_23, gA_24, gA_25, gA_26, gA_27, gA_30, gA_31, gA_32, gA_33, gA_34, gA_35, gA_36, gA_38, gA_39, gA_41, gA_42, gA_46, gA_47, gA_49, gA_50, gA_51, gA_53, gA_56, gA_57, gA_59, gA_60, gW_2, gW_3, gW_4, gW_5, gW_6, gW_7, gW_8, gW_9, gW_10, gW_11, gW_13, gW_14, gW_16, gW_17, gW_20, gW_21, gW_22, gW_23, gW_24, gW_25, gW_26, gW_27, gW_30, gW_31, gW_32, gW_33, gW_34, gW_35, gW_36, gW_38, gW_39, gW_41, gW_42, gW_46, gW_47, gW_49, gW_50, gW_51, gW_53, gW_56, gW_57, gW_59, gW_60, gP_28_10, gP_28_11, gQ_28_11, gP_28_8, gP_28_9, xq_278_200_static, xq_80_7_virtualc, xq_82_7_virtualc, xq_87_7_virtualc, iN_add, iN_mul, iN_sub, iN_and, iN_or, iN_clr, iN_shl, iN_shr, tb_r1, b1_z, b1_or, b1_and, b1_or0, b1_or1, b1_0or, b1_t, b1_f, iN_lt, iN_inj, reduceIte, if_true, if_false, Nat.zero_add, Nat.add_zero, Bool.false_eq_true, Bool.true_eq_false, Nat.lt_irrefl, iN_az, not_true_eq_false, not_false_eq_true, Nat.reduceEqDiff, Nat.reduceLT, Nat.reduceAdd, Nat.reduceMul, Nat.reduceSub]
      · by_cases h0 : M 21 k = 0
        · refine ⟨up N 32 k x, 4294967295, ?_, g1, gdb, .inl ⟨rfl, by rw [up_n (by decide)]; exact f5, by rw [up_n (by decide)]; exact f6, by rw [up_n (by decide)]; exact f7, none (.inr h0)⟩⟩
          simp (disch := first | assumption | omega | exact st8_a (Nat.le_of_ble_eq_true rfl)) only [hk, e20, e1, es, hx0, es21, h0, eb_74_0, eb_74_1, eb_74_3, eb_74_4, eb_74_5, eb_74_6, eb_74_7, eb_74_8, eb_74_9, eb_74_10, kl_a, kl_d, kl_f, kl_i, kl_l, kl_n, kl_r, xr_1, xr_10, xr_2, xr_28, xr_3, xr_31, xr_32, xr_37, xr_4, xr_43, xr_5, xr_53, xr_54, xr_64, af_0, af_1, xt_goto, xt_ib, xt_ic, xt_ic_ge, xt_if_eq, xt_if_ne, xt_ir, xt_nop, gF_19_1, gF_19_2, gF_1_6, gF_28_0, gF_28_1, gF_28_10, gF_28_3, gF_28_7, gA_2, gA_3, gA_4, gA_5, gA_6, gA_7, gA_8, gA_9, gA_10, gA_11, gA_13, gA_14, gA_16, gA_17, gA_20, gA_21, gA_22, gA_23, gA_24, gA_25, gA_26, gA_27, gA_30, gA_31, gA_32, gA_33, gA_34, gA_35, gA_36, gA_38, gA_39, gA_41, gA_42, gA_46, gA_47, gA_49, gA_50, gA_51, gA_53, gA_56, gA_57, gA_59, gA_60, gW_2, gW_3, gW_4, gW_5, gW_6, gW_7, gW_8, gW_9, gW_10, gW_11, gW_13, gW_14, gW_16, gW_17, gW_20, gW_21, gW_22, gW_23, gW_24, gW_25, gW_26, gW_27, gW_30, gW_31, gW_32, gW_33, gW_34, gW_35, gW_36, gW_38, gW_39, gW_41, gW_42, gW_46, gW_47, gW_49, gW_50, gW_51, gW_53, gW_56, gW_57, gW_59, gW_60, gP_28_10, gP_28_11, gQ_28_11, gP_28_8, gP_28_9, xq_278_200_static, xq_80_7_virtualc, xq_82_7_virtualc, xq_87_7_virtualc, iN_add, iN_mul, iN_sub, iN_and, iN_or, iN_clr, iN_shl, iN_shr, tb_r1, b1_z, b1_or, b1_and, b1_or0, b1_or1, b1_0or, b1_t, b1_f, iN_lt, iN_inj, reduceIte, if_true, if_false, Nat.zero_add, Nat.add_zero, Bool.false_eq_true, Bool.true_eq_false, Nat.lt_irrefl, iN_az, not_true_eq_false, not_false_eq_true, Nat.reduceEqDiff, Nat.reduceLT, Nat.reduceAdd, Nat.reduceMul, Nat.reduceSub]
        · obtain ⟨M', v, e2, q⟩ := ih (up N 32 k x) ⟨g1, by rw [up_n (by decide)]; exact f2, by rw [up_n (by decide)]; exact f3, by rw [up_n (by decide)]; exact f4, by rw [up_n (by decide)]; exact f5, by rw [up_n (by decide)]; exact f6, by rw [up_n (by decide)]; exact f7, fun t ht => by rw [up_n (by decide)]; exact f8 t ht, gdb, fun l hl => by
            by_cases el : l = k
            · subst el
              rw [es]
              exact ⟨h0, hx⟩
            · rw [up_s, u1_n el]
              exact f10 l (by omega)⟩
          refine ⟨M', v, ?_, q⟩
          simp (disch := first | assumption | omega | exact st8_a (Nat.le_of_ble_eq_true rfl)) only [hk, e20, e1, es, hx0, es21, h0, eb_74_0, eb_74_1, eb_74_3, eb_74_4, eb_74_5, eb_74_6, eb_74_7, eb_74_8, eb_74_9, eb_74_10, kl_a, kl_d, kl_f, kl_i, kl_l, kl_n, kl_r, xr_1, xr_10, xr_2, xr_28, xr_3, xr_31, xr_32, xr_37, xr_4, xr_43, xr_5, xr_53, xr_54, xr_64, af_0, af_1, xt_goto, xt_ib, xt_ic, xt_ic_ge, xt_if_eq, xt_if_ne, xt_ir, xt_nop, gF_19_1, gF_19_2, gF_1_6, gF_28_0, gF_28_1, gF_28_10, gF_28_3, gF_28_7, gA_2, gA_3, gA_4, gA_5, gA_6, gA_7, gA_8, gA_9, gA_10, gA_11, gA_13, gA_14, gA_16, gA_17, gA_20, gA_21, gA_22, gA_23, gA_24, gA_25, gA_26, gA_27, gA_30, gA_31, gA_32, gA_33, gA_34, gA_35, gA_36, gA_38, gA_39, gA_41, gA_42, gA_46, gA_47, gA_49, gA_50, gA_51, gA_53, gA_56, gA_57, gA_59, gA_60, gW_2, gW_3, gW_4, gW_5, gW_6, gW_7, gW_8, gW_9, gW_10, gW_11, gW_13, gW_14, gW_16, gW_17, gW_20, gW_21, gW_22, gW_23, gW_24, gW_25, gW_26, gW_27, gW_30, gW_31, gW_32, gW_33, gW_34, gW_35, gW_36, gW_38, gW_39, gW_41, gW_42, gW_46, gW_47, gW_49, gW_50, gW_51, gW_53, gW_56, gW_57, gW_59, gW_60, gP_28_10, gP_28_11, gQ_28_11, gP_28_8, gP_28_9, xq_278_200_static, xq_80_7_virtualc, xq_82_7_virtualc, xq_87_7_virtualc, iN_add, iN_mul, iN_sub, iN_and, iN_or, iN_clr, iN_shl, iN_shr, tb_r1, b1_z, b1_or, b1_and, b1_or0, b1_or1, b1_0or, b1_t, b1_f, iN_lt, iN_inj, reduceIte, if_true, if_false, Nat.zero_add, Nat.add_zero, Bool.false_eq_true, Bool.true_eq_false, Nat.lt_irrefl, iN_az, not_true_eq_false, not_false_eq_true, Nat.reduceEqDiff, Nat.reduceLT, Nat.reduceAdd, Nat.reduceMul, Nat.reduceSub]
          exact e2
  obtain ⟨M', v, e2, q⟩ := loop 0 (Nat.zero_le _) (ur (up (up (up M 28 11 (b1 least)) 28 8 most) 28 10 4294967295) 36 fun _ => 0) ⟨Fr_u (Fr_p (Fr_p (Fr_p (Fr_r _ _) rfl) rfl) rfl) rfl, rfl, rfl, rfl, rfl, rfl, rfl, fun _ _ => rfl, hdb, fun l hl => absurd hl (Nat.not_lt_zero l)⟩
  refine ⟨M', v, ?_, q⟩
  simp (disch := first | assumption | omega | exact st8_a (Nat.le_of_ble_eq_true rfl)) only [k1, eb_74_0, eb_74_1, eb_74_3, eb_74_4, eb_74_5, eb_74_6, eb_74_7, eb_74_8, eb_74_9, eb_74_10, kl_a, kl_d, kl_f, kl_i, kl_l, kl_n, kl_r, xr_1, xr_10, xr_2, xr_28, xr_3, xr_31, xr_32, xr_37, xr_4, xr_43, xr_5, xr_53, xr_54, xr_64, af_0, af_1, xt_goto, xt_ib, xt_ic, xt_ic_ge, xt_if_eq, xt_if_ne, xt_ir, xt_nop, gF_19_1, gF_19_2, gF_1_6, gF_28_0, gF_28_1, gF_28_10, gF_28_3, gF_28_7, gA_2, gA_3, gA_4, gA_5, gA_6, gA_7, gA_8, gA_9, gA_10, gA_11, gA_13, gA_14, gA_16, gA_17, gA_20, gA_21, gA_22, gA_23, gA_24, gA_25, gA_26, gA_27, gA_30, gA_31, gA_32, gA_33, gA_34, gA_35, gA_36, gA_38, gA_39, gA_41, gA_42, gA_46, gA_47, gA_49, gA_50, gA_51, gA_53, gA_56, gA_57, gA_59, gA_60, gW_2, gW_3, gW_4, gW_5, gW_6, gW_7, gW_8, gW_9, gW_10, gW_11, gW_13, gW_14, gW_16, gW_17, gW_20, gW_21, gW_22, gW_23, gW_24, gW_25, gW_26, gW_27, gW_30, gW_31, gW_32, gW_33, gW_34, gW_35, gW_36, gW_38, gW_39, gW_41, gW_42, gW_46, gW_47, gW_49, gW_50, gW_51, gW_53, gW_56, gW_57, gW_59, gW_60, gP_28_10, gP_28_11, gQ_28_11, gP_28_8, gP_28_9, xq_278_200_static, xq_80_7_virtualc, xq_82_7_virtualc, xq_87_7_virtualc, iN_add, iN_mul, iN_sub, iN_and, iN_or, iN_clr, iN_shl, iN_shr, tb_r1, b1_z, b1_or, b1_and, b1_or0, b1_or1, b1_0or, b1_t, b1_f, iN_lt, iN_inj, reduceIte, if_true, if_false, Nat.zero_add, Nat.add_zero, Bool.false_eq_true, Bool.true_eq_false, Nat.lt_irrefl, iN_az, not_true_eq_false, not_false_eq_true, Nat.reduceEqDiff, Nat.reduceLT, Nat.reduceAdd, Nat.reduceMul, Nat.reduceSub]
  exact e2
end Si
