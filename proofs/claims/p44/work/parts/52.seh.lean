/-! THE CLASS Search: lessen -/
abbrev LSS : List Nat := [20, 21, 27, 28, 29, 30, 31, 32, 33, 34, 35, 36]
/-- one timetable is smaller than another one, as to n lessons -/
def LX (n : Nat) (s r s2 r2 : Nat → Nat) : Prop := ∃ k, k < n ∧ (∀ l, l < k → s l = s2 l ∧ r l = r2 l) ∧ (s k < s2 k ∨ (s k = s2 k ∧ r k < r2 k))
section Sj
variable {xs : List Int32} {σ M N N2 M' : Nat → Nat → Nat} {R : ab_H} {e k most : Nat}
set_option maxRecDepth 100000 in
theorem QW_al (hW : QW σ N) (O : Ok σ) (hk : k < (σ 1 6)) {st ro : Nat} {g : Nat → Nat} (hst : ∀ i, st.testBit i = true → i < (σ 1 2) ∧ sty σ k i = true) (hro : ∀ i, ro.testBit i = true → i < (σ 1 5)) (hg : ∀ j, (∀ s, s < (σ 1 2) → j ≠ k * 6 + s) → g j = N 27 j) (hsc : SC σ (ur (up (up N 20 k st) 21 k ro) 27 g) k) : QW σ (ur (up (up N 20 k st) 21 k ro) 27 g) := by
  obtain ⟨hD1, hD2, hH1, hH2, hS, hC, hT, hR, hL, hQ⟩ := Ok_b O
  obtain ⟨w1, w2, w3, w4, w5, w6, w7, w8, w9, w10⟩ := hW
  refine ⟨fun l hl i hi => ?_, fun l hl i hi => ?_, w3, w4, w5, w6, w7, w8, fun l hl => ?_, w10⟩
  · have hi : (u1 (N 20) k st l).testBit i = true := hi
    by_cases h : l = k
    · rw [h, u1_s] at hi
      rw [h]
      exact hst i hi
    · rw [u1_n h] at hi
      exact w1 l hl i hi
  · have hi : (u1 (N 21) k ro l).testBit i = true := hi
    by_cases h : l = k
    · rw [h, u1_s] at hi
      exact hro i hi
    · rw [u1_n h] at hi
      exact w2 l hl i hi
  · by_cases h : l = k
    · rw [h]
      exact hsc
    · intro s hs
      have h1 : g (l * 6 + s) = N 27 (l * 6 + s) := hg _ fun s2 hs2 => by omega
      have h2 := w9 l hl s hs
      refine ⟨?_, fun r hr hb => ?_⟩
      · show g (l * 6 + s) ≤ 27
        rw [h1]
        exact h2.1
      · show g (l * 6 + s) ≤ N 26 (vi l s r)
        have hb : (u1 (N 21) k ro l).testBit r = true := hb
        rw [u1_n h] at hb
        rw [h1]
        exact h2.2 r hr hb
/-- the lessons below k have the witness's values alone, those above k what they had -/
def KN (σ M : Nat → Nat → Nat) (most k : Nat) (N : Nat → Nat → Nat) : Prop := Fr LSS M N ∧ QW σ N ∧ (∀ j, N 32 j < 64) ∧ N 29 0 = 1 ∧ N 29 1 = (σ 1 6) ∧ QA σ M (N 30) (N 31) ∧ QC σ M (N 30) (N 31) ≤ most ∧ (∀ l, l < k → N 20 l = 1 <<< N 30 l ∧ N 21 l = 1 <<< N 31 l) ∧ (∀ l, k < l → l < (σ 1 6) → N 20 l = M 20 l ∧ N 21 l = M 21 l) ∧ ∀ s r, QA σ M s r → QC σ M s r ≤ most → ¬ LX k s r (N 30) (N 31)
set_option maxRecDepth 100000 in
theorem QA_K (hk : k < (σ 1 6)) (hK : KN σ M most k N) {st ro : Nat} (h20 : N2 20 = u1 (N 20) k st) (h21 : N2 21 = u1 (N 21) k ro) (h22 : N2 22 = N 22) (h23 : N2 23 = N 23) (hst : ∀ i, st.testBit i = true → (M 20 k).testBit i = true) (hro : ∀ i, ro.testBit i = true → (M 21 k).testBit i = true) (s r : Nat → Nat) : QA σ N2 s r ↔ QA σ M s r ∧ (∀ l, l < k → s l = N 30 l ∧ r l = N 31 l) ∧ st.testBit (s k) = true ∧ ro.testBit (r k) = true := by
  obtain ⟨f1, f2, f3, f4, f5, f6, f7, f8, f9, f10⟩ := hK
  unfold QA DLm
  rw [h22, h23, h20, h21, f1 22 rfl, f1 23 rfl]
  constructor
  · rintro ⟨a1, a2, a3⟩
    have hlk : ∀ l, l < k → s l = N 30 l ∧ r l = N 31 l := fun l hl => by
      have h1 := a1 l (by omega)
      rw [u1_n (by omega), u1_n (by omega), (f8 l hl).1, (f8 l hl).2, tb_1s, tb_1s] at h1
      exact ⟨of_decide_eq_true h1.1, of_decide_eq_true h1.2⟩
    have hkk := a1 k hk
    rw [u1_s, u1_s] at hkk
    refine ⟨⟨fun l hl => ?_, a2, a3⟩, hlk, hkk⟩
    by_cases h : l = k
    · subst h
      exact ⟨hst _ hkk.1, hro _ hkk.2⟩
    · by_cases h2 : l < k
      · rw [(hlk l h2).1, (hlk l h2).2]
        exact f6.1 l hl
      · have h1 := a1 l hl
        rw [u1_n h, u1_n h, (f9 l (by omega) hl).1, (f9 l (by omega) hl).2] at h1
        exact h1
  · rintro ⟨⟨a1, a2, a3⟩, b1', b2, b3⟩
    refine ⟨fun l hl => ?_, a2, a3⟩
    by_cases h : l = k
    · subst h
      rw [u1_s, u1_s]
      exact ⟨b2, b3⟩
    · rw [u1_n h, u1_n h]
      by_cases h2 : l < k
      · rw [(f8 l h2).1, (f8 l h2).2, tb_1s, tb_1s, (b1' l h2).1, (b1' l h2).2]
        simp
      · rw [(f9 l (by omega) hl).1, (f9 l (by omega) hl).2]
        exact a1 l hl
set_option maxRecDepth 100000 in
theorem LX_w {s r s2 r2 s3 r3 : Nat → Nat} (h : LX k s r s2 r2) (h2 : ∀ l, l < k → s2 l = s3 l ∧ r2 l = r3 l) : LX k s r s3 r3 := by
  obtain ⟨j, hj, h3, h4⟩ := h
  refine ⟨j, hj, fun l hl => ?_, ?_⟩
  · obtain ⟨q1, q2⟩ := h3 l hl
    obtain ⟨q3, q4⟩ := h2 l (by omega)
    exact ⟨q1.trans q3, q2.trans q4⟩
  · obtain ⟨q3, q4⟩ := h2 j hj
    rw [← q3, ← q4]
    exact h4
-- one step: a part of lesson k's values is tried
set_option maxRecDepth 100000 in
theorem les_step (O : Ok σ) (hW : QW σ M) (hk : k < (σ 1 6)) (hmo : most ≤ 100000) (hK : KN σ M most k N) {st ro : Nat} (hst : ∀ i, st.testBit i = true → (M 20 k).testBit i = true) (hro : ∀ i, ro.testBit i = true → (M 21 k).testBit i = true) : ∃ N1, ev xs (e + 19) 39 0 ([.ref 19, .int (nI k), .int (nI st), .int (nI ro)], [], hc σ N R) = some (.inl none, hc σ N1 R) ∧ N1 20 k = st ∧ N1 21 k = ro ∧ KN σ M most k N1 ∧ N1 30 = N 30 ∧ N1 31 = N 31 ∧ ∃ N3, ∃ v, ev xs (e + 19) 74 0 ([.ref 28, .int (nI most), .int (nI 0), .retAddr 9], [], hc σ N1 R) = some (.inl (some (.int (nI (v)))), hc σ N3 R) ∧ N3 20 k = st ∧ N3 21 k = ro ∧ KN σ M most k N3 ∧ (∀ l, l < k → N3 30 l = N 30 l ∧ N3 31 l = N 31 l) ∧ ((v = 4294967295 ∧ N3 30 = N 30 ∧ N3 31 = N 31 ∧ ∀ s r, QA σ M s r → QC σ M s r ≤ most → (∀ l, l < k → s l = N 30 l ∧ r l = N 31 l) → st.testBit (s k) = true → ro.testBit (r k) = true → False) ∨ (v ≤ most ∧ st.testBit (N3 30 k) = true ∧ ro.testBit (N3 31 k) = true)) := by
  obtain ⟨hD1, hD2, hH1, hH2, hS, hC, hT, hR, hL, hQ⟩ := Ok_b O
  obtain ⟨f1, f2, f3, f4, f5, f6, f7, f8, f9, f10⟩ := id hK
  have hro8 : ro < 8 := by
    have h1 := mask_lt (n := (σ 1 5)) fun i hi => hW.2.1 k hk i (hro i hi)
    have h2 : 2 ^ (σ 1 5) ≤ 2 ^ 3 := Nat.pow_le_pow_right (by decide) (by omega)
    omega
  obtain ⟨g, e1, q1, q2⟩ := s_39 (xs := xs) (d := e + 17) (M := N) (R := R) (st := st) O hk hro8 (fun j _ => f2.2.2.2.2.2.2.2.1 j)
  have hW1 : QW σ (ur (up (up N 20 k st) 21 k ro) 27 g) := QW_al f2 O hk (fun i hi => hW.1 k hk i (hst i hi)) (fun i hi => hW.2.1 k hk i (hro i hi)) q1 q2
  have hK1 : KN σ M most k (ur (up (up N 20 k st) 21 k ro) 27 g) := by
    refine ⟨Fr_u (Fr_p (Fr_p f1 rfl) rfl) rfl, hW1, f3, f4, f5, f6, f7, fun l hl => ?_, fun l hl hl2 => ?_, f10⟩
    · show u1 (N 20) k st l = _ ∧ u1 (N 21) k ro l = _
      rw [u1_n (by omega), u1_n (by omega)]
      exact f8 l hl
    · show u1 (N 20) k st l = _ ∧ u1 (N 21) k ro l = _
      rw [u1_n (by omega), u1_n (by omega)]
      exact f9 l hl hl2
  refine ⟨_, e1, u1_s _ _ _, u1_s _ _ _, hK1, rfl, rfl, ?_⟩
  obtain ⟨N3, v, e2, g1, g2, g3⟩ := s_74 (xs := xs) (e := e + 1) (M := ur (up (up N 20 k st) 21 k ro) 27 g) (R := R) O hW1 f3 hmo false
  have hQA := QA_K (N2 := ur (up (up N 20 k st) 21 k ro) 27 g) hk hK (st := st) (ro := ro) rfl rfl rfl rfl hst hro
  have hQC : QC σ (ur (up (up N 20 k st) 21 k ro) 27 g) = QC σ M := by
    funext s r
    unfold QC gco
    rw [show (ur (up (up N 20 k st) 21 k ro) 27 g) 26 = M 26 from f1 26 rfl, show (ur (up (up N 20 k st) 21 k ro) 27 g) 19 = M 19 from f1 19 rfl]
  have h20 : N3 20 = u1 (N 20) k st := g1 20 rfl
  have h21 : N3 21 = u1 (N 21) k ro := g1 21 rfl
  rw [hQC] at g3
  have hW3 : QW σ N3 := by rw [QW_fr g1]; exact hW1
  have hF3 : Fr LSS M N3 := Fr_t hK1.1 (Fr_w g1 fun a ha => by simp at ha ⊢; omega)
  refine ⟨N3, v, e2, by rw [h20, u1_s], by rw [h21, u1_s], ?_⟩
  rcases g3 with ⟨z1, z2, z3, z4, z5⟩ | ⟨z1, z2, z3, z4, z5, -⟩
  · have z2' : N3 29 = N 29 := z2
    have z3' : N3 30 = N 30 := z3
    have z4' : N3 31 = N 31 := z4
    refine ⟨⟨hF3, hW3, g2, by rw [z2']; exact f4, by rw [z2']; exact f5, by rw [z3', z4']; exact f6, by rw [z3', z4']; exact f7, fun l hl => by rw [h20, h21, u1_n (by omega), u1_n (by omega), z3', z4']; exact f8 l hl, fun l hl hl2 => by rw [h20, h21, u1_n (by omega), u1_n (by omega)]; exact f9 l hl hl2, by rw [z3', z4']; exact f10⟩, fun l hl => by rw [z3', z4']; exact ⟨rfl, rfl⟩, .inl ⟨z1, z3', z4', fun s r hq hc hag hs hr => ?_⟩⟩
    have := z5 s r ((hQA s r).mpr ⟨hq, hag, hs, hr⟩)
    omega
  · obtain ⟨y1, y2, y3, y4⟩ := (hQA _ _).mp z2
    refine ⟨⟨hF3, hW3, g2, z4, z5, y1, by omega, fun l hl => by rw [h20, h21, u1_n (by omega), u1_n (by omega), (y2 l hl).1, (y2 l hl).2]; exact f8 l hl, fun l hl hl2 => by rw [h20, h21, u1_n (by omega), u1_n (by omega)]; exact f9 l hl hl2, fun s r hq hc hlx => f10 s r hq hc (LX_w hlx y2)⟩, y2, .inr ⟨z1, y3, y4⟩⟩
set_option maxRecDepth 100000 in
theorem s_79 (O : Ok σ) (hW : QW σ M) (hdb : ∀ j, M 32 j < 64) (hmo : most ≤ 100000) (h290 : M 29 0 = 1) (h291 : M 29 1 = (σ 1 6)) (hqq : QA σ M (M 30) (M 31)) (hcc : QC σ M (M 30) (M 31) ≤ most) : ∃ M', ev xs (e + 20) 79 0 ([.ref 28, .int (nI most), .retAddr 9, .retAddr 9, .retAddr 9, .retAddr 9, .retAddr 9], [], hc σ M R) = some (.inl none, hc σ M' R) ∧ Fr LSS M M' ∧ (∀ j, M' 32 j < 64) ∧ M' 29 0 = 1 ∧ M' 29 1 = (σ 1 6) ∧ QA σ M (M' 30) (M' 31) ∧ QC σ M (M' 30) (M' 31) ≤ most ∧ ∀ s r, QA σ M s r → QC σ M s r ≤ most → ¬ LX (σ 1 6) s r (M' 30) (M' 31) := by
  obtain ⟨hD1, hD2, hH1, hH2, hS, hC, hT, hR, hL, hQ⟩ := Ok_b O
  have outer : ∀ k, k ≤ (σ 1 6) → ∀ N y3 y4 y5 y6, KN σ M most k N → (k < (σ 1 6) → N 20 k = M 20 k ∧ N 21 k = M 21 k) → ∃ M', ev xs (e + 20) 79 1 ([.ref 28, .int (nI most), .int (nI k), y3, y4, y5, y6], [], hc σ N R) = some (.inl none, hc σ M' R) ∧ Fr LSS M M' ∧ (∀ j, M' 32 j < 64) ∧ M' 29 0 = 1 ∧ M' 29 1 = (σ 1 6) ∧ QA σ M (M' 30) (M' 31) ∧ QC σ M (M' 30) (M' 31) ≤ most ∧ ∀ s r, QA σ M s r → QC σ M s r ≤ most → ¬ LX (σ 1 6) s r (M' 30) (M' 31) := by
    refine lp (σ 1 6) ?_ ?_
    · rintro N y3 y4 y5 y6 ⟨f1, f2, f3, f4, f5, f6, f7, f8, f9, f10⟩ -
      refine ⟨N, ?_, f1, f3, f4, f5, f6, f7, f10⟩
      rw [eb_79_1]
      simp (disch := first | assumption | omega | exact st8_a (Nat.le_of_ble_eq_true rfl)) only [eb_79_0, eb_79_2, eb_79_4, eb_79_5, eb_79_6, eb_79_7, eb_79_8, eb_79_9, eb_79_10, eb_79_11, eb_79_12, eb_79_13, eb_79_14, eb_79_16, eb_79_17, eb_79_18, eb_79_19, eb_79_20, eb_79_21, eb_79_22, eb_79_23, eb_79_24, eb_79_25, eb_79_26, eb_79_27, kl_a, kl_d, kl_f, kl_i, kl_l, kl_n, kl_r, xr_1, xr_10, xr_2, xr_27, xr_28, xr_3, xr_30, xr_31, xr_32, xr_33, xr_34, xr_35, xr_36, xr_37, xr_4, xr_42, xr_44, xr_5, xr_55, xr_56, xr_57, xr_58, xr_63, xr_64, af_0, af_1, xt_goto, xt_ic_eq, xt_ic_ge, xt_if_eq, xt_if_ne, xt_nop, xt_re, gF_19_1, gF_19_2, gF_1_2, gF_1_5, gF_1_6, gF_28_0, gF_28_1, gF_28_2, gA_2, gA_3, gA_4, gA_5, gA_6, gA_7, gA_8, gA_9, gA_10, gA_11, gA_13, gA_14, gA_16, gA_17, gA_20, gA_21, gA_22, gA_23, gA_24, gA_25, gA_26, gA_27, gA_30, gA_31, gA_32, gA_33, gA_34, gA_35, gA_36, gA_38, gA_39, gA_41, gA_42, gA_46, gA_47, gA_49, gA_50, gA_51, gA_53, gA_56, gA_57, gA_59, gA_60, xq_39_3_virtualc, xq_74_7_virtualc, iN_add, iN_mul, iN_sub, iN_and, iN_or, iN_clr, iN_shl, iN_shr, tb_r1, b1_z, b1_or, b1_and, b1_or0, b1_or1, b1_0or, b1_t, b1_f, iN_lt, iN_inj, reduceIte, if_true, if_false, Nat.zero_add, Nat.add_zero, Bool.false_eq_true, Bool.true_eq_false, Nat.lt_irrefl, iN_az, not_true_eq_false, not_false_eq_true, Nat.reduceEqDiff, Nat.reduceLT, Nat.reduceAdd, Nat.reduceMul, Nat.reduceSub]
    · intro k hk ih N y3 y4 y5 y6 hK hkk
      obtain ⟨k20, k21⟩ := hkk hk
      have h29 : TT 29 := by decide
      -- behind the rooms
      have fin2 : ∀ N x3 y6, KN σ M most k N → N 20 k = 1 <<< N 30 k → N 21 k = 1 <<< N 31 k → (∀ s r, QA σ M s r → QC σ M s r ≤ most → (∀ l, l < k → s l = N 30 l ∧ r l = N 31 l) → N 30 k ≤ s k ∧ (s k = N 30 k → N 31 k ≤ r k)) → ∃ M', ev xs (e + 20) 79 26 ([.ref 28, .int (nI most), .int (nI k), x3, .int (nI (M 21 k)), .int (nI 1), y6], [], hc σ N R) = some (.inl none, hc σ M' R) ∧ Fr LSS M M' ∧ (∀ j, M' 32 j < 64) ∧ M' 29 0 = 1 ∧ M' 29 1 = (σ 1 6) ∧ QA σ M (M' 30) (M' 31) ∧ QC σ M (M' 30) (M' 31) ≤ most ∧ ∀ s r, QA σ M s r → QC σ M s r ≤ most → ¬ LX (σ 1 6) s r (M' 30) (M' 31) := by
        rintro N x3 y6 ⟨f1, f2, f3, f4, f5, f6, f7, f8, f9, f10⟩ h1 h2 h3
        obtain ⟨M', e1, q⟩ := ih N x3 (.int (nI (M 21 k))) (.int (nI 1)) y6 ⟨f1, f2, f3, f4, f5, f6, f7, fun l hl => by
          by_cases h : l = k
          · subst h; exact ⟨h1, h2⟩
          · exact f8 l (by omega), fun l hl hl2 => f9 l (by omega) hl2, fun s r hq hc ⟨j, hj, a1, a2⟩ => by
          by_cases h : j = k
          · subst h
            obtain ⟨z1, z2⟩ := h3 s r hq hc a1
            rcases a2 with a2 | ⟨a2, a3⟩
            · omega
            · have := z2 a2
              omega
          · exact f10 s r hq hc ⟨j, by omega, a1, a2⟩⟩ (fun hk1 => f9 (k + 1) (by omega) hk1)
        refine ⟨M', ?_, q⟩
        simp (disch := first | assumption | omega | exact st8_a (Nat.le_of_ble_eq_true rfl)) only [eb_79_26, kl_a, kl_d, kl_f, kl_i, kl_l, kl_n, kl_r, xr_1, xr_10, xr_2, xr_27, xr_28, xr_3, xr_30, xr_31, xr_32, xr_33, xr_34, xr_35, xr_36, xr_37, xr_4, xr_42, xr_44, xr_5, xr_55, xr_56, xr_57, xr_58, xr_63, xr_64, af_0, af_1, xt_goto, xt_ic_eq, xt_ic_ge, xt_if_eq, xt_if_ne, xt_nop, xt_re, gF_19_1, gF_19_2, gF_1_2, gF_1_5, gF_1_6, gF_28_0, gF_28_1, gF_28_2, gA_2, gA_3, gA_4, gA_5, gA_6, gA_7, gA_8, gA_9, gA_10, gA_11, gA_13, gA_14, gA_16, gA_17, gA_20, gA_21, gA_22, gA_23, gA_24, gA_25, gA_26, gA_27, gA_30, gA_31, gA_32, gA_33, gA_34, gA_35, gA_36, gA_38, gA_39, gA_41, gA_42, gA_46, gA_47, gA_49, gA_50, gA_51, gA_53, gA_56, gA_57, gA_59, gA_60, xq_39_3_virtualc, xq_74_7_virtualc, iN_add, iN_mul, iN_sub, iN_and, iN_or, iN_clr, iN_shl, iN_shr, tb_r1, b1_z, b1_or, b1_and, b1_or0, b1_or1, b1_0or, b1_t, b1_f, iN_lt, iN_inj, reduceIte, if_true, if_false, Nat.zero_add, Nat.add_zero, Bool.false_eq_true, Bool.true_eq_false, Nat.lt_irrefl, iN_az, not_true_eq_false, not_false_eq_true, Nat.reduceEqDiff, Nat.reduceLT, Nat.reduceAdd, Nat.reduceMul, Nat.reduceSub]
        exact e1
      -- the rooms
      have fin1 : ∀ N y3 y6, KN σ M most k N → N 20 k = 1 <<< N 30 k → N 21 k = M 21 k → (∀ s r, QA σ M s r → QC σ M s r ≤ most → (∀ l, l < k → s l = N 30 l ∧ r l = N 31 l) → N 30 k ≤ s k) → ∃ M', ev xs (e + 20) 79 14 ([.ref 28, .int (nI most), .int (nI k), y3, .int (nI (M 21 k)), .int (nI 1), y6], [], hc σ N R) = some (.inl none, hc σ M' R) ∧ Fr LSS M M' ∧ (∀ j, M' 32 j < 64) ∧ M' 29 0 = 1 ∧ M' 29 1 = (σ 1 6) ∧ QA σ M (M' 30) (M' 31) ∧ QC σ M (M' 30) (M' 31) ≤ most ∧ ∀ s r, QA σ M s r → QC σ M s r ≤ most → ¬ LX (σ 1 6) s r (M' 30) (M' 31) := by
        intro N0 y3 y6 hK0 h1 h2 h3
        have hs0 := (hK0.2.2.2.2.2.1.1 k hk).1
        have inn : ∀ j, j ≤ (σ 1 5) → ∀ N, KN σ M most k N → N 20 k = 1 <<< N0 30 k → N 30 k = N0 30 k → (∀ l, l < k → N 30 l = N0 30 l ∧ N 31 l = N0 31 l) → (∀ s r, QA σ M s r → QC σ M s r ≤ most → (∀ l, l < k → s l = N0 30 l ∧ r l = N0 31 l) → s k = N0 30 k → j ≤ r k) → ∃ M', ev xs (e + 20) 79 15 ([.ref 28, .int (nI most), .int (nI k), .int (nI (1 <<< N0 30 k)), .int (nI (M 21 k)), .int (nI 0), .int (nI j)], [], hc σ N R) = some (.inl none, hc σ M' R) ∧ Fr LSS M M' ∧ (∀ j, M' 32 j < 64) ∧ M' 29 0 = 1 ∧ M' 29 1 = (σ 1 6) ∧ QA σ M (M' 30) (M' 31) ∧ QC σ M (M' 30) (M' 31) ≤ most ∧ ∀ s r, QA σ M s r → QC σ M s r ≤ most → ¬ LX (σ 1 6) s r (M' 30) (M' 31) := by
          refine lp (σ 1 5) ?_ ?_
          · intro N hK a1 a2 a3 a4
            have hq := hK.2.2.2.2.2.1
            have h5 := hW.2.1 k hk _ (hq.1 k hk).2
            have h6 := a4 _ _ hq hK.2.2.2.2.2.2.1 a3 a2
            omega
          · intro j hj ih2 N hK a1 a2 a3 a4
            have h21 := QW_21 O hW hk
            rw [eb_79_15]
            cases hb : (M 21 k).testBit j
            · obtain ⟨M', e1, q⟩ := ih2 N hK a1 a2 a3 fun s r hq hc hag hs => by
                have h5 := a4 s r hq hc hag hs
                have h6 : r k ≠ j := fun z => by
                  have := (hq.1 k hk).2
                  rw [z, hb] at this
                  cases this
                omega
              refine ⟨M', ?_, q⟩
              simp (disch := first | assumption | omega | exact st8_a (Nat.le_of_ble_eq_true rfl)) only [hj, hb, eb_79_0, eb_79_2, eb_79_4, eb_79_5, eb_79_6, eb_79_7, eb_79_8, eb_79_9, eb_79_10, eb_79_11, eb_79_12, eb_79_13, eb_79_14, eb_79_16, eb_79_17, eb_79_18, eb_79_19, eb_79_20, eb_79_21, eb_79_22, eb_79_23, eb_79_24, eb_79_25, eb_79_26, eb_79_27, kl_a, kl_d, kl_f, kl_i, kl_l, kl_n, kl_r, xr_1, xr_10, xr_2, xr_27, xr_28, xr_3, xr_30, xr_31, xr_32, xr_33, xr_34, xr_35, xr_36, xr_37, xr_4, xr_42, xr_44, xr_5, xr_55, xr_56, xr_57, xr_58, xr_63, xr_64, af_0, af_1, xt_goto, xt_ic_eq, xt_ic_ge, xt_if_eq, xt_if_ne, xt_nop, xt_re, gF_19_1, gF_19_2, gF_1_2, gF_1_5, gF_1_6, gF_28_0, gF_28_1, gF_28_2, gA_2, gA_3, gA_4, gA_5, gA_6, gA_7, gA_8, gA_9, gA_10, gA_11, gA_13, gA_14, gA_16, gA_17, gA_20, gA_21, gA_22, gA_23, gA_24, gA_25, gA_26, gA_27, gA_30, gA_31, gA_32, gA_33, gA_34, gA_35, gA_36, gA_38, gA_39, gA_41, gA_42, gA_46, gA_47, gA_49, gA_50, gA_51, gA_53, gA_56, gA_57, gA_59, gA_60, xq_39_3_virtualc, xq_74_7_virtualc, iN_add, iN_mul, iN_sub, iN_and, iN_or, iN_clr, iN_shl, iN_shr, tb_r1, b1_z, b1_or, b1_and, b1_or0, b1_or1, b1_0or, b1_t, b1_f, iN_lt, iN_inj, reduceIte, if_true, if_false, Nat.zero_add, Nat.add_zero, Bool.false_eq_true, Bool.true_eq_false, Nat.lt_irrefl, iN_az, not_true_eq_false, not_false_eq_true, Nat.reduceEqDiff, Nat.reduceLT, Nat.reduceAdd, Nat.reduceMul, Nat.reduceSub]
              exact e1
            · obtain ⟨N1, e1, b1', b2, b3, b4, b5, N3, v, e2, b6, b7, b8, b9, b10⟩ := les_step (xs := xs) (e := e) (R := R) (N := N) (st := 1 <<< N0 30 k) (ro := 1 <<< j) O hW hk hmo hK (fun i hi => by rw [tb_1s] at hi; rw [of_decide_eq_true hi]; exact hs0) (fun i hi => by rw [tb_1s] at hi; rw [of_decide_eq_true hi]; exact hb)
              have hwr : N 31 k < (σ 1 5) := hW.2.1 k hk _ (hK.2.2.2.2.2.1.1 k hk).2
              have hjr := a4 _ _ hK.2.2.2.2.2.1 hK.2.2.2.2.2.2.1 a3 a2
              have e31 : N1 31 k = N 31 k := by rw [b5]
              by_cases hjw : j = N 31 k
              · obtain ⟨M', e3, q⟩ := fin2 N1 (.int (nI (1 <<< N0 30 k))) (.int (nI (j + 1))) b3 (by rw [b1', b4, a2]) (by rw [b2, b5, ← hjw]) (fun s r hq hc hag => by
                  rw [b4, b5] at hag ⊢
                  have hag0 : ∀ l, l < k → s l = N0 30 l ∧ r l = N0 31 l := fun l hl => ⟨(hag l hl).1.trans (a3 l hl).1, (hag l hl).2.trans (a3 l hl).2⟩
                  refine ⟨?_, fun hs => ?_⟩
                  · have := h3 s r hq hc hag0
                    rw [a2]
                    exact this
                  · have := a4 s r hq hc hag0 (hs.trans a2)
                    omega)
                refine ⟨M', ?_, q⟩
                simp (disch := first | assumption | omega | exact st8_a (Nat.le_of_ble_eq_true rfl)) only [hj, hb, e1, e31, eq_true hjw, eb_79_0, eb_79_2, eb_79_4, eb_79_5, eb_79_6, eb_79_7, eb_79_8, eb_79_9, eb_79_10, eb_79_11, eb_79_12, eb_79_13, eb_79_14, eb_79_16, eb_79_17, eb_79_18, eb_79_19, eb_79_20, eb_79_21, eb_79_22, eb_79_23, eb_79_24, eb_79_25, eb_79_27, kl_a, kl_d, kl_f, kl_i, kl_l, kl_n, kl_r, xr_1, xr_10, xr_2, xr_27, xr_28, xr_3, xr_30, xr_31, xr_32, xr_33, xr_34, xr_35, xr_36, xr_37, xr_4, xr_42, xr_44, xr_5, xr_55, xr_56, xr_57, xr_58, xr_63, xr_64, af_0, af_1, xt_goto, xt_ic_eq, xt_ic_ge, xt_if_eq, xt_if_ne, xt_nop, xt_re, gF_19_1, gF_19_2, gF_1_2, gF_1_5, gF_1_6, gF_28_0, gF_28_1, gF_28_2, gA_2, gA_3, gA_4, gA_5, gA_6, gA_7, gA_8, gA_9, gA_10, gA_11, gA_13, gA_14, gA_16, gA_17, gA_20, gA_21, gA_22, gA_23, gA_24, gA_25, gA_26, gA_27, gA_30, gA_31, gA_32, gA_33, gA_34, gA_35, gA_36, gA_38, gA_39, gA_41, gA_42, gA_46, gA_47, gA_49, gA_50, gA_51, gA_53, gA_56, gA_57, gA_59, gA_60, tF_0 h29, tF_1 h29, tF_2 h29, tF_3 h29, tA_1 h29, tA_2 h29, tW_1 h29, tW_2 h29, tP_0 h29, tP_1 h29, xq_39_3_virtualc, xq_74_7_virtualc, iN_add, iN_mul, iN_sub, iN_and, iN_or, iN_clr, iN_shl, iN_shr, tb_r1, b1_z, b1_or, b1_and, b1_or0, b1_or1, b1_0or, b1_t, b1_f, iN_lt, iN_inj, reduceIte, if_true, if_false, Nat.zero_add, Nat.add_zero, Bool.false_eq_true, Bool.true_eq_false, Nat.lt_irrefl, iN_az, not_true_eq_false, not_false_eq_true, Nat.reduceEqDiff, Nat.reduceLT, Nat.reduceAdd, Nat.reduceMul, Nat.reduceSub]
                rw [eb_79_15]
                by_cases hjR : j + 1 < (σ 1 5)
                · simp (disch := first | assumption | omega | exact st8_a (Nat.le_of_ble_eq_true rfl)) only [hjR, eb_79_16, kl_a, kl_d, kl_f, kl_i, kl_l, kl_n, kl_r, xr_1, xr_10, xr_2, xr_27, xr_28, xr_3, xr_30, xr_31, xr_32, xr_33, xr_34, xr_35, xr_36, xr_37, xr_4, xr_42, xr_44, xr_5, xr_55, xr_56, xr_57, xr_58, xr_63, xr_64, af_0, af_1, xt_goto, xt_ic_eq, xt_ic_ge, xt_if_eq, xt_if_ne, xt_nop, xt_re, gF_19_1, gF_19_2, gF_1_2, gF_1_5, gF_1_6, gF_28_0, gF_28_1, gF_28_2, gA_2, gA_3, gA_4, gA_5, gA_6, gA_7, gA_8, gA_9, gA_10, gA_11, gA_13, gA_14, gA_16, gA_17, gA_20, gA_21, gA_22, gA_23, gA_24, gA_25, gA_26, gA_27, gA_30, gA_31, gA_32, gA_33, gA_34, gA_35, gA_36, gA_38, gA_39, gA_41, gA_42, gA_46, gA_47, gA_49, gA_50, gA_51, gA_53, gA_56, gA_57, gA_59, gA_60, xq_39_3_virtualc, xq_74_7_virtualc, iN_add, iN_mul, iN_sub, iN_and, iN_or, iN_clr, iN_shl, iN_shr, tb_r1, b1_z, b1_or, b1_and, b1_or0, b1_or1, b1_0or, b1_t, b1_f, iN_lt, iN_inj, reduceIte, if_true, if_false, Nat.zero_add, Nat.add_zero, Bool.false_eq_true, Bool.true_eq_false, Nat.lt_irrefl, iN_az, not_true_eq_false, not_false_eq_true, Nat.reduceEqDiff, Nat.reduceLT, Nat.reduceAdd, Nat.reduceMul, Nat.reduceSub]
                  exact e3
                · simp (disch := first | assumption | omega | exact st8_a (Nat.le_of_ble_eq_true rfl)) only [hjR, eb_79_16, kl_a, kl_d, kl_f, kl_i, kl_l, kl_n, kl_r, xr_1, xr_10, xr_2, xr_27, xr_28, xr_3, xr_30, xr_31, xr_32, xr_33, xr_34, xr_35, xr_36, xr_37, xr_4, xr_42, xr_44, xr_5, xr_55, xr_56, xr_57, xr_58, xr_63, xr_64, af_0, af_1, xt_goto, xt_ic_eq, xt_ic_ge, xt_if_eq, xt_if_ne, xt_nop, xt_re, gF_19_1, gF_19_2, gF_1_2, gF_1_5, gF_1_6, gF_28_0, gF_28_1, gF_28_2, gA_2, gA_3, gA_4, gA_5, gA_6, gA_7, gA_8, gA_9, gA_10, gA_11, gA_13, gA_14, gA_16, gA_17, gA_20, gA_21, gA_22, gA_23, gA_24, gA_25, gA_26, gA_27, gA_30, gA_31, gA_32, gA_33, gA_34, gA_35, gA_36, gA_38, gA_39, gA_41, gA_42, gA_46, gA_47, gA_49, gA_50, gA_51, gA_53, gA_56, gA_57, gA_59, gA_60, xq_39_3_virtualc, xq_74_7_virtualc, iN_add, iN_mul, iN_sub, iN_and, iN_or, iN_clr, iN_shl, iN_shr, tb_r1, b1_z, b1_or, b1_and, b1_or0, b1_or1, b1_0or, b1_t, b1_f, iN_lt, iN_inj, reduceIte, if_true, if_false, Nat.zero_add, Nat.add_zero, Bool.false_eq_true, Bool.true_eq_false, Nat.lt_irrefl, iN_az, not_true_eq_false, not_false_eq_true, Nat.reduceEqDiff, Nat.reduceLT, Nat.reduceAdd, Nat.reduceMul, Nat.reduceSub]
                  exact e3
              · rcases b10 with ⟨c1, c2, c3, c4⟩ | ⟨c1, c2, c3⟩
                · obtain ⟨M', e3, q⟩ := ih2 N3 b8 b6 (by rw [c2]; exact a2) (fun l hl => by rw [c2, c3]; exact a3 l hl) fun s r hq hc hag hs => by
                    have h5 := a4 s r hq hc hag hs
                    have h6 : r k ≠ j := fun z => c4 s r hq hc (fun l hl => ⟨(hag l hl).1.trans (a3 l hl).1.symm, (hag l hl).2.trans (a3 l hl).2.symm⟩) (by rw [tb_1s]; exact decide_eq_true hs) (by rw [tb_1s]; exact decide_eq_true z)
                    omega
                  rw [c1] at e2
                  refine ⟨M', ?_, q⟩
                  simp (disch := first | assumption | omega | exact st8_a (Nat.le_of_ble_eq_true rfl)) only [hj, hb, e1, e31, hjw, e2, eb_79_0, eb_79_2, eb_79_4, eb_79_5, eb_79_6, eb_79_7, eb_79_8, eb_79_9, eb_79_10, eb_79_11, eb_79_12, eb_79_13, eb_79_14, eb_79_16, eb_79_17, eb_79_18, eb_79_19, eb_79_20, eb_79_21, eb_79_22, eb_79_23, eb_79_24, eb_79_25, eb_79_26, eb_79_27, kl_a, kl_d, kl_f, kl_i, kl_l, kl_n, kl_r, xr_1, xr_10, xr_2, xr_27, xr_28, xr_3, xr_30, xr_31, xr_32, xr_33, xr_34, xr_35, xr_36, xr_37, xr_4, xr_42, xr_44, xr_5, xr_55, xr_56, xr_57, xr_58, xr_63, xr_64, af_0, af_1, xt_goto, xt_ic_eq, xt_ic_ge, xt_if_eq, xt_if_ne, xt_nop, xt_re, gF_19_1, gF_19_2, gF_1_2, gF_1_5, gF_1_6, gF_28_0, gF_28_1, gF_28_2, gA_2, gA_3, gA_4, gA_5, gA_6, gA_7, gA_8, gA_9, gA_10, gA_11, gA_13, gA_14, gA_16, gA_17, gA_20, gA_21, gA_22, gA_23, gA_24, gA_25, gA_26, gA_27, gA_30, gA_31, gA_32, gA_33, gA_34, gA_35, gA_36, gA_38, gA_39, gA_41, gA_42, gA_46, gA_47, gA_49, gA_50, gA_51, gA_53, gA_56, gA_57, gA_59, gA_60, tF_0 h29, tF_1 h29, tF_2 h29, tF_3 h29, tA_1 h29, tA_2 h29, tW_1 h29, tW_2 h29, tP_0 h29, tP_1 h29, xq_39_3_virtualc, xq_74_7_virtualc, iN_add, iN_mul, iN_sub, iN_and, iN_or, iN_clr, iN_shl, iN_shr, tb_r1, b1_z, b1_or, b1_and, b1_or0, b1_or1, b1_0or, b1_t, b1_f, iN_lt, iN_inj, reduceIte, if_true, if_false, Nat.zero_add, Nat.add_zero, Bool.false_eq_true, Bool.true_eq_false, Nat.lt_irrefl, iN_az, not_true_eq_false, not_false_eq_true, Nat.reduceEqDiff, Nat.reduceLT, Nat.reduceAdd, Nat.reduceMul, Nat.reduceSub]
                  exact e3
                · have hv : ¬ v = 4294967295 := by omega
                  rw [tb_1s] at c2 c3
                  have c2 := of_decide_eq_true c2
                  have c3 := of_decide_eq_true c3
                  obtain ⟨M', e3, q⟩ := fin2 N3 (.int (nI (1 <<< N0 30 k))) (.int (nI (j + 1))) b8 (by rw [b6, c2]) (by rw [b7, c3]) (fun s r hq hc hag => by
                    have hag0 : ∀ l, l < k → s l = N0 30 l ∧ r l = N0 31 l := fun l hl => ⟨((hag l hl).1.trans (b9 l hl).1).trans (a3 l hl).1, ((hag l hl).2.trans (b9 l hl).2).trans (a3 l hl).2⟩
                    refine ⟨?_, fun hs => ?_⟩
                    · rw [c2]
                      exact h3 s r hq hc hag0
                    · rw [c3]
                      exact a4 s r hq hc hag0 (hs.trans c2))
                  refine ⟨M', ?_, q⟩
                  simp (disch := first | assumption | omega | exact st8_a (Nat.le_of_ble_eq_true rfl)) only [hj, hb, e1, e31, hjw, e2, hv, eb_79_0, eb_79_2, eb_79_4, eb_79_5, eb_79_6, eb_79_7, eb_79_8, eb_79_9, eb_79_10, eb_79_11, eb_79_12, eb_79_13, eb_79_14, eb_79_16, eb_79_17, eb_79_18, eb_79_19, eb_79_20, eb_79_21, eb_79_22, eb_79_23, eb_79_24, eb_79_25, eb_79_27, kl_a, kl_d, kl_f, kl_i, kl_l, kl_n, kl_r, xr_1, xr_10, xr_2, xr_27, xr_28, xr_3, xr_30, xr_31, xr_32, xr_33, xr_34, xr_35, xr_36, xr_37, xr_4, xr_42, xr_44, xr_5, xr_55, xr_56, xr_57, xr_58, xr_63, xr_64, af_0, af_1, xt_goto, xt_ic_eq, xt_ic_ge, xt_if_eq, xt_if_ne, xt_nop, xt_re, gF_19_1, gF_19_2, gF_1_2, gF_1_5, gF_1_6, gF_28_0, gF_28_1, gF_28_2, gA_2, gA_3, gA_4, gA_5, gA_6, gA_7, gA_8, gA_9, gA_10, gA_11, gA_13, gA_14, gA_16, gA_17, gA_20, gA_21, gA_22, gA_23, gA_24, gA_25, gA_26, gA_27, gA_30, gA_31, gA_32, gA_33, gA_34, gA_35, gA_36, gA_38, gA_39, gA_41, gA_42, gA_46, gA_47, gA_49, gA_50, gA_51, gA_53, gA_56, gA_57, gA_59, gA_60, tF_0 h29, tF_1 h29, tF_2 h29, tF_3 h29, tA_1 h29, tA_2 h29, tW_1 h29, tW_2 h29, tP_0 h29, tP_1 h29, xq_39_3_virtualc, xq_74_7_virtualc, iN_add, iN_mul, iN_sub, iN_and, iN_or, iN_clr, iN_shl, iN_shr, tb_r1, b1_z, b1_or, b1_and, b1_or0, b1_or1, b1_0or, b1_t, b1_f, iN_lt, iN_inj, reduceIte, if_true, if_false, Nat.zero_add, Nat.add_zero, Bool.false_eq_true, Bool.true_eq_false, Nat.lt_irrefl, iN_az, not_true_eq_false, not_false_eq_true, Nat.reduceEqDiff, Nat.reduceLT, Nat.reduceAdd, Nat.reduceMul, Nat.reduceSub]
                  rw [eb_79_15]
                  by_cases hjR : j + 1 < (σ 1 5)
                  · simp (disch := first | assumption | omega | exact st8_a (Nat.le_of_ble_eq_true rfl)) only [hjR, eb_79_16, kl_a, kl_d, kl_f, kl_i, kl_l, kl_n, kl_r, xr_1, xr_10, xr_2, xr_27, xr_28, xr_3, xr_30, xr_31, xr_32, xr_33, xr_34, xr_35, xr_36, xr_37, xr_4, xr_42, xr_44, xr_5, xr_55, xr_56, xr_57, xr_58, xr_63, xr_64, af_0, af_1, xt_goto, xt_ic_eq, xt_ic_ge, xt_if_eq, xt_if_ne, xt_nop, xt_re, gF_19_1, gF_19_2, gF_1_2, gF_1_5, gF_1_6, gF_28_0, gF_28_1, gF_28_2, gA_2, gA_3, gA_4, gA_5, gA_6, gA_7, gA_8, gA_9, gA_10, gA_11, gA_13, gA_14, gA_16, gA_17, gA_20, gA_21, gA_22, gA_23, gA_24, gA_25, gA_26, gA_27, gA_30, gA_31, gA_32, gA_33, gA_34, gA_35, gA_36, gA_38, gA_39, gA_41, gA_42, gA_46, gA_47, gA_49, gA_50, gA_51, gA_53, gA_56, gA_57, gA_59, gA_60, xq_39_3_virtualc, xq_74_7_virtualc, iN_add, iN_mul, iN_sub, iN_and, iN_or, iN_clr, iN_shl, iN_shr, tb_r1, b1_z, b1_or, b1_and, b1_or0, b1_or1, b1_0or, b1_t, b1_f, iN_lt, iN_inj, reduceIte, if_true, if_false, Nat.zero_add, Nat.add_zero, Bool.false_eq_true, Bool.true_eq_false, Nat.lt_irrefl, iN_az, not_true_eq_false, not_false_eq_true, Nat.reduceEqDiff, Nat.reduceLT, Nat.reduceAdd, Nat.reduceMul, Nat.reduceSub]
                    exact e3
                  · simp (disch := first | assumption | omega | exact st8_a (Nat.le_of_ble_eq_true rfl)) only [hjR, eb_79_16, kl_a, kl_d, kl_f, kl_i, kl_l, kl_n, kl_r, xr_1, xr_10, xr_2, xr_27, xr_28, xr_3, xr_30, xr_31, xr_32, xr_33, xr_34, xr_35, xr_36, xr_37, xr_4, xr_42, xr_44, xr_5, xr_55, xr_56, xr_57, xr_58, xr_63, xr_64, af_0, af_1, xt_goto, xt_ic_eq, xt_ic_ge, xt_if_eq, xt_if_ne, xt_nop, xt_re, gF_19_1, gF_19_2, gF_1_2, gF_1_5, gF_1_6, gF_28_0, gF_28_1, gF_28_2, gA_2, gA_3, gA_4, gA_5, gA_6, gA_7, gA_8, gA_9, gA_10, gA_11, gA_13, gA_14, gA_16, gA_17, gA_20, gA_21, gA_22, gA_23, gA_24, gA_25, gA_26, gA_27, gA_30, gA_31, gA_32, gA_33, gA_34, gA_35, gA_36, gA_38, gA_39, gA_41, gA_42, gA_46, gA_47, gA_49, gA_50, gA_51, gA_53, gA_56, gA_57, gA_59, gA_60, xq_39_3_virtualc, xq_74_7_virtualc, iN_add, iN_mul, iN_sub, iN_and, iN_or, iN_clr, iN_shl, iN_shr, tb_r1, b1_z, b1_or, b1_and, b1_or0, b1_or1, b1_0or, b1_t, b1_f, iN_lt, iN_inj, reduceIte, if_true, if_false, Nat.zero_add, Nat.add_zero, Bool.false_eq_true, Bool.true_eq_false, Nat.lt_irrefl, iN_az, not_true_eq_false, not_false_eq_true, Nat.reduceEqDiff, Nat.reduceLT, Nat.reduceAdd, Nat.reduceMul, Nat.reduceSub]
                    exact e3
        obtain ⟨M', e1, q⟩ := inn 0 (Nat.zero_le _) N0 hK0 h1 rfl (fun _ _ => ⟨rfl, rfl⟩) (fun _ _ _ _ _ _ => Nat.zero_le _)
        refine ⟨M', ?_, q⟩
        simp (disch := first | assumption | omega | exact st8_a (Nat.le_of_ble_eq_true rfl)) only [h1, eb_79_14, kl_a, kl_d, kl_f, kl_i, kl_l, kl_n, kl_r, xr_1, xr_10, xr_2, xr_27, xr_28, xr_3, xr_30, xr_31, xr_32, xr_33, xr_34, xr_35, xr_36, xr_37, xr_4, xr_42, xr_44, xr_5, xr_55, xr_56, xr_57, xr_58, xr_63, xr_64, af_0, af_1, xt_goto, xt_ic_eq, xt_ic_ge, xt_if_eq, xt_if_ne, xt_nop, xt_re, gF_19_1, gF_19_2, gF_1_2, gF_1_5, gF_1_6, gF_28_0, gF_28_1, gF_28_2, gA_2, gA_3, gA_4, gA_5, gA_6, gA_7, gA_8, gA_9, gA_10, gA_11, gA_13, gA_14, gA_16, gA_17, gA_20, gA_21, gA_22, gA_23, gA_24, gA_25, gA_26, gA_27, gA_30, gA_31, gA_32, gA_33, gA_34, gA_35, gA_36, gA_38, gA_39, gA_41, gA_42, gA_46, gA_47, gA_49, gA_50, gA_51, gA_53, gA_56, gA_57, gA_59, gA_60, xq_39_3_virtualc, xq_74_7_virtualc, iN_add, iN_mul, iN_sub, iN_and, iN_or, iN_clr, iN_shl, iN_shr, tb_r1, b1_z, b1_or, b1_and, b1_or0, b1_or1, b1_0or, b1_t, b1_f, iN_lt, iN_inj, reduceIte, if_true, if_false, Nat.zero_add, Nat.add_zero, Bool.false_eq_true, Bool.true_eq_false, Nat.lt_irrefl, iN_az, not_true_eq_false, not_false_eq_true, Nat.reduceEqDiff, Nat.reduceLT, Nat.reduceAdd, Nat.reduceMul, Nat.reduceSub]
        exact e1
      -- the slots
      have slots : ∀ j, j ≤ (σ 1 2) → ∀ N0, KN σ M most k N0 → N0 21 k = M 21 k → (∀ l, l < k → N0 30 l = N 30 l ∧ N0 31 l = N 31 l) → (∀ s r, QA σ M s r → QC σ M s r ≤ most → (∀ l, l < k → s l = N 30 l ∧ r l = N 31 l) → j ≤ s k) → ∃ M', ev xs (e + 20) 79 3 ([.ref 28, .int (nI most), .int (nI k), .int (nI (M 20 k)), .int (nI (M 21 k)), .int (nI 0), .int (nI j)], [], hc σ N0 R) = some (.inl none, hc σ M' R) ∧ Fr LSS M M' ∧ (∀ j, M' 32 j < 64) ∧ M' 29 0 = 1 ∧ M' 29 1 = (σ 1 6) ∧ QA σ M (M' 30) (M' 31) ∧ QC σ M (M' 30) (M' 31) ≤ most ∧ ∀ s r, QA σ M s r → QC σ M s r ≤ most → ¬ LX (σ 1 6) s r (M' 30) (M' 31) := by
        refine lp (σ 1 2) ?_ ?_
        · intro N0 hK0 a1 a3 a4
          have hq := hK0.2.2.2.2.2.1
          have h5 := (hW.1 k hk _ (hq.1 k hk).1).1
          have h6 := a4 _ _ hq hK0.2.2.2.2.2.2.1 a3
          omega
        · intro j hj ih2 N0 hK0 a1 a3 a4
          have h20 := QW_20 O hW hk
          rw [eb_79_3]
          cases hb : (M 20 k).testBit j
          · obtain ⟨M', e1, q⟩ := ih2 N0 hK0 a1 a3 fun s r hq hc hag => by
              have h5 := a4 s r hq hc hag
              have h6 : s k ≠ j := fun z => by
                have := (hq.1 k hk).1
                rw [z, hb] at this
                cases this
              omega
            refine ⟨M', ?_, q⟩
            simp (disch := first | assumption | omega | exact st8_a (Nat.le_of_ble_eq_true rfl)) only [hj, hb, eb_79_0, eb_79_2, eb_79_4, eb_79_5, eb_79_6, eb_79_7, eb_79_8, eb_79_9, eb_79_10, eb_79_11, eb_79_12, eb_79_13, eb_79_14, eb_79_16, eb_79_17, eb_79_18, eb_79_19, eb_79_20, eb_79_21, eb_79_22, eb_79_23, eb_79_24, eb_79_25, eb_79_26, eb_79_27, kl_a, kl_d, kl_f, kl_i, kl_l, kl_n, kl_r, xr_1, xr_10, xr_2, xr_27, xr_28, xr_3, xr_30, xr_31, xr_32, xr_33, xr_34, xr_35, xr_36, xr_37, xr_4, xr_42, xr_44, xr_5, xr_55, xr_56, xr_57, xr_58, xr_63, xr_64, af_0, af_1, xt_goto, xt_ic_eq, xt_ic_ge, xt_if_eq, xt_if_ne, xt_nop, xt_re, gF_19_1, gF_19_2, gF_1_2, gF_1_5, gF_1_6, gF_28_0, gF_28_1, gF_28_2, gA_2, gA_3, gA_4, gA_5, gA_6, gA_7, gA_8, gA_9, gA_10, gA_11, gA_13, gA_14, gA_16, gA_17, gA_20, gA_21, gA_22, gA_23, gA_24, gA_25, gA_26, gA_27, gA_30, gA_31, gA_32, gA_33, gA_34, gA_35, gA_36, gA_38, gA_39, gA_41, gA_42, gA_46, gA_47, gA_49, gA_50, gA_51, gA_53, gA_56, gA_57, gA_59, gA_60, xq_39_3_virtualc, xq_74_7_virtualc, iN_add, iN_mul, iN_sub, iN_and, iN_or, iN_clr, iN_shl, iN_shr, tb_r1, b1_z, b1_or, b1_and, b1_or0, b1_or1, b1_0or, b1_t, b1_f, iN_lt, iN_inj, reduceIte, if_true, if_false, Nat.zero_add, Nat.add_zero, Bool.false_eq_true, Bool.true_eq_false, Nat.lt_irrefl, iN_az, not_true_eq_false, not_false_eq_true, Nat.reduceEqDiff, Nat.reduceLT, Nat.reduceAdd, Nat.reduceMul, Nat.reduceSub]
            exact e1
          · obtain ⟨N1, e1, b1', b2, b3, b4, b5, N3, v, e2, b6, b7, b8, b9, b10⟩ := les_step (xs := xs) (e := e) (R := R) (N := N0) (st := 1 <<< j) (ro := M 21 k) O hW hk hmo hK0 (fun i hi => by rw [tb_1s] at hi; rw [of_decide_eq_true hi]; exact hb) (fun i hi => hi)
            have hws : N0 30 k < (σ 1 2) := (hW.1 k hk _ (hK0.2.2.2.2.2.1.1 k hk).1).1
            have e30 : N1 30 k = N0 30 k := by rw [b4]
            by_cases hjw : j = N0 30 k
            · obtain ⟨M', e3, q⟩ := fin1 N1 (.int (nI (M 20 k))) (.int (nI (j + 1))) b3 (by rw [b1', b4, ← hjw]) b2 (fun s r hq hc hag => by
                rw [b4, b5] at hag
                rw [b4]
                have := a4 s r hq hc fun l hl => ⟨(hag l hl).1.trans (a3 l hl).1, (hag l hl).2.trans (a3 l hl).2⟩
                omega)
              refine ⟨M', ?_, q⟩
              simp (disch := first | assumption | omega | exact st8_a (Nat.le_of_ble_eq_true rfl)) only [hj, hb, e1, e30, eq_true hjw, eb_79_0, eb_79_2, eb_79_4, eb_79_5, eb_79_6, eb_79_7, eb_79_8, eb_79_9, eb_79_10, eb_79_11, eb_79_12, eb_79_13, eb_79_16, eb_79_17, eb_79_18, eb_79_19, eb_79_20, eb_79_21, eb_79_22, eb_79_23, eb_79_24, eb_79_25, eb_79_26, eb_79_27, kl_a, kl_d, kl_f, kl_i, kl_l, kl_n, kl_r, xr_1, xr_10, xr_2, xr_27, xr_28, xr_3, xr_30, xr_31, xr_32, xr_33, xr_34, xr_35, xr_36, xr_37, xr_4, xr_42, xr_44, xr_5, xr_55, xr_56, xr_57, xr_58, xr_63, xr_64, af_0, af_1, xt_goto, xt_ic_eq, xt_ic_ge, xt_if_eq, xt_if_ne, xt_nop, xt_re, gF_19_1, gF_19_2, gF_1_2, gF_1_5, gF_1_6, gF_28_0, gF_28_1, gF_28_2, gA_2, gA_3, gA_4, gA_5, gA_6, gA_7, gA_8, gA_9, gA_10, gA_11, gA_13, gA_14, gA_16, gA_17, gA_20, gA_21, gA_22, gA_23, gA_24, gA_25, gA_26, gA_27, gA_30, gA_31, gA_32, gA_33, gA_34, gA_35, gA_36, gA_38, gA_39, gA_41, gA_42, gA_46, gA_47, gA_49, gA_50, gA_51, gA_53, gA_56, gA_57, gA_59, gA_60, tF_0 h29, tF_1 h29, tF_2 h29, tF_3 h29, tA_1 h29, tA_2 h29, tW_1 h29, tW_2 h29, tP_0 h29, tP_1 h29, xq_39_3_virtualc, xq_74_7_virtualc, iN_add, iN_mul, iN_sub, iN_and, iN_or, iN_clr, iN_shl, iN_shr, tb_r1, b1_z, b1_or, b1_and, b1_or0, b1_or1, b1_0or, b1_t, b1_f, iN_lt, iN_inj, reduceIte, if_true, if_false, Nat.zero_add, Nat.add_zero, Bool.false_eq_true, Bool.true_eq_false, Nat.lt_irrefl, iN_az, not_true_eq_false, not_false_eq_true, Nat.reduceEqDiff, Nat.reduceLT, Nat.reduceAdd, Nat.reduceMul, Nat.reduceSub]
              rw [eb_79_3]
              by_cases hjS : j + 1 < (σ 1 2)
              · simp (disch := first | assumption | omega | exact st8_a (Nat.le_of_ble_eq_true rfl)) only [hjS, eb_79_4, kl_a, kl_d, kl_f, kl_i, kl_l, kl_n, kl_r, xr_1, xr_10, xr_2, xr_27, xr_28, xr_3, xr_30, xr_31, xr_32, xr_33, xr_34, xr_35, xr_36, xr_37, xr_4, xr_42, xr_44, xr_5, xr_55, xr_56, xr_57, xr_58, xr_63, xr_64, af_0, af_1, xt_goto, xt_ic_eq, xt_ic_ge, xt_if_eq, xt_if_ne, xt_nop, xt_re, gF_19_1, gF_19_2, gF_1_2, gF_1_5, gF_1_6, gF_28_0, gF_28_1, gF_28_2, gA_2, gA_3, gA_4, gA_5, gA_6, gA_7, gA_8, gA_9, gA_10, gA_11, gA_13, gA_14, gA_16, gA_17, gA_20, gA_21, gA_22, gA_23, gA_24, gA_25, gA_26, gA_27, gA_30, gA_31, gA_32, gA_33, gA_34, gA_35, gA_36, gA_38, gA_39, gA_41, gA_42, gA_46, gA_47, gA_49, gA_50, gA_51, gA_53, gA_56, gA_57, gA_59, gA_60, xq_39_3_virtualc, xq_74_7_virtualc, iN_add, iN_mul, iN_sub, iN_and, iN_or, iN_clr, iN_shl, iN_shr, tb_r1, b1_z, b1_or, b1_and, b1_or0, b1_or1, b1_0or, b1_t, b1_f, iN_lt, iN_inj, reduceIte, if_true, if_false, Nat.zero_add, Nat.add_zero, Bool.false_eq_true, Bool.true_eq_false, Nat.lt_irrefl, iN_az, not_true_eq_false, not_false_eq_true, Nat.reduceEqDiff, Nat.reduceLT, Nat.reduceAdd, Nat.reduceMul, Nat.reduceSub]
                exact e3
              · simp (disch := first | assumption | omega | exact st8_a (Nat.le_of_ble_eq_true rfl)) only [hjS, eb_79_4, kl_a, kl_d, kl_f, kl_i, kl_l, kl_n, kl_r, xr_1, xr_10, xr_2, xr_27, xr_28, xr_3, xr_30, xr_31, xr_32, xr_33, xr_34, xr_35, xr_36, xr_37, xr_4, xr_42, xr_44, xr_5, xr_55, xr_56, xr_57, xr_58, xr_63, xr_64, af_0, af_1, xt_goto, xt_ic_eq, xt_ic_ge, xt_if_eq, xt_if_ne, xt_nop, xt_re, gF_19_1, gF_19_2, gF_1_2, gF_1_5, gF_1_6, gF_28_0, gF_28_1, gF_28_2, gA_2, gA_3, gA_4, gA_5, gA_6, gA_7, gA_8, gA_9, gA_10, gA_11, gA_13, gA_14, gA_16, gA_17, gA_20, gA_21, gA_22, gA_23, gA_24, gA_25, gA_26, gA_27, gA_30, gA_31, gA_32, gA_33, gA_34, gA_35, gA_36, gA_38, gA_39, gA_41, gA_42, gA_46, gA_47, gA_49, gA_50, gA_51, gA_53, gA_56, gA_57, gA_59, gA_60, xq_39_3_virtualc, xq_74_7_virtualc, iN_add, iN_mul, iN_sub, iN_and, iN_or, iN_clr, iN_shl, iN_shr, tb_r1, b1_z, b1_or, b1_and, b1_or0, b1_or1, b1_0or, b1_t, b1_f, iN_lt, iN_inj, reduceIte, if_true, if_false, Nat.zero_add, Nat.add_zero, Bool.false_eq_true, Bool.true_eq_false, Nat.lt_irrefl, iN_az, not_true_eq_false, not_false_eq_true, Nat.reduceEqDiff, Nat.reduceLT, Nat.reduceAdd, Nat.reduceMul, Nat.reduceSub]
                exact e3
            · rcases b10 with ⟨c1, c2, c3, c4⟩ | ⟨c1, c2, c3⟩
              · obtain ⟨M', e3, q⟩ := ih2 N3 b8 b7 (fun l hl => by rw [c2, c3]; exact a3 l hl) fun s r hq hc hag => by
                  have h5 := a4 s r hq hc hag
                  have h6 : s k ≠ j := fun z => c4 s r hq hc (fun l hl => ⟨(hag l hl).1.trans (a3 l hl).1.symm, (hag l hl).2.trans (a3 l hl).2.symm⟩) (by rw [tb_1s]; exact decide_eq_true z) (hq.1 k hk).2
                  omega
                rw [c1] at e2
                refine ⟨M', ?_, q⟩
                simp (disch := first | assumption | omega | exact st8_a (Nat.le_of_ble_eq_true rfl)) only [hj, hb, e1, e30, hjw, e2, eb_79_0, eb_79_2, eb_79_4, eb_79_5, eb_79_6, eb_79_7, eb_79_8, eb_79_9, eb_79_10, eb_79_11, eb_79_12, eb_79_13, eb_79_14, eb_79_16, eb_79_17, eb_79_18, eb_79_19, eb_79_20, eb_79_21, eb_79_22, eb_79_23, eb_79_24, eb_79_25, eb_79_26, eb_79_27, kl_a, kl_d, kl_f, kl_i, kl_l, kl_n, kl_r, xr_1, xr_10, xr_2, xr_27, xr_28, xr_3, xr_30, xr_31, xr_32, xr_33, xr_34, xr_35, xr_36, xr_37, xr_4, xr_42, xr_44, xr_5, xr_55, xr_56, xr_57, xr_58, xr_63, xr_64, af_0, af_1, xt_goto, xt_ic_eq, xt_ic_ge, xt_if_eq, xt_if_ne, xt_nop, xt_re, gF_19_1, gF_19_2, gF_1_2, gF_1_5, gF_1_6, gF_28_0, gF_28_1, gF_28_2, gA_2, gA_3, gA_4, gA_5, gA_6, gA_7, gA_8, gA_9, gA_10, gA_11, gA_13, gA_14, gA_16, gA_17, gA_20, gA_21, gA_22, gA_23, gA_24, gA_25, gA_26, gA_27, gA_30, gA_31, gA_32, gA_33, gA_34, gA_35, gA_36, gA_38, gA_39, gA_41, gA_42, gA_46, gA_47, gA_49, gA_50, gA_51, gA_53, gA_56, gA_57, gA_59, gA_60, tF_0 h29, tF_1 h29, tF_2 h29, tF_3 h29, tA_1 h29, tA_2 h29, tW_1 h29, tW_2 h29, tP_0 h29, tP_1 h29, xq_39_3_virtualc, xq_74_7_virtualc, iN_add, iN_mul, iN_sub, iN_and, iN_or, iN_clr, iN_shl, iN_shr, tb_r1, b1_z, b1_or, b1_and, b1_or0, b1_or1, b1_0or, b1_t, b1_f, iN_lt, iN_inj, reduceIte, if_true, if_false, Nat.zero_add, Nat.add_zero, Bool.false_eq_true, Bool.true_eq_false, Nat.lt_irrefl, iN_az, not_true_eq_false, not_false_eq_true, Nat.reduceEqDiff, Nat.reduceLT, Nat.reduceAdd, Nat.reduceMul, Nat.reduceSub]
                exact e3
              · have hv : ¬ v = 4294967295 := by omega
                rw [tb_1s] at c2
                have c2 := of_decide_eq_true c2
                obtain ⟨M', e3, q⟩ := fin1 N3 (.int (nI (M 20 k))) (.int (nI (j + 1))) b8 (by rw [b6, c2]) b7 (fun s r hq hc hag => by
                  rw [c2]
                  exact a4 s r hq hc fun l hl => ⟨((hag l hl).1.trans (b9 l hl).1).trans (a3 l hl).1, ((hag l hl).2.trans (b9 l hl).2).trans (a3 l hl).2⟩)
                refine ⟨M', ?_, q⟩
                simp (disch := first | assumption | omega | exact st8_a (Nat.le_of_ble_eq_true rfl)) only [hj, hb, e1, e30, hjw, e2, hv, eb_79_0, eb_79_2, eb_79_4, eb_79_5, eb_79_6, eb_79_7, eb_79_8, eb_79_9, eb_79_10, eb_79_11, eb_79_12, eb_79_13, eb_79_16, eb_79_17, eb_79_18, eb_79_19, eb_79_20, eb_79_21, eb_79_22, eb_79_23, eb_79_24, eb_79_25, eb_79_26, eb_79_27, kl_a, kl_d, kl_f, kl_i, kl_l, kl_n, kl_r, xr_1, xr_10, xr_2, xr_27, xr_28, xr_3, xr_30, xr_31, xr_32, xr_33, xr_34, xr_35, xr_36, xr_37, xr_4, xr_42, xr_44, xr_5, xr_55, xr_56, xr_57, xr_58, xr_63, xr_64, af_0, af_1, xt_goto, xt_ic_eq, xt_ic_ge, xt_if_eq, xt_if_ne, xt_nop, xt_re, gF_19_1, gF_19_2, gF_1_2, gF_1_5, gF_1_6, gF_28_0, gF_28_1, gF_28_2, gA_2, gA_3, gA_4, gA_5, gA_6, gA_7, gA_8, gA_9, gA_10, gA_11, gA_13, gA_14, gA_16, gA_17, gA_20, gA_21, gA_22, gA_23, gA_24, gA_25, gA_26, gA_27, gA_30, gA_31, gA_32, gA_33, gA_34, gA_35, gA_36, gA_38, gA_39, gA_41, gA_42, gA_46, gA_47, gA_49, gA_50, gA_51, gA_53, gA_56, gA_57, gA_59, gA_60, tF_0 h29, tF_1 h29, tF_2 h29, tF_3 h29, tA_1 h29, tA_2 h29, tW_1 h29, tW_2 h29, tP_0 h29, tP_1 h29, xq_39_3_virtualc, xq_74_7_virtualc, iN_add, iN_mul, iN_sub, iN_and, iN_or, iN_clr, iN_shl, iN_shr, tb_r1, b1_z, b1_or, b1_and, b1_or0, b1_or1, b1_0or, b1_t, b1_f, iN_lt, iN_inj, reduceIte, if_true, if_false, Nat.zero_add, Nat.add_zero, Bool.false_eq_true, Bool.true_eq_false, Nat.lt_irrefl, iN_az, not_true_eq_false, not_false_eq_true, Nat.reduceEqDiff, Nat.reduceLT, Nat.reduceAdd, Nat.reduceMul, Nat.reduceSub]
                rw [eb_79_3]
                by_cases hjS : j + 1 < (σ 1 2)
                · simp (disch := first | assumption | omega | exact st8_a (Nat.le_of_ble_eq_true rfl)) only [hjS, eb_79_4, kl_a, kl_d, kl_f, kl_i, kl_l, kl_n, kl_r, xr_1, xr_10, xr_2, xr_27, xr_28, xr_3, xr_30, xr_31, xr_32, xr_33, xr_34, xr_35, xr_36, xr_37, xr_4, xr_42, xr_44, xr_5, xr_55, xr_56, xr_57, xr_58, xr_63, xr_64, af_0, af_1, xt_goto, xt_ic_eq, xt_ic_ge, xt_if_eq, xt_if_ne, xt_nop, xt_re, gF_19_1, gF_19_2, gF_1_2, gF_1_5, gF_1_6, gF_28_0, gF_28_1, gF_28_2, gA_2, gA_3, gA_4, gA_5, gA_6, gA_7, gA_8, gA_9, gA_10, gA_11, gA_13, gA_14, gA_16, gA_17, gA_20, gA_21, gA_22, gA_23, gA_24, gA_25, gA_26, gA_27, gA_30, gA_31, gA_32, gA_33, gA_34, gA_35, gA_36, gA_38, gA_39, gA_41, gA_42, gA_46, gA_47, gA_49, gA_50, gA_51, gA_53, gA_56, gA_57, gA_59, gA_60, xq_39_3_virtualc, xq_74_7_virtualc, iN_add, iN_mul, iN_sub, iN_and, iN_or, iN_clr, iN_shl, iN_shr, tb_r1, b1_z, b1_or, b1_and, b1_or0, b1_or1, b1_0or, b1_t, b1_f, iN_lt, iN_inj, reduceIte, if_true, if_false, Nat.zero_add, Nat.add_zero, Bool.false_eq_true, Bool.true_eq_false, Nat.lt_irrefl, iN_az, not_true_eq_false, not_false_eq_true, Nat.reduceEqDiff, Nat.reduceLT, Nat.reduceAdd, Nat.reduceMul, Nat.reduceSub]
                  exact e3
                · simp (disch := first | assumption | omega | exact st8_a (Nat.le_of_ble_eq_true rfl)) only [hjS, eb_79_4, kl_a, kl_d, kl_f, kl_i, kl_l, kl_n, kl_r, xr_1, xr_10, xr_2, xr_27, xr_28, xr_3, xr_30, xr_31, xr_32, xr_33, xr_34, xr_35, xr_36, xr_37, xr_4, xr_42, xr_44, xr_5, xr_55, xr_56, xr_57, xr_58, xr_63, xr_64, af_0, af_1, xt_goto, xt_ic_eq, xt_ic_ge, xt_if_eq, xt_if_ne, xt_nop, xt_re, gF_19_1, gF_19_2, gF_1_2, gF_1_5, gF_1_6, gF_28_0, gF_28_1, gF_28_2, gA_2, gA_3, gA_4, gA_5, gA_6, gA_7, gA_8, gA_9, gA_10, gA_11, gA_13, gA_14, gA_16, gA_17, gA_20, gA_21, gA_22, gA_23, gA_24, gA_25, gA_26, gA_27, gA_30, gA_31, gA_32, gA_33, gA_34, gA_35, gA_36, gA_38, gA_39, gA_41, gA_42, gA_46, gA_47, gA_49, gA_50, gA_51, gA_53, gA_56, gA_57, gA_59, gA_60, xq_39_3_virtualc, xq_74_7_virtualc, iN_add, iN_mul, iN_sub, iN_and, iN_or, iN_clr, iN_shl, iN_shr, tb_r1, b1_z, b1_or, b1_and, b1_or0, b1_or1, b1_0or, b1_t, b1_f, iN_lt, iN_inj, reduceIte, if_true, if_false, Nat.zero_add, Nat.add_zero, Bool.false_eq_true, Bool.true_eq_false, Nat.lt_irrefl, iN_az, not_true_eq_false, not_false_eq_true, Nat.reduceEqDiff, Nat.reduceLT, Nat.reduceAdd, Nat.reduceMul, Nat.reduceSub]
                  exact e3
      obtain ⟨M', e1, q⟩ := slots 0 (Nat.zero_le _) N hK k21 (fun _ _ => ⟨rfl, rfl⟩) (fun _ _ _ _ _ => Nat.zero_le _)
      refine ⟨M', ?_, q⟩
      rw [eb_79_1]
      simp (disch := first | assumption | omega | exact st8_a (Nat.le_of_ble_eq_true rfl)) only [hk, k20, k21, eb_79_2, kl_a, kl_d, kl_f, kl_i, kl_l, kl_n, kl_r, xr_1, xr_10, xr_2, xr_27, xr_28, xr_3, xr_30, xr_31, xr_32, xr_33, xr_34, xr_35, xr_36, xr_37, xr_4, xr_42, xr_44, xr_5, xr_55, xr_56, xr_57, xr_58, xr_63, xr_64, af_0, af_1, xt_goto, xt_ic_eq, xt_ic_ge, xt_if_eq, xt_if_ne, xt_nop, xt_re, gF_19_1, gF_19_2, gF_1_2, gF_1_5, gF_1_6, gF_28_0, gF_28_1, gF_28_2, gA_2, gA_3, gA_4, gA_5, gA_6, gA_7, gA_8, gA_9, gA_10, gA_11, gA_13, gA_14, gA_16, gA_17, gA_20, gA_21, gA_22, gA_23, gA_24, gA_25, gA_26, gA_27, gA_30, gA_31, gA_32, gA_33, gA_34, gA_35, gA_36, gA_38, gA_39, gA_41, gA_42, gA_46, gA_47, gA_49, gA_50, gA_51, gA_53, gA_56, gA_57, gA_59, gA_60, xq_39_3_virtualc, xq_74_7_virtualc, iN_add, iN_mul, iN_sub, iN_and, iN_or, iN_clr, iN_shl, iN_shr, tb_r1, b1_z, b1_or, b1_and, b1_or0, b1_or1, b1_0or, b1_t, b1_f, iN_lt, iN_inj, reduceIte, if_true, if_false, Nat.zero_add, Nat.add_zero, Bool.false_eq_true, Bool.true_eq_false, Nat.lt_irrefl, iN_az, not_true_eq_false, not_false_eq_true, Nat.reduceEqDiff, Nat.reduceLT, Nat.reduceAdd, Nat.reduceMul, Nat.reduceSub]
      exact e1
  obtain ⟨M', e1, q⟩ := outer 0 (Nat.zero_le _) M (.retAddr 9) (.retAddr 9) (.retAddr 9) (.retAddr 9) ⟨Fr_r _ _, hW, hdb, h290, h291, hqq, hcc, fun l hl => absurd hl (Nat.not_lt_zero l), fun l _ _ => ⟨rfl, rfl⟩, fun s r _ _ ⟨j, hj, _⟩ => absurd hj (Nat.not_lt_zero j)⟩ (fun _ => ⟨rfl, rfl⟩)
  refine ⟨M', ?_, q⟩
  simp (disch := first | assumption | omega | exact st8_a (Nat.le_of_ble_eq_true rfl)) only [eb_79_0, eb_79_2, eb_79_4, eb_79_5, eb_79_6, eb_79_7, eb_79_8, eb_79_9, eb_79_10, eb_79_11, eb_79_12, eb_79_13, eb_79_14, eb_79_16, eb_79_17, eb_79_18, eb_79_19, eb_79_20, eb_79_21, eb_79_22, eb_79_23, eb_79_24, eb_79_25, eb_79_26, eb_79_27, kl_a, kl_d, kl_f, kl_i, kl_l, kl_n, kl_r, xr_1, xr_10, xr_2, xr_27, xr_28, xr_3, xr_30, xr_31, xr_32, xr_33, xr_34, xr_35, xr_36, xr_37, xr_4, xr_42, xr_44, xr_5, xr_55, xr_56, xr_57, xr_58, xr_63, xr_64, af_0, af_1, xt_goto, xt_ic_eq, xt_ic_ge, xt_if_eq, xt_if_ne, xt_nop, xt_re, gF_19_1, gF_19_2, gF_1_2, gF_1_5, gF_1_6, gF_28_0, gF_28_1, gF_28_2, gA_2, gA_3, gA_4, gA_5, gA_6, gA_7, gA_8, gA_9, gA_10, gA_11, gA_13, gA_14, gA_16, gA_17, gA_20, gA_21, gA_22, gA_23, gA_24, gA_25, gA_26, gA_27, gA_30, gA_31, gA_32, gA_33, gA_34, gA_35, gA_36, gA_38, gA_39, gA_41, gA_42, gA_46, gA_47, gA_49, gA_50, gA_51, gA_53, gA_56, gA_57, gA_59, gA_60, xq_39_3_virtualc, xq_74_7_virtualc, iN_add, iN_mul, iN_sub, iN_and, iN_or, iN_clr, iN_shl, iN_shr, tb_r1, b1_z, b1_or, b1_and, b1_or0, b1_or1, b1_0or, b1_t, b1_f, iN_lt, iN_inj, reduceIte, if_true, if_false, Nat.zero_add, Nat.add_zero, Bool.false_eq_true, Bool.true_eq_false, Nat.lt_irrefl, iN_az, not_true_eq_false, not_false_eq_true, Nat.reduceEqDiff, Nat.reduceLT, Nat.reduceAdd, Nat.reduceMul, Nat.reduceSub]
  exact e1
end Sj
