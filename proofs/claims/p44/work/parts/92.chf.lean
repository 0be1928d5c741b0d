/-! THE CLASS Check: enumerate, someKeeps -/
abbrev CH : List Nat := [54, 55, 56, 57, 58, 59, 60]
abbrev CE : List Nat := [54, 55, 56, 57, 58, 59, 60, 37, 38, 39, 19, 20, 21, 22, 23, 24, 25, 26, 27]
section Cf
variable {xs : List Int32} {σ M N : Nat → Nat → Nat} {R : ab_H} {d k a u i n m l x y : Nat} {s r s2 r2 t v : Nat → Nat} {W : Prop} {A B : (Nat → Nat) → (Nat → Nat) → Prop}
set_option maxRecDepth 100000 in
theorem prd_z {n : Nat} {f : Nat → Nat} : prd n f = 0 ↔ ∃ i, i < n ∧ f i = 0 := by
  induction n with
  | zero => simp [prd]
  | succ n ih =>
    rw [prd, Nat.mul_eq_zero, ih]
    constructor
    · rintro (⟨i, hi, h⟩ | h)
      · exact ⟨i, by omega, h⟩
      · exact ⟨n, by omega, h⟩
    · rintro ⟨i, hi, h⟩
      by_cases e : i = n
      · rw [← e]; exact .inr h
      · exact .inl ⟨i, by omega, h⟩
set_option maxRecDepth 100000 in
theorem nst_z : nst σ l = 0 ↔ ∀ s, s < (σ 1 2) → ∀ r, r < (σ 1 5) → std σ l s r = false := by
  unfold nst
  rw [sm_z]
  constructor
  · intro h s hs r hr
    have := sm_z.mp (h s hs) r hr
    cases h2 : std σ l s r
    · rfl
    · rw [h2] at this; cases this
  · intro h s hs
    exact sm_z.mpr fun r hr => by rw [h s hs r hr]; rfl
set_option maxRecDepth 100000 in
theorem prd_no (h : prd (σ 1 6) (nst σ) = 0) (hG : Gd σ u s r) : False := by
  obtain ⟨l, hl, h1⟩ := prd_z.mp h
  have h2 := nst_z.mp h1 _ (hG.1 l hl).1 _ (hG.1 l hl).2
  have h3 := ((flt_CC _ _).mp hG.2.1 l hl).1
  rw [h2] at h3
  cases h3
set_option maxRecDepth 100000 in
theorem wlk (O : Ok σ) (hK : KI σ M) (hv : VS σ (M 38)) (h8 : M 54 8 = prd (σ 1 6) (nst σ)) (hI : IV σ W (fun _ _ => False) M) : ∃ N M', ev xs (d + 12) 98 0 ([.ref 55, .int (nI (σ 1 6))], [], hc σ M R) = some (.inl none, hc σ N R) ∧ ev xs (d + 12) 5 0 ([.ref 54, .int (nI 0), .retAddr 9, .retAddr 9], [], hc σ N R) = some (.inl none, hc σ M' R) ∧ Fr CH M M' ∧ M' 54 8 = M 54 8 ∧ M' 54 9 = M 54 9 ∧ IV σ W (fun _ _ => True) M' := by
  obtain ⟨hD1, hD2, hH1, hH2, hS, hC, hT, hR, hL, hQ⟩ := Ok_b O
  have h55 : TT 55 := by decide
  have e1 := s_98 (xs := xs) (d := d + 11) (σ := σ) (M := M) (R := R) (n := (σ 1 6)) h55
  obtain ⟨N, hN⟩ : ∃ N, ur (ur (up (up M 55 0 1) 55 1 (σ 1 6)) (55 + 1) fun _ => 0) (55 + 2) (fun _ => 0) = N := ⟨_, rfl⟩
  rw [hN] at e1
  have n55a : N 55 0 = 1 := by rw [← hN, ur_n (by decide), ur_n (by decide), up_s, u1_n (by decide), up_s, u1_s]
  have n55b : N 55 1 = (σ 1 6) := by rw [← hN, ur_n (by decide), ur_n (by decide), up_s, u1_s]
  have n56 : N 56 = fun _ => 0 := by rw [← hN, ur_n (by decide), ur_s]
  have n57 : N 57 = fun _ => 0 := by rw [← hN, ur_s]
  have nf : ∀ b, b ≠ 55 → b ≠ 56 → b ≠ 57 → N b = M b := fun b h1 h2 h3 => by rw [← hN, ur_n h3, ur_n h2, up_n h1, up_n h1]
  have nF : Fr CH M N := by
    rw [← hN]
    exact Fr_u (Fr_u (Fr_p (Fr_p (Fr_r _ _) rfl) rfl) rfl) rfl
  have n54 := nf 54 (by decide) (by decide) (by decide)
  have hIN : IV σ W (fun _ _ => False) N := IV_m hI n54 (nf 58 (by decide) (by decide) (by decide)) (nf 59 (by decide) (by decide) (by decide)) (nf 60 (by decide) (by decide) (by decide))
  have hpb := prd_b O (k := (σ 1 6)) (Nat.le_refl _)
  by_cases h0 : M 54 8 = 0
  · refine ⟨N, N, e1, ?_, nF, by rw [n54], by rw [n54], IV_c hIN fun s r hg => ⟨False.elim, fun _ => prd_no (h8.symm.trans h0) hg⟩⟩
    have h1 : N 54 8 = 0 := by rw [n54]; exact h0
    rw [eb_5_0]
    clear hK hI hIN hv nf nF
    simp (disch := first | assumption | omega | exact st8_a (Nat.le_of_ble_eq_true rfl)) only [h1, eb_5_1, kl_a, kl_d, kl_f, kl_i, kl_l, kl_n, kl_r, xr_1, xr_10, xr_2, xr_27, xr_28, xr_3, xr_30, xr_31, xr_32, xr_37, xr_38, xr_4, xr_42, xr_43, xr_5, af_0, af_1, xt_goto, xt_ic_ge, xt_ic_lt, xt_if_eq, xt_if_ne, xt_nop, xt_re, gF_54_0, gF_54_3, gF_54_8, gF_1_2, gF_1_5, gF_1_6, gW_2, gW_3, gW_4, gW_5, gW_6, gW_7, gW_8, gW_9, gW_10, gW_11, gW_13, gW_14, gW_16, gW_17, gW_20, gW_21, gW_22, gW_23, gW_24, gW_25, gW_26, gW_27, gW_30, gW_31, gW_32, gW_33, gW_34, gW_35, gW_36, gW_38, gW_39, gW_41, gW_42, gW_46, gW_47, gW_49, gW_50, gW_51, gW_53, gW_56, gW_57, gW_59, gW_60, xq_4_0_virtualc, xq_5_0_virtualc, xq_6_0_virtualc, xq_7_0_virtualc, iN_add, iN_mul, iN_sub, iN_and, iN_or, iN_clr, iN_shl, iN_shr, tb_r1, b1_z, b1_or, b1_and, b1_or0, b1_or1, b1_0or, b1_t, b1_f, iN_lt, iN_inj, reduceIte, if_true, if_false, Nat.zero_add, Nat.add_zero, Bool.false_eq_true, Bool.true_eq_false, Nat.lt_irrefl, iN_az, not_true_eq_false, not_false_eq_true, Nat.reduceEqDiff, Nat.reduceLT, Nat.reduceAdd, Nat.reduceMul, Nat.reduceSub]
  · have hnz : ∀ l, l < (σ 1 6) → 0 < (σ 1 5) := fun l hl => by
      refine Nat.pos_of_ne_zero fun hr => h0 ?_
      rw [h8]
      exact prd_z.mpr ⟨l, hl, nst_z.mpr fun s hs r hr2 => by omega⟩
    have hWN : WQ σ N := ⟨by rw [n54]; exact h0, by rw [n54, h8]; omega, by rw [nf 38 (by decide) (by decide) (by decide)]; exact hv, n55a, n55b, fun l hl => by rw [n56]; show 0 < (σ 1 2); omega, fun l hl => by rw [n57]; exact hnz l hl⟩
    obtain ⟨M', e2, hP, hI2⟩ := s_5 (xs := xs) (d := d) (R := R) O (σ 1 6) 0 (Nat.zero_add _) N (KI_fr (nf 1 (by decide) (by decide) (by decide)) (nf 19 (by decide) (by decide) (by decide)) (nf 24 (by decide) (by decide) (by decide)) (nf 25 (by decide) (by decide) (by decide)) (nf 32 (by decide) (by decide) (by decide)) hK) hWN (fun j hj => absurd hj (Nat.not_lt_zero _)) (IV_c hIN fun s r _ => ⟨False.elim, fun ⟨k, hk, _⟩ => absurd hk (Nat.not_lt_zero _)⟩)
    exact ⟨N, M', e1, ev_mono e2 (by omega), Fr_t nF (Fr_w hP.1 fun a ha => by simp at ha ⊢; omega), hP.2.2.1.trans (by rw [n54]), hP.2.2.2.1.trans (by rw [n54]), IV_c hI2 fun s r _ => ⟨fun _ => trivial, fun _ => .inr fun j hj => absurd hj (Nat.not_lt_zero _)⟩⟩
set_option maxRecDepth 100000 in
theorem s_1 (O : Ok σ) (hV : VI σ M) (h10 : M 54 10 < 2) : ∃ M', ∃ b : Bool, ev xs (d + 13) 1 0 ([.ref 54], [], hc σ M R) = some (.inl (some (.int (nI (b1 b)))), hc σ M' R) ∧ Fr CE M M' ∧ VI σ M' ∧ M' 54 10 < 2 ∧ (b = true → VS σ (M' 38) ∧ M' 54 8 = prd (σ 1 6) (nst σ) ∧ IV σ False (fun _ _ => True) M') := by
  obtain ⟨hD1, hD2, hH1, hH2, hS, hC, hT, hR, hL, hQ⟩ := Ok_b O
  have h55 : TT 55 := by decide
  have e1 := s_3 (xs := xs) (d := d + 9) (M := M) (R := R) O
  have hpb := prd_b O (k := (σ 1 6)) (Nat.le_refl _)
  obtain ⟨M1, hM1⟩ : ∃ M1, up M 54 8 (prd (σ 1 6) (nst σ)) = M1 := ⟨_, rfl⟩
  have m1 : ∀ b, b ≠ 54 → M1 b = M b := fun b hb => by rw [← hM1, up_n hb]
  have m8 : M1 54 8 = prd (σ 1 6) (nst σ) := by rw [← hM1, up_s, u1_s]
  have m1o : ∀ j, j ≠ 8 → M1 54 j = M 54 j := fun j hj => by rw [← hM1, up_s, u1_n hj]
  have m1V : VI σ M1 := by
    unfold VI at hV ⊢
    rw [m1 37 (by decide), m1 38 (by decide), m1 1 (by decide)]
    exact ⟨KI_fr (m1 1 (by decide)) (m1 19 (by decide)) (m1 24 (by decide)) (m1 25 (by decide)) (m1 32 (by decide)) hV.1, hV.2⟩
  have f1 : Fr CE M M1 := by
    rw [← hM1]
    exact Fr_p (Fr_r _ _) rfl
  by_cases h3 : 3000 < prd (σ 1 6) (nst σ)
  · refine ⟨M1, false, ?_, f1, m1V, by rw [m1o 10 (by decide)]; exact h10, fun h => by cases h⟩
    clear hV m1V f1
    simp (disch := first | assumption | omega | exact st8_a (Nat.le_of_ble_eq_true rfl)) only [e1, hM1, m8, h3, eb_1_0, eb_1_1, eb_1_2, xr_1, xr_10, xr_2, xr_26, xr_27, xr_3, xr_4, xr_5, af_0, af_1, xt_ib, xt_ic, xt_ic_le, xt_ir, gF_54_0, gF_54_2, gF_54_3, gF_54_8, gF_1_6, gP_54_5, gQ_54_5, gP_54_6, gQ_54_6, gP_54_7, gP_54_8, xq_104_10_virtualc, xq_3_0_virtualc, xq_5_0_virtualc, iN_add, iN_mul, iN_sub, iN_and, iN_or, iN_clr, iN_shl, iN_shr, tb_r1, b1_z, b1_or, b1_and, b1_or0, b1_or1, b1_0or, b1_t, b1_f, iN_lt, iN_inj, reduceIte, if_true, if_false, Nat.zero_add, Nat.add_zero, Bool.false_eq_true, Bool.true_eq_false, Nat.lt_irrefl, iN_az, not_true_eq_false, not_false_eq_true, Nat.reduceEqDiff, Nat.reduceLT, Nat.reduceAdd, Nat.reduceMul, Nat.reduceSub]
  · obtain ⟨M2, hM2⟩ : ∃ M2, up (up (up M1 54 5 0) 54 6 0) 54 7 0 = M2 := ⟨_, rfl⟩
    have m2 : ∀ b, b ≠ 54 → M2 b = M1 b := fun b hb => by rw [← hM2, up_n hb, up_n hb, up_n hb]
    have m2o : ∀ j, j ≠ 5 → j ≠ 6 → j ≠ 7 → M2 54 j = M1 54 j := fun j h1 h2 h3 => by rw [← hM2, up_s, u1_n h3, up_s, u1_n h2, up_s, u1_n h1]
    have m25 : M2 54 5 = 0 := by rw [← hM2, up_s, u1_n (by decide), up_s, u1_n (by decide), up_s, u1_s]
    have m26 : M2 54 6 = 0 := by rw [← hM2, up_s, u1_n (by decide), up_s, u1_s]
    have m2V : VI σ M2 := by
      unfold VI at m1V ⊢
      rw [m2 37 (by decide), m2 38 (by decide), m2 1 (by decide)]
      exact ⟨KI_fr (m2 1 (by decide)) (m2 19 (by decide)) (m2 24 (by decide)) (m2 25 (by decide)) (m2 32 (by decide)) m1V.1, m1V.2⟩
    have f2 : Fr CE M M2 := by
      rw [← hM2]
      exact Fr_p (Fr_p (Fr_p f1 rfl) rfl) rfl
    obtain ⟨M3, e3, f3, v3, vs3, -⟩ := s_104 (xs := xs) (d := d + 6) (R := R) O m2V
    have m354 : M3 54 = M2 54 := f3 54 rfl
    have hI3 : IV σ False (fun _ _ => False) M3 := ⟨by rw [m354]; exact m26, by rw [m354, m2o 10 (by decide) (by decide) (by decide), m1o 10 (by decide)]; exact h10, False.elim, .inl ⟨by rw [m354]; exact m25, fun _ _ _ h => h⟩⟩
    have m38 : M3 54 8 = prd (σ 1 6) (nst σ) := by rw [m354, m2o 8 (by decide) (by decide) (by decide), m8]
    obtain ⟨N, M', e4, e5, f5, g8, g9, j⟩ := wlk (xs := xs) (d := d) (R := R) O v3.1 vs3 m38 hI3
    refine ⟨M', true, ?_, Fr_t f2 (Fr_t (Fr_w f3 fun a ha => by simp at ha ⊢; omega) (Fr_w f5 fun a ha => by simp at ha ⊢; omega)), ?_, j.2.1, fun _ => ⟨by rw [f5 38 rfl]; exact vs3, g8.trans m38, j⟩⟩
    · clear hV m1V m2V f1 f2 f3 v3 vs3 hI3 f5 j
      simp (disch := first | assumption | omega | exact st8_a (Nat.le_of_ble_eq_true rfl)) only [e1, hM1, m8, h3, hM2, e3, e4, e5, eb_1_0, eb_1_1, eb_1_3, eb_1_4, eb_1_5, eb_1_6, xr_1, xr_10, xr_2, xr_26, xr_27, xr_3, xr_4, xr_5, af_0, af_1, xt_ib, xt_ic, xt_ic_le, xt_ir, gF_54_0, gF_54_2, gF_54_3, gF_54_8, gF_1_6, gP_54_5, gQ_54_5, gP_54_6, gQ_54_6, gP_54_7, gP_54_8, xq_104_10_virtualc, xq_3_0_virtualc, xq_5_0_virtualc, xq_98_9_virtualt h55, iN_add, iN_mul, iN_sub, iN_and, iN_or, iN_clr, iN_shl, iN_shr, tb_r1, b1_z, b1_or, b1_and, b1_or0, b1_or1, b1_0or, b1_t, b1_f, iN_lt, iN_inj, reduceIte, if_true, if_false, Nat.zero_add, Nat.add_zero, Bool.false_eq_true, Bool.true_eq_false, Nat.lt_irrefl, iN_az, not_true_eq_false, not_false_eq_true, Nat.reduceEqDiff, Nat.reduceLT, Nat.reduceAdd, Nat.reduceMul, Nat.reduceSub]
    · unfold VI at v3 ⊢
      rw [f5 37 rfl, f5 38 rfl, f5 1 rfl]
      exact ⟨KI_fr (f5 1 rfl) (f5 19 rfl) (f5 24 rfl) (f5 25 rfl) (f5 32 rfl) v3.1, v3.2⟩
set_option maxRecDepth 100000 in
theorem s_2 (O : Ok σ) (hV : VI σ M) (hvs : VS σ (M 38)) (h8 : M 54 8 = prd (σ 1 6) (nst σ)) (h5 : M 54 5 = 0) (h6 : M 54 6 = 0) (hno : ∀ s r, ¬ Gd σ (alr σ) s r) : ∃ M', ∃ b : Bool, ev xs (d + 13) 2 0 ([.ref 54, .int (nI u)], [], hc σ M R) = some (.inl (some (.int (nI (b1 b)))), hc σ M' R) ∧ Fr CE M M' ∧ VI σ M' ∧ M' 54 10 < 2 ∧ (b = true → ∃ s r, Gd σ u s r) := by
  obtain ⟨hD1, hD2, hH1, hH2, hS, hC, hT, hR, hL, hQ⟩ := Ok_b O
  have h55 : TT 55 := by decide
  obtain ⟨M2, hM2⟩ : ∃ M2, up (up M 54 9 u) 54 10 0 = M2 := ⟨_, rfl⟩
  have m2 : ∀ b, b ≠ 54 → M2 b = M b := fun b hb => by rw [← hM2, up_n hb, up_n hb]
  have m2o : ∀ j, j ≠ 9 → j ≠ 10 → M2 54 j = M 54 j := fun j h1 h2 => by rw [← hM2, up_s, u1_n h2, up_s, u1_n h1]
  have m29 : M2 54 9 = u := by rw [← hM2, up_s, u1_n (by decide), up_s, u1_s]
  have m210 : M2 54 10 = 0 := by rw [← hM2, up_s, u1_s]
  have m2V : VI σ M2 := by
    unfold VI at hV ⊢
    rw [m2 37 (by decide), m2 38 (by decide), m2 1 (by decide)]
    exact ⟨KI_fr (m2 1 (by decide)) (m2 19 (by decide)) (m2 24 (by decide)) (m2 25 (by decide)) (m2 32 (by decide)) hV.1, hV.2⟩
  have f2 : Fr CE M M2 := by
    rw [← hM2]
    exact Fr_p (Fr_p (Fr_r _ _) rfl) rfl
  have hI2 : IV σ True (fun _ _ => False) M2 := ⟨by rw [m2o 6 (by decide) (by decide)]; exact h6, by rw [m210]; decide, fun _ h => (by rw [m210] at h; cases h), .inl ⟨by rw [m2o 5 (by decide) (by decide)]; exact h5, fun _ _ _ h => h⟩⟩
  obtain ⟨N, M', e4, e5, f5, g8, g9, j⟩ := wlk (xs := xs) (d := d) (R := R) O m2V.1 (by rw [m2 38 (by decide)]; exact hvs) (by rw [m2o 8 (by decide) (by decide)]; exact h8) hI2
  obtain ⟨j1, j2, j3, -⟩ := j
  have fin : VI σ M' := by
    unfold VI at m2V ⊢
    rw [f5 37 rfl, f5 38 rfl, f5 1 rfl]
    exact ⟨KI_fr (f5 1 rfl) (f5 19 rfl) (f5 24 rfl) (f5 25 rfl) (f5 32 rfl) m2V.1, m2V.2⟩
  have ff : Fr CE M M' := Fr_t f2 (Fr_w f5 fun a ha => by simp at ha ⊢; omega)
  have h01 : M' 54 10 = 0 ∨ M' 54 10 = 1 := by omega
  rcases h01 with h01 | h01
  · refine ⟨M', false, ?_, ff, fin, j2, fun h => by cases h⟩
    clear hV m2V f2 hI2 f5 j3 fin ff hno hvs
    simp (disch := first | assumption | omega | exact st8_a (Nat.le_of_ble_eq_true rfl)) only [hM2, e4, e5, h01, eb_2_0, eb_2_1, eb_2_2, xr_1, xr_10, xr_2, xr_28, xr_3, xr_4, xr_5, af_0, af_1, xt_ib, xt_ic, xt_ir, gF_54_0, gF_54_10, gF_54_3, gF_1_6, gP_54_10, gQ_54_10, gP_54_9, xq_5_0_virtualc, xq_98_9_virtualt h55, iN_add, iN_mul, iN_sub, iN_and, iN_or, iN_clr, iN_shl, iN_shr, tb_r1, b1_z, b1_or, b1_and, b1_or0, b1_or1, b1_0or, b1_t, b1_f, iN_lt, iN_inj, reduceIte, if_true, if_false, Nat.zero_add, Nat.add_zero, Bool.false_eq_true, Bool.true_eq_false, Nat.lt_irrefl, iN_az, not_true_eq_false, not_false_eq_true, Nat.reduceEqDiff, Nat.reduceLT, Nat.reduceAdd, Nat.reduceMul, Nat.reduceSub]
  · refine ⟨M', true, ?_, ff, fin, j2, fun _ => ?_⟩
    · clear hV m2V f2 hI2 f5 j3 fin ff hno hvs
      simp (disch := first | assumption | omega | exact st8_a (Nat.le_of_ble_eq_true rfl)) only [hM2, e4, e5, h01, eb_2_0, eb_2_1, eb_2_2, xr_1, xr_10, xr_2, xr_28, xr_3, xr_4, xr_5, af_0, af_1, xt_ib, xt_ic, xt_ir, gF_54_0, gF_54_10, gF_54_3, gF_1_6, gP_54_10, gQ_54_10, gP_54_9, xq_5_0_virtualc, xq_98_9_virtualt h55, iN_add, iN_mul, iN_sub, iN_and, iN_or, iN_clr, iN_shl, iN_shr, tb_r1, b1_z, b1_or, b1_and, b1_or0, b1_or1, b1_0or, b1_t, b1_f, iN_lt, iN_inj, reduceIte, if_true, if_false, Nat.zero_add, Nat.add_zero, Bool.false_eq_true, Bool.true_eq_false, Nat.lt_irrefl, iN_az, not_true_eq_false, not_false_eq_true, Nat.reduceEqDiff, Nat.reduceLT, Nat.reduceAdd, Nat.reduceMul, Nat.reduceSub]
    · have := j3 trivial h01
      rw [g9, m29] at this
      exact this
end Cf
