/-! THE CLASS Rings: weigh -/
/-- the first k lessons of a ring of m take what the next one has -/
def mvk (g f : Nat → Nat) (m : Nat) : Nat → Nat → Nat
  | 0 => f
  | k + 1 => u1 (mvk g f m k) (g k) (f (g (if k + 1 < m then k + 1 else 0)))
abbrev GG : List Nat := [44, 45, 46, 47, 48, 49, 50]
section Rh
variable {xs : List Int32} {σ M N : Nat → Nat → Nat} {R : ab_H} {d k a b u i v n m : Nat} {f g : Nat → Nat}
set_option maxRecDepth 100000 in
theorem mvk_b {n : Nat} (hf : ∀ l, l < n → f l < v) (hg : ∀ j, j < m → g j < n) : ∀ k, k ≤ m → ∀ l, l < n → mvk g f m k l < v := by
  intro k
  induction k with
  | zero => intro _; exact hf
  | succ k ih =>
    intro hk l hl
    rw [mvk]
    by_cases h : l = g k
    · rw [h, u1_s]
      refine hf _ (hg _ ?_)
      split <;> omega
    · rw [u1_n h]
      exact ih (by omega) l hl
set_option maxRecDepth 100000 in
theorem s_48a (O : Ok σ) (hm : m ≤ 4) (hg : ∀ j, j < m → N 51 j < (σ 1 6)) (h13 : ∀ l, l < (σ 1 6) → N 13 l < (σ 1 2)) (h14 : ∀ l, l < (σ 1 6) → N 14 l < (σ 1 5)) : ∀ k, k ≤ m → ∀ y, ∃ z, ev xs (d + 4) 48 2 ([.ref 44, .ref 12, .int (nI m), .int (nI k), y], [], hc σ (ur (ur N 46 (mvk (N 51) (N 13) m k)) 47 (mvk (N 51) (N 14) m k)) R) = ev xs (d + 4) 48 7 ([.ref 44, .ref 12, .int (nI m), .int (nI m), z], [], hc σ (ur (ur N 46 (mvk (N 51) (N 13) m m)) 47 (mvk (N 51) (N 14) m m)) R) := by
  obtain ⟨hD1, hD2, hH1, hH2, hS, hC, hT, hR, hL, hQ⟩ := Ok_b O
  have h12 : TT 12 := by decide
  have h45 : TT 45 := by decide
  refine lp m ?_ ?_
  · intro y
    refine ⟨y, ?_⟩
    rw [eb_48_2]
    simp (disch := first | assumption | omega | exact st8_a (Nat.le_of_ble_eq_true rfl)) only [eb_48_7, kl_a, kl_d, kl_f, kl_i, kl_l, kl_n, kl_r, xr_1, xr_10, xr_11, xr_12, xr_13, xr_14, xr_15, xr_2, xr_27, xr_3, xr_31, xr_32, xr_33, xr_34, xr_37, xr_38, xr_4, xr_43, xr_5, af_0, af_1, xt_goto, xt_ic_ge, xt_if_ne, xt_nop, xt_re, gF_44_1, gF_44_2, gF_44_3, gF_44_4, gF_44_5, gA_2, gA_3, gA_4, gA_5, gA_6, gA_7, gA_8, gA_9, gA_10, gA_11, gA_13, gA_14, gA_16, gA_17, gA_20, gA_21, gA_22, gA_23, gA_24, gA_25, gA_26, gA_27, gA_30, gA_31, gA_32, gA_33, gA_34, gA_35, gA_36, gA_38, gA_39, gA_41, gA_42, gA_46, gA_47, gA_49, gA_50, gA_51, gA_53, gA_56, gA_57, gA_59, gA_60, gW_2, gW_3, gW_4, gW_5, gW_6, gW_7, gW_8, gW_9, gW_10, gW_11, gW_13, gW_14, gW_16, gW_17, gW_20, gW_21, gW_22, gW_23, gW_24, gW_25, gW_26, gW_27, gW_30, gW_31, gW_32, gW_33, gW_34, gW_35, gW_36, gW_38, gW_39, gW_41, gW_42, gW_46, gW_47, gW_49, gW_50, gW_51, gW_53, gW_56, gW_57, gW_59, gW_60, gP_44_5, tF_0 h12, tF_1 h12, tF_2 h12, tF_3 h12, tA_1 h12, tA_2 h12, tW_1 h12, tW_2 h12, tP_0 h12, tP_1 h12, tF_0 h45, tF_1 h45, tF_2 h45, tF_3 h45, tA_1 h45, tA_2 h45, tW_1 h45, tW_2 h45, tP_0 h45, tP_1 h45, tC_1 h12 h45, tC_2 h12 h45, tC_1 h45 h12, tC_2 h45 h12, xq_13_2_virtualc, xq_15_2_virtualc, xq_22_2_virtualc, xq_99_9_virtualt h12, xq_99_9_virtualt h45, iN_add, iN_mul, iN_sub, iN_and, iN_or, iN_clr, iN_shl, iN_shr, tb_r1, b1_z, b1_or, b1_and, b1_or0, b1_or1, b1_0or, b1_t, b1_f, iN_lt, iN_inj, reduceIte, if_true, if_false, Nat.zero_add, Nat.add_zero, Bool.false_eq_true, Bool.true_eq_false, Nat.lt_irrefl, iN_az, not_true_eq_false, not_false_eq_true, Nat.reduceEqDiff, Nat.reduceLT, Nat.reduceAdd, Nat.reduceMul, Nat.reduceSub]
  · intro k hk ih y
    have g1 := hg k hk
    have e1 : N 51 k < 6 := by omega
    rw [eb_48_2]
    by_cases h1 : k + 1 < m
    · have g2 := hg (k + 1) h1
      have e2 : N 51 (k + 1) < 6 := by omega
      obtain ⟨z, e⟩ := ih (.int (nI (N 51 (k + 1))))
      refine ⟨z, ?_⟩
      rw [mvk, mvk, if_pos h1] at e
      have e3 : ∀ a b, up (up (ur (ur N 46 (mvk (N 51) (N 13) m k)) 47 (mvk (N 51) (N 14) m k)) 46 (N 51 k) a) 47 (N 51 k) b = ur (ur N 46 (u1 (mvk (N 51) (N 13) m k) (N 51 k) a)) 47 (u1 (mvk (N 51) (N 14) m k) (N 51 k) b) := fun a b => by
        rw [ur_c (a := 46) (c := 47) (by decide), ur_up, ur_c (a := 47) (c := 46) (by decide), ur_up]
      clear ih
      simp (disch := first | assumption | omega | exact st8_a (Nat.le_of_ble_eq_true rfl)) only [hk, h1, ur_n, up_n, e3, eb_48_3, eb_48_4, eb_48_6, kl_a, kl_d, kl_f, kl_i, kl_l, kl_n, kl_r, xr_1, xr_10, xr_11, xr_12, xr_13, xr_14, xr_15, xr_2, xr_27, xr_3, xr_31, xr_32, xr_33, xr_34, xr_37, xr_38, xr_4, xr_43, xr_5, af_0, af_1, xt_goto, xt_ic_ge, xt_if_ne, xt_nop, xt_re, gF_44_1, gF_44_2, gF_44_3, gF_44_4, gF_44_5, gA_2, gA_3, gA_4, gA_5, gA_6, gA_7, gA_8, gA_9, gA_10, gA_11, gA_13, gA_14, gA_16, gA_17, gA_20, gA_21, gA_22, gA_23, gA_24, gA_25, gA_26, gA_27, gA_30, gA_31, gA_32, gA_33, gA_34, gA_35, gA_36, gA_38, gA_39, gA_41, gA_42, gA_46, gA_47, gA_49, gA_50, gA_51, gA_53, gA_56, gA_57, gA_59, gA_60, gW_2, gW_3, gW_4, gW_5, gW_6, gW_7, gW_8, gW_9, gW_10, gW_11, gW_13, gW_14, gW_16, gW_17, gW_20, gW_21, gW_22, gW_23, gW_24, gW_25, gW_26, gW_27, gW_30, gW_31, gW_32, gW_33, gW_34, gW_35, gW_36, gW_38, gW_39, gW_41, gW_42, gW_46, gW_47, gW_49, gW_50, gW_51, gW_53, gW_56, gW_57, gW_59, gW_60, gP_44_5, tF_0 h12, tF_1 h12, tF_2 h12, tF_3 h12, tA_1 h12, tA_2 h12, tW_1 h12, tW_2 h12, tP_0 h12, tP_1 h12, tF_0 h45, tF_1 h45, tF_2 h45, tF_3 h45, tA_1 h45, tA_2 h45, tW_1 h45, tW_2 h45, tP_0 h45, tP_1 h45, tC_1 h12 h45, tC_2 h12 h45, tC_1 h45 h12, tC_2 h45 h12, xq_13_2_virtualc, xq_15_2_virtualc, xq_22_2_virtualc, xq_99_9_virtualt h12, xq_99_9_virtualt h45, iN_add, iN_mul, iN_sub, iN_and, iN_or, iN_clr, iN_shl, iN_shr, tb_r1, b1_z, b1_or, b1_and, b1_or0, b1_or1, b1_0or, b1_t, b1_f, iN_lt, iN_inj, reduceIte, if_true, if_false, Nat.zero_add, Nat.add_zero, Bool.false_eq_true, Bool.true_eq_false, Nat.lt_irrefl, iN_az, not_true_eq_false, not_false_eq_true, Nat.reduceEqDiff, Nat.reduceLT, Nat.reduceAdd, Nat.reduceMul, Nat.reduceSub]
      exact e
    · have g2 := hg 0 (by omega)
      have e2 : N 51 0 < 6 := by omega
      obtain ⟨z, e⟩ := ih (.int (nI (N 51 0)))
      refine ⟨z, ?_⟩
      rw [mvk, mvk, if_neg h1] at e
      have e3 : ∀ a b, up (up (ur (ur N 46 (mvk (N 51) (N 13) m k)) 47 (mvk (N 51) (N 14) m k)) 46 (N 51 k) a) 47 (N 51 k) b = ur (ur N 46 (u1 (mvk (N 51) (N 13) m k) (N 51 k) a)) 47 (u1 (mvk (N 51) (N 14) m k) (N 51 k) b) := fun a b => by
        rw [ur_c (a := 46) (c := 47) (by decide), ur_up, ur_c (a := 47) (c := 46) (by decide), ur_up]
      clear ih
      simp (disch := first | assumption | omega | exact st8_a (Nat.le_of_ble_eq_true rfl)) only [hk, h1, ur_n, up_n, e3, eb_48_3, eb_48_5, eb_48_6, kl_a, kl_d, kl_f, kl_i, kl_l, kl_n, kl_r, xr_1, xr_10, xr_11, xr_12, xr_13, xr_14, xr_15, xr_2, xr_27, xr_3, xr_31, xr_32, xr_33, xr_34, xr_37, xr_38, xr_4, xr_43, xr_5, af_0, af_1, xt_goto, xt_ic_ge, xt_if_ne, xt_nop, xt_re, gF_44_1, gF_44_2, gF_44_3, gF_44_4, gF_44_5, gA_2, gA_3, gA_4, gA_5, gA_6, gA_7, gA_8, gA_9, gA_10, gA_11, gA_13, gA_14, gA_16, gA_17, gA_20, gA_21, gA_22, gA_23, gA_24, gA_25, gA_26, gA_27, gA_30, gA_31, gA_32, gA_33, gA_34, gA_35, gA_36, gA_38, gA_39, gA_41, gA_42, gA_46, gA_47, gA_49, gA_50, gA_51, gA_53, gA_56, gA_57, gA_59, gA_60, gW_2, gW_3, gW_4, gW_5, gW_6, gW_7, gW_8, gW_9, gW_10, gW_11, gW_13, gW_14, gW_16, gW_17, gW_20, gW_21, gW_22, gW_23, gW_24, gW_25, gW_26, gW_27, gW_30, gW_31, gW_32, gW_33, gW_34, gW_35, gW_36, gW_38, gW_39, gW_41, gW_42, gW_46, gW_47, gW_49, gW_50, gW_51, gW_53, gW_56, gW_57, gW_59, gW_60, gP_44_5, tF_0 h12, tF_1 h12, tF_2 h12, tF_3 h12, tA_1 h12, tA_2 h12, tW_1 h12, tW_2 h12, tP_0 h12, tP_1 h12, tF_0 h45, tF_1 h45, tF_2 h45, tF_3 h45, tA_1 h45, tA_2 h45, tW_1 h45, tW_2 h45, tP_0 h45, tP_1 h45, tC_1 h12 h45, tC_2 h12 h45, tC_1 h45 h12, tC_2 h45 h12, xq_13_2_virtualc, xq_15_2_virtualc, xq_22_2_virtualc, xq_99_9_virtualt h12, xq_99_9_virtualt h45, iN_add, iN_mul, iN_sub, iN_and, iN_or, iN_clr, iN_shl, iN_shr, tb_r1, b1_z, b1_or, b1_and, b1_or0, b1_or1, b1_0or, b1_t, b1_f, iN_lt, iN_inj, reduceIte, if_true, if_false, Nat.zero_add, Nat.add_zero, Bool.false_eq_true, Bool.true_eq_false, Nat.lt_irrefl, iN_az, not_true_eq_false, not_false_eq_true, Nat.reduceEqDiff, Nat.reduceLT, Nat.reduceAdd, Nat.reduceMul, Nat.reduceSub]
      exact e
set_option maxRecDepth 100000 in
theorem wt_lt (O : Ok σ) {s r : Nat → Nat} (hs : ∀ l, l < (σ 1 6) → s l < (σ 1 2)) : wt σ s r < 1000 := by
  obtain ⟨hD1, hD2, hH1, hH2, hS, hC, hT, hR, hL, hQ⟩ := Ok_b O
  have h1 : sm (σ 1 6) (fun l => wv σ l (s l) (r l)) ≤ (σ 1 6) * 27 := sm_le fun l hl => wv_le O (hs l hl)
  have hw := Ok_w O (show 2 < 3 by decide)
  have h2 : sm (σ 1 4) (fun t => σ 11 2 * gap σ (ctc σ s t)) ≤ (σ 1 4) * 18 := sm_le fun t _ => by
    have hg : gap σ (ctc σ s t) ≤ (σ 1 0) * 1 := sm_le fun i _ => by
      have := b1_lt (decide ((ctc σ s t &&& dm σ i) >>> (i * (σ 1 1)) = 5))
      show b1 _ ≤ 1
      omega
    have := Nat.mul_le_mul hw (show gap σ (ctc σ s t) ≤ 2 by omega)
    exact this
  unfold wt
  omega
set_option maxRecDepth 100000 in
theorem s_48 (O : Ok σ) (hm : m ≤ 4) (hg : ∀ j, j < m → M 51 j < (σ 1 6)) (h0 : M 12 0 = 1) (h1 : M 12 1 = (σ 1 6)) (h13 : ∀ l, l < (σ 1 6) → M 13 l < (σ 1 2)) (h14 : ∀ l, l < (σ 1 6) → M 14 l < (σ 1 5)) (h5 : M 44 5 < 2147483648) : ∃ M', ev xs (d + 4) 48 0 ([.ref 44, .ref 12, .int (nI m), .retAddr 9, .retAddr 9], [], hc σ M R) = some (.inl none, hc σ M' R) ∧ Fr GG M M' ∧ ((wt σ (mvk (M 51) (M 13) m m) (mvk (M 51) (M 14) m m) < M 44 5 ∧ flt σ (mvk (M 51) (M 13) m m) (mvk (M 51) (M 14) m m) = 0 ∧ brk σ (mvk (M 51) (M 13) m m) (mvk (M 51) (M 14) m m) = 0) → M' 44 5 = wt σ (mvk (M 51) (M 13) m m) (mvk (M 51) (M 14) m m) ∧ M' 49 = mvk (M 51) (M 13) m m ∧ M' 50 = mvk (M 51) (M 14) m m ∧ M' 48 0 = 1 ∧ M' 48 1 = (σ 1 6)) ∧ (¬ (wt σ (mvk (M 51) (M 13) m m) (mvk (M 51) (M 14) m m) < M 44 5 ∧ flt σ (mvk (M 51) (M 13) m m) (mvk (M 51) (M 14) m m) = 0 ∧ brk σ (mvk (M 51) (M 13) m m) (mvk (M 51) (M 14) m m) = 0) → M' 44 = M 44 ∧ M' 48 = M 48 ∧ M' 49 = M 49 ∧ M' 50 = M 50) := by
  obtain ⟨hD1, hD2, hH1, hH2, hS, hC, hT, hR, hL, hQ⟩ := Ok_b O
  have h12 : TT 12 := by decide
  have h45 : TT 45 := by decide
  have h48 : TT 48 := by decide
  have c1 := s_99 (xs := xs) (d := d + 3) (σ := σ) (M := M) (R := R) (t := 45) (t2 := 12) h45 h12 (by decide) (by omega)
  have n13 : cpt M 45 12 13 = M 13 := by unfold cpt; rw [ur_n (by decide), ur_n (by decide), up_n (by decide), up_n (by decide)]
  have n14 : cpt M 45 12 14 = M 14 := by unfold cpt; rw [ur_n (by decide), ur_n (by decide), up_n (by decide), up_n (by decide)]
  have n51 : cpt M 45 12 51 = M 51 := by unfold cpt; rw [ur_n (by decide), ur_n (by decide), up_n (by decide), up_n (by decide)]
  have n44 : cpt M 45 12 44 = M 44 := by unfold cpt; rw [ur_n (by decide), ur_n (by decide), up_n (by decide), up_n (by decide)]
  have n46 : cpt M 45 12 46 = M 13 := by unfold cpt; rw [ur_n (by decide), ur_s]
  have n47 : cpt M 45 12 47 = M 14 := by unfold cpt; rw [ur_s]
  obtain ⟨z, e⟩ := s_48a (xs := xs) (d := d) (N := cpt M 45 12) (R := R) O hm (by rw [n51]; exact hg) (by rw [n13]; exact h13) (by rw [n14]; exact h14) 0 (Nat.zero_le _) (.retAddr 9)
  rw [n51, n13, n14, mvk, mvk] at e
  have hid : ur (ur (cpt M 45 12) 46 (M 13)) 47 (M 14) = cpt M 45 12 := by
    rw [← n46, ur_id, ← n47, ur_id]
  rw [hid] at e
  have frc : Fr GG M (cpt M 45 12) := Fr_u (Fr_u (Fr_p (Fr_p (Fr_r _ _) rfl) rfl) rfl) rfl
  generalize hs' : mvk (M 51) (M 13) m m = s' at *
  generalize hr' : mvk (M 51) (M 14) m m = r' at *
  have bs : ∀ l, l < (σ 1 6) → s' l < (σ 1 2) := by rw [← hs']; exact mvk_b h13 hg m (Nat.le_refl _)
  have br : ∀ l, l < (σ 1 6) → r' l < (σ 1 5) := by rw [← hr']; exact mvk_b h14 hg m (Nat.le_refl _)
  generalize hN : ur (ur (cpt M 45 12) 46 s') 47 r' = N at *
  have frN : Fr GG M N := by rw [← hN]; exact Fr_u (Fr_u frc rfl) rfl
  have N46 : N (45 + 1) = s' := by rw [← hN, ur_n (by decide), ur_s]
  have N47 : N (45 + 2) = r' := by rw [← hN, ur_s]
  have N44 : N 44 = M 44 := by rw [← hN, ur_n (by decide), ur_n (by decide)]; exact n44
  have N450 : N 45 0 = 1 := by
    rw [← hN, ur_n (by decide), ur_n (by decide)]
    unfold cpt
    rw [ur_n (by decide), ur_n (by decide), up_s, u1_n (by decide), up_s, u1_s]
    exact h0
  have N451 : N 45 1 = (σ 1 6) := by
    rw [← hN, ur_n (by decide), ur_n (by decide)]
    unfold cpt
    rw [ur_n (by decide), ur_n (by decide), up_s, u1_s]
    exact h1
  have N48 : N 48 = M 48 := by
    rw [← hN, ur_n (by decide), ur_n (by decide)]
    unfold cpt
    rw [ur_n (by decide), ur_n (by decide), up_n (by decide), up_n (by decide)]
  have N49 : N 49 = M 49 := by
    rw [← hN, ur_n (by decide), ur_n (by decide)]
    unfold cpt
    rw [ur_n (by decide), ur_n (by decide), up_n (by decide), up_n (by decide)]
  have N50 : N 50 = M 50 := by
    rw [← hN, ur_n (by decide), ur_n (by decide)]
    unfold cpt
    rw [ur_n (by decide), ur_n (by decide), up_n (by decide), up_n (by decide)]
  have e22 := s_22 (xs := xs) (d := d + 1) (M := N) (R := R) (t := 45) O h45 (by rw [N46]; exact bs) (by rw [N47]; exact br)
  have e13 := s_13 (xs := xs) (d := d + 1) (M := N) (R := R) (t := 45) O h45 (by rw [N46]; exact bs) (by rw [N47]; exact br)
  have e15 := s_15 (xs := xs) (d := d) (M := N) (R := R) (t := 45) O h45 (by rw [N46]; exact bs) (by rw [N47]; exact br)
  rw [N46, N47] at e22 e13 e15
  have hN5 : N 44 5 = M 44 5 := by rw [N44]
  have hwl : wt σ s' r' < 1000 := wt_lt O bs
  have hfl := flt_lt O s' r'
  have hbl := brk_lt O s' r'
  have hd1 : d + 1 + 2 = d + 3 := rfl
  rw [hd1] at e22 e13
  clear hs' hr' hN n13 n14 n51 n44 n46 n47 hid frc hg h13 h14 bs br
  by_cases hw : wt σ s' r' < M 44 5
  · by_cases hf : flt σ s' r' = 0
    · by_cases hbk : brk σ s' r' = 0
      · have c2 := s_99 (xs := xs) (d := d + 3) (σ := σ) (M := up N 44 5 (wt σ s' r')) (R := R) (t := 48) (t2 := 45) h48 h45 (by decide) (by rw [up_n (by decide)]; omega)
        have f0 : ∀ a, a ≠ 48 → a ≠ 49 → a ≠ 50 → cpt (up N 44 5 (wt σ s' r')) 48 45 a = up N 44 5 (wt σ s' r') a := fun a a1 a2 a3 => by
          unfold cpt
          rw [ur_n a3, ur_n a2, up_n a1, up_n a1]
        refine ⟨cpt (up N 44 5 (wt σ s' r')) 48 45, ?_, ?_, fun _ => ⟨?_, ?_, ?_, ?_, ?_⟩, fun z => absurd ⟨hw, hf, hbk⟩ z⟩
        · rw [hf] at e13
          rw [hbk] at e15
          clear f0 frN N46 N47
          simp (disch := first | assumption | omega | exact st8_a (Nat.le_of_ble_eq_true rfl)) only [c1, e, e22, e13, e15, hN5, hw, c2, eb_48_0, eb_48_1, eb_48_7, eb_48_8, eb_48_9, eb_48_10, eb_48_11, eb_48_12, eb_48_13, eb_48_14, kl_a, kl_d, kl_f, kl_i, kl_l, kl_n, kl_r, xr_1, xr_10, xr_11, xr_12, xr_13, xr_14, xr_15, xr_2, xr_27, xr_3, xr_31, xr_32, xr_33, xr_34, xr_37, xr_38, xr_4, xr_43, xr_5, af_0, af_1, xt_goto, xt_ic_ge, xt_if_ne, xt_nop, xt_re, gF_44_1, gF_44_2, gF_44_3, gF_44_4, gF_44_5, gA_2, gA_3, gA_4, gA_5, gA_6, gA_7, gA_8, gA_9, gA_10, gA_11, gA_13, gA_14, gA_16, gA_17, gA_20, gA_21, gA_22, gA_23, gA_24, gA_25, gA_26, gA_27, gA_30, gA_31, gA_32, gA_33, gA_34, gA_35, gA_36, gA_38, gA_39, gA_41, gA_42, gA_46, gA_47, gA_49, gA_50, gA_51, gA_53, gA_56, gA_57, gA_59, gA_60, gW_2, gW_3, gW_4, gW_5, gW_6, gW_7, gW_8, gW_9, gW_10, gW_11, gW_13, gW_14, gW_16, gW_17, gW_20, gW_21, gW_22, gW_23, gW_24, gW_25, gW_26, gW_27, gW_30, gW_31, gW_32, gW_33, gW_34, gW_35, gW_36, gW_38, gW_39, gW_41, gW_42, gW_46, gW_47, gW_49, gW_50, gW_51, gW_53, gW_56, gW_57, gW_59, gW_60, gP_44_5, tF_0 h12, tF_1 h12, tF_2 h12, tF_3 h12, tA_1 h12, tA_2 h12, tW_1 h12, tW_2 h12, tP_0 h12, tP_1 h12, tF_0 h45, tF_1 h45, tF_2 h45, tF_3 h45, tA_1 h45, tA_2 h45, tW_1 h45, tW_2 h45, tP_0 h45, tP_1 h45, tF_0 h48, tF_1 h48, tF_2 h48, tF_3 h48, tA_1 h48, tA_2 h48, tW_1 h48, tW_2 h48, tP_0 h48, tP_1 h48, tC_1 h12 h45, tC_2 h12 h45, tC_1 h12 h48, tC_2 h12 h48, tC_1 h45 h12, tC_2 h45 h12, tC_1 h45 h48, tC_2 h45 h48, tC_1 h48 h12, tC_2 h48 h12, tC_1 h48 h45, tC_2 h48 h45, xq_13_2_virtualc, xq_15_2_virtualc, xq_22_2_virtualc, xq_99_9_virtualt h12, xq_99_9_virtualt h45, xq_99_9_virtualt h48, iN_add, iN_mul, iN_sub, iN_and, iN_or, iN_clr, iN_shl, iN_shr, tb_r1, b1_z, b1_or, b1_and, b1_or0, b1_or1, b1_0or, b1_t, b1_f, iN_lt, iN_inj, reduceIte, if_true, if_false, Nat.zero_add, Nat.add_zero, Bool.false_eq_true, Bool.true_eq_false, Nat.lt_irrefl, iN_az, not_true_eq_false, not_false_eq_true, Nat.reduceEqDiff, Nat.reduceLT, Nat.reduceAdd, Nat.reduceMul, Nat.reduceSub]
        · exact Fr_u (Fr_u (Fr_p (Fr_p (Fr_p frN rfl) rfl) rfl) rfl) rfl
        · rw [f0 44 (by decide) (by decide) (by decide), up_s, u1_s]
        · unfold cpt
          rw [ur_n (by decide), ur_s, up_n (by decide)]
          exact N46
        · unfold cpt
          rw [ur_s, up_n (by decide)]
          exact N47
        · unfold cpt
          rw [ur_n (by decide), ur_n (by decide), up_s, u1_n (by decide), up_s, u1_s, up_n (by decide)]
          exact N450
        · unfold cpt
          rw [ur_n (by decide), ur_n (by decide), up_s, u1_s, up_n (by decide)]
          exact N451
      · refine ⟨N, ?_, frN, fun z => absurd z.2.2 hbk, fun _ => ⟨N44, N48, N49, N50⟩⟩
        rw [hf] at e13
        clear frN N46 N47
        simp (disch := first | assumption | omega | exact st8_a (Nat.le_of_ble_eq_true rfl)) only [c1, e, e22, e13, e15, hN5, hw, hbk, eb_48_0, eb_48_1, eb_48_7, eb_48_8, eb_48_9, eb_48_10, eb_48_11, eb_48_12, eb_48_14, kl_a, kl_d, kl_f, kl_i, kl_l, kl_n, kl_r, xr_1, xr_10, xr_11, xr_12, xr_13, xr_14, xr_15, xr_2, xr_27, xr_3, xr_31, xr_32, xr_33, xr_34, xr_37, xr_38, xr_4, xr_43, xr_5, af_0, af_1, xt_goto, xt_ic_ge, xt_if_ne, xt_nop, xt_re, gF_44_1, gF_44_2, gF_44_3, gF_44_4, gF_44_5, gA_2, gA_3, gA_4, gA_5, gA_6, gA_7, gA_8, gA_9, gA_10, gA_11, gA_13, gA_14, gA_16, gA_17, gA_20, gA_21, gA_22, gA_23, gA_24, gA_25, gA_26, gA_27, gA_30, gA_31, gA_32, gA_33, gA_34, gA_35, gA_36, gA_38, gA_39, gA_41, gA_42, gA_46, gA_47, gA_49, gA_50, gA_51, gA_53, gA_56, gA_57, gA_59, gA_60, gW_2, gW_3, gW_4, gW_5, gW_6, gW_7, gW_8, gW_9, gW_10, gW_11, gW_13, gW_14, gW_16, gW_17, gW_20, gW_21, gW_22, gW_23, gW_24, gW_25, gW_26, gW_27, gW_30, gW_31, gW_32, gW_33, gW_34, gW_35, gW_36, gW_38, gW_39, gW_41, gW_42, gW_46, gW_47, gW_49, gW_50, gW_51, gW_53, gW_56, gW_57, gW_59, gW_60, gP_44_5, tF_0 h12, tF_1 h12, tF_2 h12, tF_3 h12, tA_1 h12, tA_2 h12, tW_1 h12, tW_2 h12, tP_0 h12, tP_1 h12, tF_0 h45, tF_1 h45, tF_2 h45, tF_3 h45, tA_1 h45, tA_2 h45, tW_1 h45, tW_2 h45, tP_0 h45, tP_1 h45, tC_1 h12 h45, tC_2 h12 h45, tC_1 h45 h12, tC_2 h45 h12, xq_13_2_virtualc, xq_15_2_virtualc, xq_22_2_virtualc, xq_99_9_virtualt h12, xq_99_9_virtualt h45, iN_add, iN_mul, iN_sub, iN_and, iN_or, iN_clr, iN_shl, iN_shr, tb_r1, b1_z, b1_or, b1_and, b1_or0, b1_or1, b1_0or, b1_t, b1_f, iN_lt, iN_inj, reduceIte, if_true, if_false, Nat.zero_add, Nat.add_zero, Bool.false_eq_true, Bool.true_eq_false, Nat.lt_irrefl, iN_az, not_true_eq_false, not_false_eq_true, Nat.reduceEqDiff, Nat.reduceLT, Nat.reduceAdd, Nat.reduceMul, Nat.reduceSub]
    · refine ⟨N, ?_, frN, fun z => absurd z.2.1 hf, fun _ => ⟨N44, N48, N49, N50⟩⟩
      clear frN N46 N47
      simp (disch := first | assumption | omega | exact st8_a (Nat.le_of_ble_eq_true rfl)) only [c1, e, e22, e13, hN5, hw, hf, eb_48_0, eb_48_1, eb_48_7, eb_48_8, eb_48_9, eb_48_10, eb_48_14, kl_a, kl_d, kl_f, kl_i, kl_l, kl_n, kl_r, xr_1, xr_10, xr_11, xr_12, xr_13, xr_14, xr_15, xr_2, xr_27, xr_3, xr_31, xr_32, xr_33, xr_34, xr_37, xr_38, xr_4, xr_43, xr_5, af_0, af_1, xt_goto, xt_ic_ge, xt_if_ne, xt_nop, xt_re, gF_44_1, gF_44_2, gF_44_3, gF_44_4, gF_44_5, gA_2, gA_3, gA_4, gA_5, gA_6, gA_7, gA_8, gA_9, gA_10, gA_11, gA_13, gA_14, gA_16, gA_17, gA_20, gA_21, gA_22, gA_23, gA_24, gA_25, gA_26, gA_27, gA_30, gA_31, gA_32, gA_33, gA_34, gA_35, gA_36, gA_38, gA_39, gA_41, gA_42, gA_46, gA_47, gA_49, gA_50, gA_51, gA_53, gA_56, gA_57, gA_59, gA_60, gW_2, gW_3, gW_4, gW_5, gW_6, gW_7, gW_8, gW_9, gW_10, gW_11, gW_13, gW_14, gW_16, gW_17, gW_20, gW_21, gW_22, gW_23, gW_24, gW_25, gW_26, gW_27, gW_30, gW_31, gW_32, gW_33, gW_34, gW_35, gW_36, gW_38, gW_39, gW_41, gW_42, gW_46, gW_47, gW_49, gW_50, gW_51, gW_53, gW_56, gW_57, gW_59, gW_60, gP_44_5, tF_0 h12, tF_1 h12, tF_2 h12, tF_3 h12, tA_1 h12, tA_2 h12, tW_1 h12, tW_2 h12, tP_0 h12, tP_1 h12, tF_0 h45, tF_1 h45, tF_2 h45, tF_3 h45, tA_1 h45, tA_2 h45, tW_1 h45, tW_2 h45, tP_0 h45, tP_1 h45, tC_1 h12 h45, tC_2 h12 h45, tC_1 h45 h12, tC_2 h45 h12, xq_13_2_virtualc, xq_15_2_virtualc, xq_22_2_virtualc, xq_99_9_virtualt h12, xq_99_9_virtualt h45, iN_add, iN_mul, iN_sub, iN_and, iN_or, iN_clr, iN_shl, iN_shr, tb_r1, b1_z, b1_or, b1_and, b1_or0, b1_or1, b1_0or, b1_t, b1_f, iN_lt, iN_inj, reduceIte, if_true, if_false, Nat.zero_add, Nat.add_zero, Bool.false_eq_true, Bool.true_eq_false, Nat.lt_irrefl, iN_az, not_true_eq_false, not_false_eq_true, Nat.reduceEqDiff, Nat.reduceLT, Nat.reduceAdd, Nat.reduceMul, Nat.reduceSub]
  · refine ⟨N, ?_, frN, fun z => absurd z.1 hw, fun _ => ⟨N44, N48, N49, N50⟩⟩
    clear frN N46 N47
    simp (disch := first | assumption | omega | exact st8_a (Nat.le_of_ble_eq_true rfl)) only [c1, e, e22, hN5, hw, eb_48_0, eb_48_1, eb_48_7, eb_48_8, eb_48_14, kl_a, kl_d, kl_f, kl_i, kl_l, kl_n, kl_r, xr_1, xr_10, xr_11, xr_12, xr_13, xr_14, xr_15, xr_2, xr_27, xr_3, xr_31, xr_32, xr_33, xr_34, xr_37, xr_38, xr_4, xr_43, xr_5, af_0, af_1, xt_goto, xt_ic_ge, xt_if_ne, xt_nop, xt_re, gF_44_1, gF_44_2, gF_44_3, gF_44_4, gF_44_5, gA_2, gA_3, gA_4, gA_5, gA_6, gA_7, gA_8, gA_9, gA_10, gA_11, gA_13, gA_14, gA_16, gA_17, gA_20, gA_21, gA_22, gA_23, gA_24, gA_25, gA_26, gA_27, gA_30, gA_31, gA_32, gA_33, gA_34, gA_35, gA_36, gA_38, gA_39, gA_41, gA_42, gA_46, gA_47, gA_49, gA_50, gA_51, gA_53, gA_56, gA_57, gA_59, gA_60, gW_2, gW_3, gW_4, gW_5, gW_6, gW_7, gW_8, gW_9, gW_10, gW_11, gW_13, gW_14, gW_16, gW_17, gW_20, gW_21, gW_22, gW_23, gW_24, gW_25, gW_26, gW_27, gW_30, gW_31, gW_32, gW_33, gW_34, gW_35, gW_36, gW_38, gW_39, gW_41, gW_42, gW_46, gW_47, gW_49, gW_50, gW_51, gW_53, gW_56, gW_57, gW_59, gW_60, gP_44_5, tF_0 h12, tF_1 h12, tF_2 h12, tF_3 h12, tA_1 h12, tA_2 h12, tW_1 h12, tW_2 h12, tP_0 h12, tP_1 h12, tF_0 h45, tF_1 h45, tF_2 h45, tF_3 h45, tA_1 h45, tA_2 h45, tW_1 h45, tW_2 h45, tP_0 h45, tP_1 h45, tC_1 h12 h45, tC_2 h12 h45, tC_1 h45 h12, tC_2 h45 h12, xq_13_2_virtualc, xq_15_2_virtualc, xq_22_2_virtualc, xq_99_9_virtualt h12, xq_99_9_virtualt h45, iN_add, iN_mul, iN_sub, iN_and, iN_or, iN_clr, iN_shl, iN_shr, tb_r1, b1_z, b1_or, b1_and, b1_or0, b1_or1, b1_0or, b1_t, b1_f, iN_lt, iN_inj, reduceIte, if_true, if_false, Nat.zero_add, Nat.add_zero, Bool.false_eq_true, Bool.true_eq_false, Nat.lt_irrefl, iN_az, not_true_eq_false, not_false_eq_true, Nat.reduceEqDiff, Nat.reduceLT, Nat.reduceAdd, Nat.reduceMul, Nat.reduceSub]
end Rh
