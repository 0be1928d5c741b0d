/-! THE CLASS Values: told, the least weights -/
def mno (n : Nat) (f : Nat → Nat) : Nat := match n with
  | 0 => 2147483647
  | n + 1 => min (mno n f) (f n)
def lwr (σ : Nat → Nat → Nat) (Y : Nat → Nat) (l s r : Nat) : Nat := if (Y l).testBit (s * 3 + r) = true then wv σ l s r else 2147483647
def lwq (σ : Nat → Nat → Nat) (Y : Nat → Nat) (l s : Nat) : Nat := mno (σ 1 5) (lwr σ Y l s)
/-- the least weight of a value left of a lesson -/
def lwt (σ : Nat → Nat → Nat) (Y : Nat → Nat) (l : Nat) : Nat := mno (σ 1 2) (lwq σ Y l)
set_option maxRecDepth 100000 in
theorem mno_b {n : Nat} {f : Nat → Nat} (h : ∀ i, i < n → f i ≤ 2147483647) : mno n f ≤ 2147483647 := by
  cases n with
  | zero => exact Nat.le_refl _
  | succ n => rw [mno]; exact Nat.le_trans (Nat.min_le_right _ _) (h n (by omega))
set_option maxRecDepth 100000 in
theorem mno_le {n i : Nat} {f : Nat → Nat} (hi : i < n) : mno n f ≤ f i := by
  induction n with
  | zero => omega
  | succ n ih =>
    rw [mno]
    by_cases h : i = n
    · subst h; exact Nat.min_le_right _ _
    · exact Nat.le_trans (Nat.min_le_left _ _) (ih (by omega))
set_option maxRecDepth 100000 in
theorem mno_ge {n c : Nat} {f : Nat → Nat} (hc : c ≤ 2147483647) (h : ∀ i, i < n → c ≤ f i) : c ≤ mno n f := by
  induction n with
  | zero => exact hc
  | succ n ih =>
    rw [mno]
    exact Nat.le_min.mpr ⟨ih fun i hi => h i (by omega), h n (by omega)⟩
set_option maxRecDepth 100000 in
theorem pc_same {n m a : Nat} (hm : n ≤ m) (h : ∀ i, n ≤ i → i < m → a.testBit i = false) : pc m a = pc n a := by
  induction m with
  | zero =>
    have : n = 0 := by omega
    rw [this]
  | succ m ih =>
    by_cases hn : n = m + 1
    · rw [hn]
    · rw [pc, ih (by omega) (fun i h1 h2 => h i h1 (by omega)), h m (by omega) (by omega), b1_f, Nat.add_zero]
section Vh
variable {xs : List Int32} {σ M : Nat → Nat → Nat} {R : ab_H} {d l s r o u n g set j : Nat} {X Y Z W V : Nat → Nat}
set_option maxRecDepth 100000 in
theorem s_105 (O : Ok σ) (hl : l < (σ 1 6)) (hb : ∀ i, (M 38 l).testBit i = true → ∃ s r, i = s * 3 + r ∧ s < (σ 1 2) ∧ r < (σ 1 5)) (hj : j < pc 18 (M 38 l)) : ∃ s r, s < (σ 1 2) ∧ r < (σ 1 5) ∧ (M 38 l).testBit (s * 3 + r) = true ∧ pc (s * 3 + r) (M 38 l) = j ∧ ev xs (d + 1) 105 0 ([.ref 37, .int (nI l), .int (nI j), .retAddr 9, .retAddr 9, .retAddr 9], [], hc σ M R) = some (.inl (some (.int (nI (10 * s + r)))), hc σ M R) := by
  obtain ⟨hD1, hD2, hH1, hH2, hS, hC, hT, hR, hL, hQ⟩ := Ok_b O
  have hw : M 38 l < 262144 := mask_lt (n := 18) fun i hi => by
    obtain ⟨s, r, h1, h2, h3⟩ := hb i hi
    omega
  have hj18 := pc_le 18 (M 38 l)
  have k1 : ∀ s, s ≤ (σ 1 2) → ∀ c, c = pc (s * 3) (M 38 l) → c ≤ j → ∀ z, ∃ s' r', s' < (σ 1 2) ∧ r' < (σ 1 5) ∧ (M 38 l).testBit (s' * 3 + r') = true ∧ pc (s' * 3 + r') (M 38 l) = j ∧ ev xs (d + 1) 105 1 ([.ref 37, .int (nI l), .int (nI j), .int (nI c), .int (nI s), z], [], hc σ M R) = some (.inl (some (.int (nI (10 * s' + r')))), hc σ M R) := by
    suffices hs : ∀ s, s ≤ (σ 1 2) → ∀ c, c = pc (s * 3) (M 38 l) → c ≤ j → ∀ z, ∃ p, (∃ s r, s < (σ 1 2) ∧ r < (σ 1 5) ∧ (M 38 l).testBit (s * 3 + r) = true ∧ pc (s * 3 + r) (M 38 l) = j ∧ p = 10 * s + r) ∧ ev xs (d + 1) 105 1 ([.ref 37, .int (nI l), .int (nI j), .int (nI c), .int (nI s), z], [], hc σ M R) = some (.inl (some (.int (nI (p)))), hc σ M R) by
      intro s hs1 c h1 h2 z
      obtain ⟨p, ⟨s', r', h3, h4, h5, h6, rfl⟩, e⟩ := hs s hs1 c h1 h2 z
      exact ⟨s', r', h3, h4, h5, h6, e⟩
    refine lp (σ 1 2) ?_ ?_
    · intro c h1 h2 z
      have : pc 18 (M 38 l) = pc ((σ 1 2) * 3) (M 38 l) := pc_same (by omega) fun i h3 h4 => by
        cases h : (M 38 l).testBit i
        · rfl
        · obtain ⟨s, r, z1, z2, z3⟩ := hb i h
          omega
      omega
    · intro s hs ih c h1 h2 z
      have k2 : ∀ r, r ≤ (σ 1 5) → ∀ c, c = pc (s * 3 + r) (M 38 l) → c ≤ j → ∃ p, (∃ s r, s < (σ 1 2) ∧ r < (σ 1 5) ∧ (M 38 l).testBit (s * 3 + r) = true ∧ pc (s * 3 + r) (M 38 l) = j ∧ p = 10 * s + r) ∧ ev xs (d + 1) 105 3 ([.ref 37, .int (nI l), .int (nI j), .int (nI c), .int (nI s), .int (nI r)], [], hc σ M R) = some (.inl (some (.int (nI (p)))), hc σ M R) := by
        refine lp (σ 1 5) ?_ ?_
        · intro c h1 h2
          have h3 : c = pc ((s + 1) * 3) (M 38 l) := by
            rw [h1]
            symm
            refine pc_same (by omega) fun i h3 h4 => ?_
            cases h : (M 38 l).testBit i
            · rfl
            · obtain ⟨s', r', z1, z2, z3⟩ := hb i h
              omega
          obtain ⟨p, q, e⟩ := ih c h3 h2 (.int (nI (σ 1 5)))
          refine ⟨p, q, ?_⟩
          rw [eb_105_3]
          clear q h3 ih
          simp (disch := first | assumption | omega | exact st8_a (Nat.le_of_ble_eq_true rfl)) only [eb_105_10, kl_a, kl_d, kl_f, kl_i, kl_l, kl_n, kl_r, xr_1, xr_10, xr_2, xr_28, xr_3, xr_31, xr_32, xr_33, xr_34, xr_35, xr_36, xr_37, xr_38, xr_39, xr_4, xr_40, xr_41, xr_43, xr_5, xr_64, xr_86, af_0, af_1, xt_goto, xt_ib, xt_ic, xt_ic_ge, xt_ic_ne, xt_if_eq, xt_ir, xt_nop, gF_37_0, gF_1_2, gF_1_5, xq_106_10_virtualc, iN_add, iN_mul, iN_sub, iN_and, iN_or, iN_clr, iN_shl, iN_shr, tb_r1, b1_z, b1_or, b1_and, b1_or0, b1_or1, b1_0or, b1_t, b1_f, iN_lt, iN_inj, reduceIte, if_true, if_false, Nat.zero_add, Nat.add_zero, Bool.false_eq_true, Bool.true_eq_false, Nat.lt_irrefl, iN_az, not_true_eq_false, not_false_eq_true, Nat.reduceEqDiff, Nat.reduceLT, Nat.reduceAdd, Nat.reduceMul, Nat.reduceSub]
          exact e
        · intro r hr ih2 c h1 h2
          have e1 := s_106 (xs := xs) (d := d) (M := M) (R := R) O hl hs hr hw
          have hp : pc (s * 3 + (r + 1)) (M 38 l) = pc (s * 3 + r) (M 38 l) + b1 ((M 38 l).testBit (s * 3 + r)) := rfl
          rw [eb_105_3]
          cases hb1 : (M 38 l).testBit (s * 3 + r)
          · rw [hb1] at hp e1
            obtain ⟨p, q, e⟩ := ih2 c (by rw [hp, h1]; rfl) h2
            refine ⟨p, q, ?_⟩
            clear q ih ih2
            simp (disch := first | assumption | omega | exact st8_a (Nat.le_of_ble_eq_true rfl)) only [hr, e1, eb_105_4, eb_105_5, eb_105_9, kl_a, kl_d, kl_f, kl_i, kl_l, kl_n, kl_r, xr_1, xr_10, xr_2, xr_28, xr_3, xr_31, xr_32, xr_33, xr_34, xr_35, xr_36, xr_37, xr_38, xr_39, xr_4, xr_40, xr_41, xr_43, xr_5, xr_64, xr_86, af_0, af_1, xt_goto, xt_ib, xt_ic, xt_ic_ge, xt_ic_ne, xt_if_eq, xt_ir, xt_nop, gF_37_0, gF_1_2, gF_1_5, xq_106_10_virtualc, iN_add, iN_mul, iN_sub, iN_and, iN_or, iN_clr, iN_shl, iN_shr, tb_r1, b1_z, b1_or, b1_and, b1_or0, b1_or1, b1_0or, b1_t, b1_f, iN_lt, iN_inj, reduceIte, if_true, if_false, Nat.zero_add, Nat.add_zero, Bool.false_eq_true, Bool.true_eq_false, Nat.lt_irrefl, iN_az, not_true_eq_false, not_false_eq_true, Nat.reduceEqDiff, Nat.reduceLT, Nat.reduceAdd, Nat.reduceMul, Nat.reduceSub]
            exact e
          · rw [hb1] at hp e1
            by_cases hcj : c = j
            · refine ⟨10 * s + r, ⟨s, r, hs, hr, hb1, by omega, rfl⟩, ?_⟩
              clear ih ih2
              simp (disch := first | assumption | omega | exact st8_a (Nat.le_of_ble_eq_true rfl)) only [hr, e1, eq_true hcj, eb_105_4, eb_105_5, eb_105_6, eb_105_7, kl_a, kl_d, kl_f, kl_i, kl_l, kl_n, kl_r, xr_1, xr_10, xr_2, xr_28, xr_3, xr_31, xr_32, xr_33, xr_34, xr_35, xr_36, xr_37, xr_38, xr_39, xr_4, xr_40, xr_41, xr_43, xr_5, xr_64, xr_86, af_0, af_1, xt_goto, xt_ib, xt_ic, xt_ic_ge, xt_ic_ne, xt_if_eq, xt_ir, xt_nop, gF_37_0, gF_1_2, gF_1_5, xq_106_10_virtualc, iN_add, iN_mul, iN_sub, iN_and, iN_or, iN_clr, iN_shl, iN_shr, tb_r1, b1_z, b1_or, b1_and, b1_or0, b1_or1, b1_0or, b1_t, b1_f, iN_lt, iN_inj, reduceIte, if_true, if_false, Nat.zero_add, Nat.add_zero, Bool.false_eq_true, Bool.true_eq_false, Nat.lt_irrefl, iN_az, not_true_eq_false, not_false_eq_true, Nat.reduceEqDiff, Nat.reduceLT, Nat.reduceAdd, Nat.reduceMul, Nat.reduceSub]
            · obtain ⟨p, q, e⟩ := ih2 (c + 1) (by rw [hp, h1]; rfl) (by omega)
              refine ⟨p, q, ?_⟩
              clear q ih ih2
              simp (disch := first | assumption | omega | exact st8_a (Nat.le_of_ble_eq_true rfl)) only [hr, e1, hcj, eb_105_4, eb_105_5, eb_105_6, eb_105_8, eb_105_9, kl_a, kl_d, kl_f, kl_i, kl_l, kl_n, kl_r, xr_1, xr_10, xr_2, xr_28, xr_3, xr_31, xr_32, xr_33, xr_34, xr_35, xr_36, xr_37, xr_38, xr_39, xr_4, xr_40, xr_41, xr_43, xr_5, xr_64, xr_86, af_0, af_1, xt_goto, xt_ib, xt_ic, xt_ic_ge, xt_ic_ne, xt_if_eq, xt_ir, xt_nop, gF_37_0, gF_1_2, gF_1_5, xq_106_10_virtualc, iN_add, iN_mul, iN_sub, iN_and, iN_or, iN_clr, iN_shl, iN_shr, tb_r1, b1_z, b1_or, b1_and, b1_or0, b1_or1, b1_0or, b1_t, b1_f, iN_lt, iN_inj, reduceIte, if_true, if_false, Nat.zero_add, Nat.add_zero, Bool.false_eq_true, Bool.true_eq_false, Nat.lt_irrefl, iN_az, not_true_eq_false, not_false_eq_true, Nat.reduceEqDiff, Nat.reduceLT, Nat.reduceAdd, Nat.reduceMul, Nat.reduceSub]
              exact e
      obtain ⟨p, q, e⟩ := k2 0 (Nat.zero_le _) c h1 h2
      refine ⟨p, q, ?_⟩
      rw [eb_105_1]
      clear q k2 ih
      simp (disch := first | assumption | omega | exact st8_a (Nat.le_of_ble_eq_true rfl)) only [hs, eb_105_2, kl_a, kl_d, kl_f, kl_i, kl_l, kl_n, kl_r, xr_1, xr_10, xr_2, xr_28, xr_3, xr_31, xr_32, xr_33, xr_34, xr_35, xr_36, xr_37, xr_38, xr_39, xr_4, xr_40, xr_41, xr_43, xr_5, xr_64, xr_86, af_0, af_1, xt_goto, xt_ib, xt_ic, xt_ic_ge, xt_ic_ne, xt_if_eq, xt_ir, xt_nop, gF_37_0, gF_1_2, gF_1_5, xq_106_10_virtualc, iN_add, iN_mul, iN_sub, iN_and, iN_or, iN_clr, iN_shl, iN_shr, tb_r1, b1_z, b1_or, b1_and, b1_or0, b1_or1, b1_0or, b1_t, b1_f, iN_lt, iN_inj, reduceIte, if_true, if_false, Nat.zero_add, Nat.add_zero, Bool.false_eq_true, Bool.true_eq_false, Nat.lt_irrefl, iN_az, not_true_eq_false, not_false_eq_true, Nat.reduceEqDiff, Nat.reduceLT, Nat.reduceAdd, Nat.reduceMul, Nat.reduceSub]
      exact e
  obtain ⟨s, r, h1, h2, h3, h4, e⟩ := k1 0 (Nat.zero_le _) 0 rfl (Nat.zero_le _) (.retAddr 9)
  refine ⟨s, r, h1, h2, h3, h4, ?_⟩
  clear h1 h2 h3 h4 k1
  simp (disch := first | assumption | omega | exact st8_a (Nat.le_of_ble_eq_true rfl)) only [eb_105_0, kl_a, kl_d, kl_f, kl_i, kl_l, kl_n, kl_r, xr_1, xr_10, xr_2, xr_28, xr_3, xr_31, xr_32, xr_33, xr_34, xr_35, xr_36, xr_37, xr_38, xr_39, xr_4, xr_40, xr_41, xr_43, xr_5, xr_64, xr_86, af_0, af_1, xt_goto, xt_ib, xt_ic, xt_ic_ge, xt_ic_ne, xt_if_eq, xt_ir, xt_nop, gF_37_0, gF_1_2, gF_1_5, xq_106_10_virtualc, iN_add, iN_mul, iN_sub, iN_and, iN_or, iN_clr, iN_shl, iN_shr, tb_r1, b1_z, b1_or, b1_and, b1_or0, b1_or1, b1_0or, b1_t, b1_f, iN_lt, iN_inj, reduceIte, if_true, if_false, Nat.zero_add, Nat.add_zero, Bool.false_eq_true, Bool.true_eq_false, Nat.lt_irrefl, iN_az, not_true_eq_false, not_false_eq_true, Nat.reduceEqDiff, Nat.reduceLT, Nat.reduceAdd, Nat.reduceMul, Nat.reduceSub]
  exact e
set_option maxRecDepth 100000 in
theorem lwr_b (O : Ok σ) (hs : s < (σ 1 2)) : lwr σ Y l s r ≤ 2147483647 := by
  unfold lwr
  split
  · have := wv_le O (l := l) (r := r) hs
    omega
  · exact Nat.le_refl _
set_option maxRecDepth 100000 in
theorem s_108 (O : Ok σ) (hl : l < (σ 1 6)) (hw : M 38 l < 262144) : ev xs (d + 2) 108 0 ([.ref 37, .int (nI l), .retAddr 9, .retAddr 9, .retAddr 9], [], hc σ M R) = some (.inl (some (.int (nI (min 100000 (lwt σ (M 38) l))))), hc σ M R) := by
  obtain ⟨hD1, hD2, hH1, hH2, hS, hC, hT, hR, hL, hQ⟩ := Ok_b O
  have em : ∀ a b c : Nat, min 100000 (min a (min b c)) = min (min 100000 (min a b)) c := fun a b c => by omega
  have k1 : ∀ s, s ≤ (σ 1 2) → ∀ z, ev xs (d + 2) 108 1 ([.ref 37, .int (nI l), .int (nI (min 100000 (mno s (lwq σ (M 38) l)))), .int (nI s), z], [], hc σ M R) = some (.inl (some (.int (nI (min 100000 (lwt σ (M 38) l))))), hc σ M R) := by
    refine lp (σ 1 2) ?_ ?_
    · intro z
      rw [eb_108_1]
      simp (disch := first | assumption | omega | exact st8_a (Nat.le_of_ble_eq_true rfl)) only [eb_108_10, kl_a, kl_d, kl_f, kl_i, kl_l, kl_n, kl_r, xr_1, xr_10, xr_2, xr_28, xr_3, xr_30, xr_31, xr_32, xr_33, xr_34, xr_37, xr_4, xr_40, xr_43, xr_47, xr_5, xr_89, af_0, af_1, xt_goto, xt_ib, xt_ic, xt_ic_ge, xt_if_eq, xt_ir, xt_nop, gF_37_0, gF_1_2, gF_1_5, xq_106_10_virtualc, xq_68_6_virtualc, iN_add, iN_mul, iN_sub, iN_and, iN_or, iN_clr, iN_shl, iN_shr, tb_r1, b1_z, b1_or, b1_and, b1_or0, b1_or1, b1_0or, b1_t, b1_f, iN_lt, iN_inj, reduceIte, if_true, if_false, Nat.zero_add, Nat.add_zero, Bool.false_eq_true, Bool.true_eq_false, Nat.lt_irrefl, iN_az, not_true_eq_false, not_false_eq_true, Nat.reduceEqDiff, Nat.reduceLT, Nat.reduceAdd, Nat.reduceMul, Nat.reduceSub]
      rfl
    · intro s hs ih z
      have hm : mno s (lwq σ (M 38) l) ≤ 2147483647 := mno_b fun i hi => mno_b fun k hk => lwr_b O (by omega)
      have k2 : ∀ r, r ≤ (σ 1 5) → ev xs (d + 2) 108 3 ([.ref 37, .int (nI l), .int (nI (min 100000 (min (mno s (lwq σ (M 38) l)) (mno r (lwr σ (M 38) l s))))), .int (nI s), .int (nI r)], [], hc σ M R) = some (.inl (some (.int (nI (min 100000 (lwt σ (M 38) l))))), hc σ M R) := by
        refine lp (σ 1 5) ?_ ?_
        · rw [eb_108_3]
          have e := ih (.int (nI (σ 1 5)))
          rw [mno] at e
          unfold lwq at e
          unfold lwq
          clear ih
          simp (disch := first | assumption | omega | exact st8_a (Nat.le_of_ble_eq_true rfl)) only [eb_108_9, kl_a, kl_d, kl_f, kl_i, kl_l, kl_n, kl_r, xr_1, xr_10, xr_2, xr_28, xr_3, xr_30, xr_31, xr_32, xr_33, xr_34, xr_37, xr_4, xr_40, xr_43, xr_47, xr_5, xr_89, af_0, af_1, xt_goto, xt_ib, xt_ic, xt_ic_ge, xt_if_eq, xt_ir, xt_nop, gF_37_0, gF_1_2, gF_1_5, xq_106_10_virtualc, xq_68_6_virtualc, iN_add, iN_mul, iN_sub, iN_and, iN_or, iN_clr, iN_shl, iN_shr, tb_r1, b1_z, b1_or, b1_and, b1_or0, b1_or1, b1_0or, b1_t, b1_f, iN_lt, iN_inj, reduceIte, if_true, if_false, Nat.zero_add, Nat.add_zero, Bool.false_eq_true, Bool.true_eq_false, Nat.lt_irrefl, iN_az, not_true_eq_false, not_false_eq_true, Nat.reduceEqDiff, Nat.reduceLT, Nat.reduceAdd, Nat.reduceMul, Nat.reduceSub]
          exact e
        · intro r hr ih2
          have e1 := s_106 (xs := xs) (d := d + 1) (M := M) (R := R) O hl hs hr hw
          have e2 := s_68 (xs := xs) (d := d) (M := M) (R := R) O hl hs hr
          have h27 := wv_le O (l := l) (r := r) hs
          have hm2 : mno r (lwr σ (M 38) l s) ≤ 2147483647 := mno_b fun i hi => lwr_b O hs
          have hm3 : min 100000 (min (mno s (lwq σ (M 38) l)) (mno r (lwr σ (M 38) l s))) < 2147483648 := by omega
          rw [mno, em] at ih2
          rw [lwr] at ih2
          rw [eb_108_3]
          clear ih em
          cases hb1 : (M 38 l).testBit (s * 3 + r)
          · rw [hb1] at e1 ih2
            rw [if_neg (by decide), Nat.min_eq_left (by omega)] at ih2
            simp (disch := first | assumption | omega | exact st8_a (Nat.le_of_ble_eq_true rfl)) only [hr, e1, eb_108_4, eb_108_5, eb_108_8, kl_a, kl_d, kl_f, kl_i, kl_l, kl_n, kl_r, xr_1, xr_10, xr_2, xr_28, xr_3, xr_30, xr_31, xr_32, xr_33, xr_34, xr_37, xr_4, xr_40, xr_43, xr_47, xr_5, xr_89, af_0, af_1, xt_goto, xt_ib, xt_ic, xt_ic_ge, xt_if_eq, xt_ir, xt_nop, gF_37_0, gF_1_2, gF_1_5, xq_106_10_virtualc, xq_68_6_virtualc, iN_add, iN_mul, iN_sub, iN_and, iN_or, iN_clr, iN_shl, iN_shr, tb_r1, b1_z, b1_or, b1_and, b1_or0, b1_or1, b1_0or, b1_t, b1_f, iN_lt, iN_inj, reduceIte, if_true, if_false, Nat.zero_add, Nat.add_zero, Bool.false_eq_true, Bool.true_eq_false, Nat.lt_irrefl, iN_az, not_true_eq_false, not_false_eq_true, Nat.reduceEqDiff, Nat.reduceLT, Nat.reduceAdd, Nat.reduceMul, Nat.reduceSub]
            exact ih2
          · rw [hb1] at e1 ih2
            rw [if_pos rfl] at ih2
            simp (disch := first | assumption | omega | exact st8_a (Nat.le_of_ble_eq_true rfl)) only [hr, e1, e2, eb_108_4, eb_108_5, eb_108_6, eb_108_7, eb_108_8, kl_a, kl_d, kl_f, kl_i, kl_l, kl_n, kl_r, xr_1, xr_10, xr_2, xr_28, xr_3, xr_30, xr_31, xr_32, xr_33, xr_34, xr_37, xr_4, xr_40, xr_43, xr_47, xr_5, xr_89, af_0, af_1, xt_goto, xt_ib, xt_ic, xt_ic_ge, xt_if_eq, xt_ir, xt_nop, gF_37_0, gF_1_2, gF_1_5, xq_106_10_virtualc, xq_68_6_virtualc, iN_add, iN_mul, iN_sub, iN_and, iN_or, iN_clr, iN_shl, iN_shr, tb_r1, b1_z, b1_or, b1_and, b1_or0, b1_or1, b1_0or, b1_t, b1_f, iN_lt, iN_inj, reduceIte, if_true, if_false, Nat.zero_add, Nat.add_zero, Bool.false_eq_true, Bool.true_eq_false, Nat.lt_irrefl, iN_az, not_true_eq_false, not_false_eq_true, Nat.reduceEqDiff, Nat.reduceLT, Nat.reduceAdd, Nat.reduceMul, Nat.reduceSub]
            exact ih2
      have e := k2 0 (Nat.zero_le _)
      rw [mno, Nat.min_eq_left hm] at e
      rw [eb_108_1]
      clear k2 ih
      simp (disch := first | assumption | omega | exact st8_a (Nat.le_of_ble_eq_true rfl)) only [hs, eb_108_2, kl_a, kl_d, kl_f, kl_i, kl_l, kl_n, kl_r, xr_1, xr_10, xr_2, xr_28, xr_3, xr_30, xr_31, xr_32, xr_33, xr_34, xr_37, xr_4, xr_40, xr_43, xr_47, xr_5, xr_89, af_0, af_1, xt_goto, xt_ib, xt_ic, xt_ic_ge, xt_if_eq, xt_ir, xt_nop, gF_37_0, gF_1_2, gF_1_5, xq_106_10_virtualc, xq_68_6_virtualc, iN_add, iN_mul, iN_sub, iN_and, iN_or, iN_clr, iN_shl, iN_shr, tb_r1, b1_z, b1_or, b1_and, b1_or0, b1_or1, b1_0or, b1_t, b1_f, iN_lt, iN_inj, reduceIte, if_true, if_false, Nat.zero_add, Nat.add_zero, Bool.false_eq_true, Bool.true_eq_false, Nat.lt_irrefl, iN_az, not_true_eq_false, not_false_eq_true, Nat.reduceEqDiff, Nat.reduceLT, Nat.reduceAdd, Nat.reduceMul, Nat.reduceSub]
      exact e
  have e := k1 0 (Nat.zero_le _) (.retAddr 9)
  rw [mno, show min 100000 2147483647 = 100000 from rfl] at e
  clear k1
  simp (disch := first | assumption | omega | exact st8_a (Nat.le_of_ble_eq_true rfl)) only [eb_108_0, kl_a, kl_d, kl_f, kl_i, kl_l, kl_n, kl_r, xr_1, xr_10, xr_2, xr_28, xr_3, xr_30, xr_31, xr_32, xr_33, xr_34, xr_37, xr_4, xr_40, xr_43, xr_47, xr_5, xr_89, af_0, af_1, xt_goto, xt_ib, xt_ic, xt_ic_ge, xt_if_eq, xt_ir, xt_nop, gF_37_0, gF_1_2, gF_1_5, xq_106_10_virtualc, xq_68_6_virtualc, iN_add, iN_mul, iN_sub, iN_and, iN_or, iN_clr, iN_shl, iN_shr, tb_r1, b1_z, b1_or, b1_and, b1_or0, b1_or1, b1_0or, b1_t, b1_f, iN_lt, iN_inj, reduceIte, if_true, if_false, Nat.zero_add, Nat.add_zero, Bool.false_eq_true, Bool.true_eq_false, Nat.lt_irrefl, iN_az, not_true_eq_false, not_false_eq_true, Nat.reduceEqDiff, Nat.reduceLT, Nat.reduceAdd, Nat.reduceMul, Nat.reduceSub]
  exact e
end Vh
