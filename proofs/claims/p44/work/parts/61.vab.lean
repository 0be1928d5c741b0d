/-! THE CLASS Values: what is dropped -/
def Su (σ : Nat → Nat → Nat) (X Y : Nat → Nat) : Prop := ∀ l, l < (σ 1 6) → ∀ i, (X l).testBit i = true → (Y l).testBit i = true
def tot (σ : Nat → Nat → Nat) (Y : Nat → Nat) : Nat := sm (σ 1 6) fun l => pc 18 (Y l)
/-- Z comes from Y: b says whether there is less; what keeps T stays -/
def DR (σ : Nat → Nat → Nat) (T : (Nat → Nat) → Prop) (Y Z : Nat → Nat) (b : Bool) : Prop := Su σ Z Y ∧ (b = false → ∀ l, l < (σ 1 6) → Z l = Y l) ∧ (b = true → tot σ Z < tot σ Y) ∧ ∀ X, T X → Su σ X Y → Su σ X Z
/-- a value has a partner -/
def Pt (σ : Nat → Nat → Nat) (f Y : Nat → Nat) (l s r o : Nat) : Prop := ∃ i, i < (σ 1 2) ∧ fb f l s o i = true ∧ ∃ r2, r2 < 3 ∧ (Y o).testBit (i * 3 + r2) = true ∧ (cov σ l s &&& cov σ o i ≠ 0 → r2 ≠ r)
def LA (σ : Nat → Nat → Nat) (f Y : Nat → Nat) (l s r : Nat) : Prop := (Y l).testBit (s * 3 + r) = true → ∀ o, o < (σ 1 6) → o ≠ l → Pt σ f Y l s r o
def LT (σ : Nat → Nat → Nat) (f Y : Nat → Nat) : Prop := ∀ l, l < (σ 1 6) → ∀ s, s < (σ 1 2) → ∀ r, r < (σ 1 5) → LA σ f Y l s r
set_option maxRecDepth 100000 in
theorem pc_sb {n a b : Nat} (h : ∀ i, b.testBit i = true → a.testBit i = true) : pc n b ≤ pc n a := by
  induction n with
  | zero => exact Nat.le_refl _
  | succ n ih =>
    rw [pc, pc]
    have := h n
    cases hb : b.testBit n
    · rw [b1_f]; omega
    · rw [this hb]; omega
set_option maxRecDepth 100000 in
theorem pc_slt {n a b i : Nat} (h : ∀ i, b.testBit i = true → a.testBit i = true) (hi : i < n) (h1 : a.testBit i = true) (h2 : b.testBit i = false) : pc n b < pc n a := by
  induction n with
  | zero => omega
  | succ n ih =>
    rw [pc, pc]
    by_cases hn : i = n
    · subst hn
      rw [h1, h2, b1_f, b1_t]
      have := pc_sb (n := i) h
      omega
    · have := ih (by omega)
      have h3 := h n
      cases hb : b.testBit n
      · rw [b1_f]; omega
      · rw [h3 hb]; omega
set_option maxRecDepth 100000 in
theorem sm_mo {n : Nat} {f g : Nat → Nat} (h : ∀ i, i < n → f i ≤ g i) : sm n f ≤ sm n g := by
  induction n with
  | zero => exact Nat.le_refl _
  | succ n ih =>
    rw [sm, sm]
    have := ih fun i hi => h i (by omega)
    have := h n (by omega)
    omega
set_option maxRecDepth 100000 in
theorem sm_slt {n k : Nat} {f g : Nat → Nat} (h : ∀ i, i < n → f i ≤ g i) (hk : k < n) (h2 : f k < g k) : sm n f < sm n g := by
  induction n with
  | zero => omega
  | succ n ih =>
    rw [sm, sm]
    by_cases hn : k = n
    · subst hn
      have := sm_mo (n := k) fun i hi => h i (by omega)
      omega
    · have := ih (fun i hi => h i (by omega)) (by omega)
      have := h n (by omega)
      omega
section Vb
variable {xs : List Int32} {σ M : Nat → Nat → Nat} {R : ab_H} {d l s r o u n : Nat} {T : (Nat → Nat) → Prop} {X Y Z W : Nat → Nat} {b c : Bool}
set_option maxRecDepth 100000 in
theorem Su_lt (h : Su σ Z Y) (hY : ∀ l, l < (σ 1 6) → Y l < 262144) : ∀ l, l < (σ 1 6) → Z l < 262144 := fun l hl => mask_lt (n := 18) fun i hi => by
  have h2 := h l hl i hi
  by_cases h3 : i < 18
  · exact h3
  · rw [Nat.testBit_lt_two_pow (Nat.lt_of_lt_of_le (hY l hl) (Nat.pow_le_pow_right (n := 2) (i := 18) (by decide) (by omega)))] at h2
    cases h2
set_option maxRecDepth 100000 in
theorem Su_r : Su σ Y Y := fun _ _ _ h => h
set_option maxRecDepth 100000 in
theorem Su_t (h : Su σ X Y) (h2 : Su σ Y Z) : Su σ X Z := fun l hl i hi => h2 l hl i (h l hl i hi)
set_option maxRecDepth 100000 in
theorem DR_e (h : ∀ l, l < (σ 1 6) → Z l = Y l) : DR σ T Y Z false := ⟨fun l hl i hi => by rw [h l hl] at hi; exact hi, fun _ => h, fun z => by (cases z), fun X _ hX l hl i hi => by rw [h l hl]; exact hX l hl i hi⟩
set_option maxRecDepth 100000 in
theorem DR_r : DR σ T Y Y false := DR_e fun _ _ => rfl
set_option maxRecDepth 100000 in
theorem DR_t (h : DR σ T Y Z b) (h2 : DR σ T Z W c) : DR σ T Y W (b || c) := by
  refine ⟨Su_t h2.1 h.1, fun q l hl => ?_, fun q => ?_, fun X hX hs => h2.2.2.2 X hX (h.2.2.2 X hX hs)⟩
  · rw [Bool.or_eq_false_iff] at q
    rw [h2.2.1 q.2 l hl, h.2.1 q.1 l hl]
  · cases b
    · rw [Bool.false_or] at q
      have e : tot σ Z = tot σ Y := sm_cg fun l hl => by rw [h.2.1 rfl l hl]
      rw [← e]
      exact h2.2.2.1 q
    · cases c
      · have e : tot σ W = tot σ Z := sm_cg fun l hl => by rw [h2.2.1 rfl l hl]
        rw [e]
        exact h.2.2.1 rfl
      · exact Nat.lt_trans (h2.2.2.1 rfl) (h.2.2.1 rfl)
set_option maxRecDepth 100000 in
theorem DR_m {m : Nat} (hl : l < (σ 1 6)) (hY : Y l < 262144) (hm : Y l &&& m ≠ 0) (hX : ∀ X, T X → Su σ X Y → X l &&& m = 0) : DR σ T Y (u1 Y l (clr (Y l) m)) true := by
  have hs : ∀ i, (clr (Y l) m).testBit i = true → (Y l).testBit i = true := fun i hi => by
    rw [clr_tb, Bool.and_eq_true] at hi
    exact hi.1
  refine ⟨fun k hk i hi => ?_, fun z => by (cases z), fun _ => ?_, fun X hT hS k hk i hi => ?_⟩
  · by_cases h : k = l
    · subst h
      rw [u1_s] at hi
      exact hs i hi
    · rw [u1_n h] at hi
      exact hi
  · obtain ⟨i, hi⟩ := nz_tb.mp hm
    rw [Nat.testBit_and, Bool.and_eq_true] at hi
    have hi18 : i < 18 := by
      by_cases h3 : i < 18
      · exact h3
      · have h2 := hi.1
        rw [Nat.testBit_lt_two_pow (Nat.lt_of_lt_of_le hY (Nat.pow_le_pow_right (n := 2) (i := 18) (by decide) (by omega)))] at h2
        cases h2
    refine sm_slt (k := l) (fun k hk => ?_) hl ?_
    · by_cases h : k = l
      · subst h
        rw [u1_s]
        exact pc_sb hs
      · rw [u1_n h]
        exact Nat.le_refl _
    · rw [u1_s]
      exact pc_slt hs hi18 hi.1 (by rw [clr_tb, hi.2]; simp)
  · have h5 := hS k hk i hi
    by_cases h : k = l
    · subst h
      rw [u1_s, clr_tb, h5]
      have := z_tb.mp (hX X hT hS) i
      rw [Nat.testBit_and, hi, Bool.true_and] at this
      rw [this]
      rfl
    · rw [u1_n h]
      exact h5
set_option maxRecDepth 100000 in
theorem DR_1 {i : Nat} (hl : l < (σ 1 6)) (hY : Y l < 262144) (hm : (Y l).testBit i = true) (hX : ∀ X, T X → Su σ X Y → (X l).testBit i = false) : DR σ T Y (u1 Y l (clr (Y l) (1 <<< i))) true := by
  refine DR_m hl hY (nz_tb.mpr ⟨i, by rw [Nat.testBit_and, hm, tb_1s]; simp⟩) fun X hT hS => z_tb.mpr fun k => ?_
  rw [Nat.testBit_and, tb_1s]
  by_cases h : k = i
  · subst h
    rw [hX X hT hS]
    rfl
  · simp [h]
set_option maxRecDepth 100000 in
theorem s_110 (O : Ok σ) (h23 : ∀ l, l < (σ 1 6) → ∀ s, s < (σ 1 2) → ∀ o, o < (σ 1 6) → o ≠ l → M 23 (pi l s o) < 64) (hc25 : ∀ l, l < (σ 1 6) → ∀ s, s < (σ 1 2) → M 25 (l * 6 + s) = cov σ l s) (hTT : ∀ X, T X → LT σ (M 23) X) (hY : ∀ l, l < (σ 1 6) → Y l < 262144) : ∃ Z b, ev xs (d + 3) 110 0 ([.ref 37, .retAddr 9, .retAddr 9, .retAddr 9, .retAddr 9], [], hc σ (ur M 38 Y) R) = some (.inl (some (.int (nI (b1 b)))), hc σ (ur M 38 Z) R) ∧ DR σ T Y Z b ∧ (b = false → LT σ (M 23) Y) := by
  obtain ⟨hD1, hD2, hH1, hH2, hS, hC, hT, hR, hL, hQ⟩ := Ok_b O
  have k1 : ∀ l, l ≤ (σ 1 6) → ∀ (Y : Nat → Nat), (∀ l, l < (σ 1 6) → Y l < 262144) → ∀ (a : Bool) y z, ∃ Z b, ev xs (d + 3) 110 1 ([.ref 37, .int (nI (b1 a)), .int (nI l), y, z], [], hc σ (ur M 38 Y) R) = some (.inl (some (.int (nI (b1 (a || b))))), hc σ (ur M 38 Z) R) ∧ DR σ T Y Z b ∧ (b = false → ∀ l', l' < (σ 1 6) → ∀ s', s' < (σ 1 2) → ∀ r', r' < (σ 1 5) → l ≤ l' → LA σ (M 23) Y l' s' r') := by
    refine lp (σ 1 6) ?_ ?_
    · intro Y hY a y z
      refine ⟨Y, false, ?_, DR_r, fun _ l' h1 s' _ r' _ h2 => by omega⟩
      rw [eb_110_1, Bool.or_false]
      simp (disch := first | assumption | omega | exact st8_a (Nat.le_of_ble_eq_true rfl)) only [eb_110_0, eb_110_2, eb_110_4, eb_110_6, eb_110_7, eb_110_8, eb_110_9, eb_110_10, eb_110_11, eb_110_12, eb_110_13, eb_110_14, kl_a, kl_d, kl_f, kl_i, kl_l, kl_n, kl_r, xr_1, xr_10, xr_2, xr_27, xr_28, xr_29, xr_3, xr_30, xr_31, xr_32, xr_33, xr_34, xr_37, xr_38, xr_4, xr_40, xr_41, xr_42, xr_43, xr_44, xr_5, xr_58, xr_64, xr_71, xr_74, xr_75, af_0, af_1, xt_goto, xt_ib, xt_ic, xt_ic_ge, xt_if_eq, xt_ir, xt_nop, gF_37_0, gF_37_2, gF_1_2, gF_1_5, gF_1_6, gA_2, gA_3, gA_4, gA_5, gA_6, gA_7, gA_8, gA_9, gA_10, gA_11, gA_13, gA_14, gA_16, gA_17, gA_20, gA_21, gA_22, gA_23, gA_24, gA_25, gA_26, gA_27, gA_30, gA_31, gA_32, gA_33, gA_34, gA_35, gA_36, gA_38, gA_39, gA_41, gA_42, gA_46, gA_47, gA_49, gA_50, gA_51, gA_53, gA_56, gA_57, gA_59, gA_60, gW_2, gW_3, gW_4, gW_5, gW_6, gW_7, gW_8, gW_9, gW_10, gW_11, gW_13, gW_14, gW_16, gW_17, gW_20, gW_21, gW_22, gW_23, gW_24, gW_25, gW_26, gW_27, gW_30, gW_31, gW_32, gW_33, gW_34, gW_35, gW_36, gW_38, gW_39, gW_41, gW_42, gW_46, gW_47, gW_49, gW_50, gW_51, gW_53, gW_56, gW_57, gW_59, gW_60, xq_106_10_virtualc, xq_111_10_virtualc, iN_add, iN_mul, iN_sub, iN_and, iN_or, iN_clr, iN_shl, iN_shr, tb_r1, b1_z, b1_or, b1_and, b1_or0, b1_or1, b1_0or, b1_t, b1_f, iN_lt, iN_inj, reduceIte, if_true, if_false, Nat.zero_add, Nat.add_zero, Bool.false_eq_true, Bool.true_eq_false, Nat.lt_irrefl, iN_az, not_true_eq_false, not_false_eq_true, Nat.reduceEqDiff, Nat.reduceLT, Nat.reduceAdd, Nat.reduceMul, Nat.reduceSub]
    · intro l hl ih1 Y hY a y z
      have k2 : ∀ s, s ≤ (σ 1 2) → ∀ (Y : Nat → Nat), (∀ l, l < (σ 1 6) → Y l < 262144) → ∀ (a : Bool) z, ∃ Z b, ev xs (d + 3) 110 3 ([.ref 37, .int (nI (b1 a)), .int (nI l), .int (nI s), z], [], hc σ (ur M 38 Y) R) = some (.inl (some (.int (nI (b1 (a || b))))), hc σ (ur M 38 Z) R) ∧ DR σ T Y Z b ∧ (b = false → ∀ l', l' < (σ 1 6) → ∀ s', s' < (σ 1 2) → ∀ r', r' < (σ 1 5) → (l < l' ∨ l = l' ∧ s ≤ s') → LA σ (M 23) Y l' s' r') := by
        refine lp (σ 1 2) ?_ ?_
        · intro Y hY a z
          obtain ⟨Z, b, e, q1, q2⟩ := ih1 Y hY a (.int (nI (σ 1 2))) z
          refine ⟨Z, b, ?_, q1, fun h l' h1 s' h2 r' h3 h4 => q2 h l' h1 s' h2 r' h3 (by omega)⟩
          rw [eb_110_3]
          clear q1 q2 ih1
          simp (disch := first | assumption | omega | exact st8_a (Nat.le_of_ble_eq_true rfl)) only [eb_110_13, kl_a, kl_d, kl_f, kl_i, kl_l, kl_n, kl_r, xr_1, xr_10, xr_2, xr_27, xr_28, xr_29, xr_3, xr_30, xr_31, xr_32, xr_33, xr_34, xr_37, xr_38, xr_4, xr_40, xr_41, xr_42, xr_43, xr_44, xr_5, xr_58, xr_64, xr_71, xr_74, xr_75, af_0, af_1, xt_goto, xt_ib, xt_ic, xt_ic_ge, xt_if_eq, xt_ir, xt_nop, gF_37_0, gF_37_2, gF_1_2, gF_1_5, gF_1_6, gA_2, gA_3, gA_4, gA_5, gA_6, gA_7, gA_8, gA_9, gA_10, gA_11, gA_13, gA_14, gA_16, gA_17, gA_20, gA_21, gA_22, gA_23, gA_24, gA_25, gA_26, gA_27, gA_30, gA_31, gA_32, gA_33, gA_34, gA_35, gA_36, gA_38, gA_39, gA_41, gA_42, gA_46, gA_47, gA_49, gA_50, gA_51, gA_53, gA_56, gA_57, gA_59, gA_60, gW_2, gW_3, gW_4, gW_5, gW_6, gW_7, gW_8, gW_9, gW_10, gW_11, gW_13, gW_14, gW_16, gW_17, gW_20, gW_21, gW_22, gW_23, gW_24, gW_25, gW_26, gW_27, gW_30, gW_31, gW_32, gW_33, gW_34, gW_35, gW_36, gW_38, gW_39, gW_41, gW_42, gW_46, gW_47, gW_49, gW_50, gW_51, gW_53, gW_56, gW_57, gW_59, gW_60, xq_106_10_virtualc, xq_111_10_virtualc, iN_add, iN_mul, iN_sub, iN_and, iN_or, iN_clr, iN_shl, iN_shr, tb_r1, b1_z, b1_or, b1_and, b1_or0, b1_or1, b1_0or, b1_t, b1_f, iN_lt, iN_inj, reduceIte, if_true, if_false, Nat.zero_add, Nat.add_zero, Bool.false_eq_true, Bool.true_eq_false, Nat.lt_irrefl, iN_az, not_true_eq_false, not_false_eq_true, Nat.reduceEqDiff, Nat.reduceLT, Nat.reduceAdd, Nat.reduceMul, Nat.reduceSub]
          exact e
        · intro s hs ih2 Y hY a z
          have k3 : ∀ r, r ≤ (σ 1 5) → ∀ (Y : Nat → Nat), (∀ l, l < (σ 1 6) → Y l < 262144) → ∀ (a : Bool), ∃ Z b, ev xs (d + 3) 110 5 ([.ref 37, .int (nI (b1 a)), .int (nI l), .int (nI s), .int (nI r)], [], hc σ (ur M 38 Y) R) = some (.inl (some (.int (nI (b1 (a || b))))), hc σ (ur M 38 Z) R) ∧ DR σ T Y Z b ∧ (b = false → ∀ l', l' < (σ 1 6) → ∀ s', s' < (σ 1 2) → ∀ r', r' < (σ 1 5) → (l < l' ∨ l = l' ∧ (s < s' ∨ s = s' ∧ r ≤ r')) → LA σ (M 23) Y l' s' r') := by
            refine lp (σ 1 5) ?_ ?_
            · intro Y hY a
              obtain ⟨Z, b, e, q1, q2⟩ := ih2 Y hY a (.int (nI (σ 1 5)))
              refine ⟨Z, b, ?_, q1, fun h l' h1 s' h2 r' h3 h4 => q2 h l' h1 s' h2 r' h3 (by omega)⟩
              rw [eb_110_5]
              clear q1 q2 ih1 ih2
              simp (disch := first | assumption | omega | exact st8_a (Nat.le_of_ble_eq_true rfl)) only [eb_110_12, kl_a, kl_d, kl_f, kl_i, kl_l, kl_n, kl_r, xr_1, xr_10, xr_2, xr_27, xr_28, xr_29, xr_3, xr_30, xr_31, xr_32, xr_33, xr_34, xr_37, xr_38, xr_4, xr_40, xr_41, xr_42, xr_43, xr_44, xr_5, xr_58, xr_64, xr_71, xr_74, xr_75, af_0, af_1, xt_goto, xt_ib, xt_ic, xt_ic_ge, xt_if_eq, xt_ir, xt_nop, gF_37_0, gF_37_2, gF_1_2, gF_1_5, gF_1_6, gA_2, gA_3, gA_4, gA_5, gA_6, gA_7, gA_8, gA_9, gA_10, gA_11, gA_13, gA_14, gA_16, gA_17, gA_20, gA_21, gA_22, gA_23, gA_24, gA_25, gA_26, gA_27, gA_30, gA_31, gA_32, gA_33, gA_34, gA_35, gA_36, gA_38, gA_39, gA_41, gA_42, gA_46, gA_47, gA_49, gA_50, gA_51, gA_53, gA_56, gA_57, gA_59, gA_60, gW_2, gW_3, gW_4, gW_5, gW_6, gW_7, gW_8, gW_9, gW_10, gW_11, gW_13, gW_14, gW_16, gW_17, gW_20, gW_21, gW_22, gW_23, gW_24, gW_25, gW_26, gW_27, gW_30, gW_31, gW_32, gW_33, gW_34, gW_35, gW_36, gW_38, gW_39, gW_41, gW_42, gW_46, gW_47, gW_49, gW_50, gW_51, gW_53, gW_56, gW_57, gW_59, gW_60, xq_106_10_virtualc, xq_111_10_virtualc, iN_add, iN_mul, iN_sub, iN_and, iN_or, iN_clr, iN_shl, iN_shr, tb_r1, b1_z, b1_or, b1_and, b1_or0, b1_or1, b1_0or, b1_t, b1_f, iN_lt, iN_inj, reduceIte, if_true, if_false, Nat.zero_add, Nat.add_zero, Bool.false_eq_true, Bool.true_eq_false, Nat.lt_irrefl, iN_az, not_true_eq_false, not_false_eq_true, Nat.reduceEqDiff, Nat.reduceLT, Nat.reduceAdd, Nat.reduceMul, Nat.reduceSub]
              exact e
            · intro r hr ih3 Y hY a
              have hw := hY l hl
              have e1 := s_106 (xs := xs) (d := d + 2) (M := ur M 38 Y) (R := R) O hl hs hr (by rw [ur_s]; exact hw)
              obtain ⟨bl, e2, q⟩ := s_111 (xs := xs) (d := d) (M := ur M 38 Y) (R := R) O hl hs hr (fun o ho hne => by rw [ur_n (by decide)]; exact h23 l hl s hs o ho hne) (fun o ho => by rw [ur_s]; exact hY o ho) (fun l hl s hs => by rw [ur_n (by decide)]; exact hc25 l hl s hs)
              rw [ur_s] at e1 q
              rw [ur_n (by decide)] at q
              have stay : LA σ (M 23) Y l s r → ∀ Z b, DR σ T Y Z b → (b = false → ∀ l', l' < (σ 1 6) → ∀ s', s' < (σ 1 2) → ∀ r', r' < (σ 1 5) → (l < l' ∨ l = l' ∧ (s < s' ∨ s = s' ∧ r + 1 ≤ r')) → LA σ (M 23) Y l' s' r') → (b = false → ∀ l', l' < (σ 1 6) → ∀ s', s' < (σ 1 2) → ∀ r', r' < (σ 1 5) → (l < l' ∨ l = l' ∧ (s < s' ∨ s = s' ∧ r ≤ r')) → LA σ (M 23) Y l' s' r') := by
                intro hA Z b _ q2 h l' h1 s' h2 r' h3 h4
                by_cases hh : l' = l ∧ s' = s ∧ r' = r
                · obtain ⟨rfl, rfl, rfl⟩ := hh
                  exact hA
                · exact q2 h l' h1 s' h2 r' h3 (by omega)
              rw [eb_110_5]
              cases h1 : (Y l).testBit (s * 3 + r)
              · obtain ⟨Z, b, e, q1, q2⟩ := ih3 Y hY a
                refine ⟨Z, b, ?_, q1, stay (fun z => by rw [h1] at z; cases z) Z b q1 q2⟩
                rw [h1] at e1
                clear q1 q2 ih1 ih2 ih3 q stay
                simp (disch := first | assumption | omega | exact st8_a (Nat.le_of_ble_eq_true rfl)) only [hr, e1, eb_110_6, eb_110_7, eb_110_11, kl_a, kl_d, kl_f, kl_i, kl_l, kl_n, kl_r, xr_1, xr_10, xr_2, xr_27, xr_28, xr_29, xr_3, xr_30, xr_31, xr_32, xr_33, xr_34, xr_37, xr_38, xr_4, xr_40, xr_41, xr_42, xr_43, xr_44, xr_5, xr_58, xr_64, xr_71, xr_74, xr_75, af_0, af_1, xt_goto, xt_ib, xt_ic, xt_ic_ge, xt_if_eq, xt_ir, xt_nop, gF_37_0, gF_37_2, gF_1_2, gF_1_5, gF_1_6, gA_2, gA_3, gA_4, gA_5, gA_6, gA_7, gA_8, gA_9, gA_10, gA_11, gA_13, gA_14, gA_16, gA_17, gA_20, gA_21, gA_22, gA_23, gA_24, gA_25, gA_26, gA_27, gA_30, gA_31, gA_32, gA_33, gA_34, gA_35, gA_36, gA_38, gA_39, gA_41, gA_42, gA_46, gA_47, gA_49, gA_50, gA_51, gA_53, gA_56, gA_57, gA_59, gA_60, gW_2, gW_3, gW_4, gW_5, gW_6, gW_7, gW_8, gW_9, gW_10, gW_11, gW_13, gW_14, gW_16, gW_17, gW_20, gW_21, gW_22, gW_23, gW_24, gW_25, gW_26, gW_27, gW_30, gW_31, gW_32, gW_33, gW_34, gW_35, gW_36, gW_38, gW_39, gW_41, gW_42, gW_46, gW_47, gW_49, gW_50, gW_51, gW_53, gW_56, gW_57, gW_59, gW_60, xq_106_10_virtualc, xq_111_10_virtualc, iN_add, iN_mul, iN_sub, iN_and, iN_or, iN_clr, iN_shl, iN_shr, tb_r1, b1_z, b1_or, b1_and, b1_or0, b1_or1, b1_0or, b1_t, b1_f, iN_lt, iN_inj, reduceIte, if_true, if_false, Nat.zero_add, Nat.add_zero, Bool.false_eq_true, Bool.true_eq_false, Nat.lt_irrefl, iN_az, not_true_eq_false, not_false_eq_true, Nat.reduceEqDiff, Nat.reduceLT, Nat.reduceAdd, Nat.reduceMul, Nat.reduceSub]
                exact e
              · cases bl
                · obtain ⟨Z, b, e, q1, q2⟩ := ih3 Y hY a
                  refine ⟨Z, b, ?_, q1, stay (fun _ o ho hne => ?_) Z b q1 q2⟩
                  · rw [h1] at e1
                    clear q1 q2 ih1 ih2 ih3 q stay
                    simp (disch := first | assumption | omega | exact st8_a (Nat.le_of_ble_eq_true rfl)) only [hr, e1, e2, eb_110_6, eb_110_7, eb_110_8, eb_110_9, eb_110_11, kl_a, kl_d, kl_f, kl_i, kl_l, kl_n, kl_r, xr_1, xr_10, xr_2, xr_27, xr_28, xr_29, xr_3, xr_30, xr_31, xr_32, xr_33, xr_34, xr_37, xr_38, xr_4, xr_40, xr_41, xr_42, xr_43, xr_44, xr_5, xr_58, xr_64, xr_71, xr_74, xr_75, af_0, af_1, xt_goto, xt_ib, xt_ic, xt_ic_ge, xt_if_eq, xt_ir, xt_nop, gF_37_0, gF_37_2, gF_1_2, gF_1_5, gF_1_6, gA_2, gA_3, gA_4, gA_5, gA_6, gA_7, gA_8, gA_9, gA_10, gA_11, gA_13, gA_14, gA_16, gA_17, gA_20, gA_21, gA_22, gA_23, gA_24, gA_25, gA_26, gA_27, gA_30, gA_31, gA_32, gA_33, gA_34, gA_35, gA_36, gA_38, gA_39, gA_41, gA_42, gA_46, gA_47, gA_49, gA_50, gA_51, gA_53, gA_56, gA_57, gA_59, gA_60, gW_2, gW_3, gW_4, gW_5, gW_6, gW_7, gW_8, gW_9, gW_10, gW_11, gW_13, gW_14, gW_16, gW_17, gW_20, gW_21, gW_22, gW_23, gW_24, gW_25, gW_26, gW_27, gW_30, gW_31, gW_32, gW_33, gW_34, gW_35, gW_36, gW_38, gW_39, gW_41, gW_42, gW_46, gW_47, gW_49, gW_50, gW_51, gW_53, gW_56, gW_57, gW_59, gW_60, xq_106_10_virtualc, xq_111_10_virtualc, iN_add, iN_mul, iN_sub, iN_and, iN_or, iN_clr, iN_shl, iN_shr, tb_r1, b1_z, b1_or, b1_and, b1_or0, b1_or1, b1_0or, b1_t, b1_f, iN_lt, iN_inj, reduceIte, if_true, if_false, Nat.zero_add, Nat.add_zero, Bool.false_eq_true, Bool.true_eq_false, Nat.lt_irrefl, iN_az, not_true_eq_false, not_false_eq_true, Nat.reduceEqDiff, Nat.reduceLT, Nat.reduceAdd, Nat.reduceMul, Nat.reduceSub]
                    exact e
                  · by_cases hp : Pt σ (M 23) Y l s r o
                    · exact hp
                    · have := q.mpr ⟨o, ho, hne, hp⟩
                      cases this
                · have hDR : DR σ T Y (u1 Y l (clr (Y l) (1 <<< (s * 3 + r)))) true := by
                    refine DR_1 hl hw h1 fun X hX hS => ?_
                    obtain ⟨o, ho, hne, hp⟩ := q.mp rfl
                    cases hx : (X l).testBit (s * 3 + r)
                    · rfl
                    · obtain ⟨i, z1, z2, r2, z3, z4, z5⟩   := hTT X hX l hl s hs r hr hx o ho hne
                      exact absurd ⟨i, z1, z2, r2, z3, hS o ho _ z4, z5⟩ hp
                  obtain ⟨Z, b, e, q1, q2⟩ := ih3 _ (Su_lt hDR.1 hY) true
                  refine ⟨Z, true, ?_, by have := DR_t hDR q1; rwa [Bool.true_or] at this, fun h => by cases h⟩
                  rw [h1] at e1
                  rw [Bool.true_or] at e
                  rw [Bool.or_true]
                  clear q1 q2 ih1 ih2 ih3 q stay hDR
                  simp (disch := first | assumption | omega | exact st8_a (Nat.le_of_ble_eq_true rfl)) only [hr, e1, e2, ur_s, ur_up, eb_110_6, eb_110_7, eb_110_8, eb_110_9, eb_110_10, eb_110_11, kl_a, kl_d, kl_f, kl_i, kl_l, kl_n, kl_r, xr_1, xr_10, xr_2, xr_27, xr_28, xr_29, xr_3, xr_30, xr_31, xr_32, xr_33, xr_34, xr_37, xr_38, xr_4, xr_40, xr_41, xr_42, xr_43, xr_44, xr_5, xr_58, xr_64, xr_71, xr_74, xr_75, af_0, af_1, xt_goto, xt_ib, xt_ic, xt_ic_ge, xt_if_eq, xt_ir, xt_nop, gF_37_0, gF_37_2, gF_1_2, gF_1_5, gF_1_6, gA_2, gA_3, gA_4, gA_5, gA_6, gA_7, gA_8, gA_9, gA_10, gA_11, gA_13, gA_14, gA_16, gA_17, gA_20, gA_21, gA_22, gA_23, gA_24, gA_25, gA_26, gA_27, gA_30, gA_31, gA_32, gA_33, gA_34, gA_35, gA_36, gA_38, gA_39, gA_41, gA_42, gA_46, gA_47, gA_49, gA_50, gA_51, gA_53, gA_56, gA_57, gA_59, gA_60, gW_2, gW_3, gW_4, gW_5, gW_6, gW_7, gW_8, gW_9, gW_10, gW_11, gW_13, gW_14, gW_16, gW_17, gW_20, gW_21, gW_22, gW_23, gW_24, gW_25, gW_26, gW_27, gW_30, gW_31, gW_32, gW_33, gW_34, gW_35, gW_36, gW_38, gW_39, gW_41, gW_42, gW_46, gW_47, gW_49, gW_50, gW_51, gW_53, gW_56, gW_57, gW_59, gW_60, xq_106_10_virtualc, xq_111_10_virtualc, iN_add, iN_mul, iN_sub, iN_and, iN_or, iN_clr, iN_shl, iN_shr, tb_r1, b1_z, b1_or, b1_and, b1_or0, b1_or1, b1_0or, b1_t, b1_f, iN_lt, iN_inj, reduceIte, if_true, if_false, Nat.zero_add, Nat.add_zero, Bool.false_eq_true, Bool.true_eq_false, Nat.lt_irrefl, iN_az, not_true_eq_false, not_false_eq_true, Nat.reduceEqDiff, Nat.reduceLT, Nat.reduceAdd, Nat.reduceMul, Nat.reduceSub]
                  exact e
          obtain ⟨Z, b, e, q1, q2⟩ := k3 0 (Nat.zero_le _) Y hY a
          refine ⟨Z, b, ?_, q1, fun h l' h1 s' h2 r' h3 h4 => q2 h l' h1 s' h2 r' h3 (by omega)⟩
          rw [eb_110_3]
          clear q1 q2 ih1 ih2 k3
          simp (disch := first | assumption | omega | exact st8_a (Nat.le_of_ble_eq_true rfl)) only [hs, eb_110_4, kl_a, kl_d, kl_f, kl_i, kl_l, kl_n, kl_r, xr_1, xr_10, xr_2, xr_27, xr_28, xr_29, xr_3, xr_30, xr_31, xr_32, xr_33, xr_34, xr_37, xr_38, xr_4, xr_40, xr_41, xr_42, xr_43, xr_44, xr_5, xr_58, xr_64, xr_71, xr_74, xr_75, af_0, af_1, xt_goto, xt_ib, xt_ic, xt_ic_ge, xt_if_eq, xt_ir, xt_nop, gF_37_0, gF_37_2, gF_1_2, gF_1_5, gF_1_6, gA_2, gA_3, gA_4, gA_5, gA_6, gA_7, gA_8, gA_9, gA_10, gA_11, gA_13, gA_14, gA_16, gA_17, gA_20, gA_21, gA_22, gA_23, gA_24, gA_25, gA_26, gA_27, gA_30, gA_31, gA_32, gA_33, gA_34, gA_35, gA_36, gA_38, gA_39, gA_41, gA_42, gA_46, gA_47, gA_49, gA_50, gA_51, gA_53, gA_56, gA_57, gA_59, gA_60, gW_2, gW_3, gW_4, gW_5, gW_6, gW_7, gW_8, gW_9, gW_10, gW_11, gW_13, gW_14, gW_16, gW_17, gW_20, gW_21, gW_22, gW_23, gW_24, gW_25, gW_26, gW_27, gW_30, gW_31, gW_32, gW_33, gW_34, gW_35, gW_36, gW_38, gW_39, gW_41, gW_42, gW_46, gW_47, gW_49, gW_50, gW_51, gW_53, gW_56, gW_57, gW_59, gW_60, xq_106_10_virtualc, xq_111_10_virtualc, iN_add, iN_mul, iN_sub, iN_and, iN_or, iN_clr, iN_shl, iN_shr, tb_r1, b1_z, b1_or, b1_and, b1_or0, b1_or1, b1_0or, b1_t, b1_f, iN_lt, iN_inj, reduceIte, if_true, if_false, Nat.zero_add, Nat.add_zero, Bool.false_eq_true, Bool.true_eq_false, Nat.lt_irrefl, iN_az, not_true_eq_false, not_false_eq_true, Nat.reduceEqDiff, Nat.reduceLT, Nat.reduceAdd, Nat.reduceMul, Nat.reduceSub]
          exact e
      obtain ⟨Z, b, e, q1, q2⟩ := k2 0 (Nat.zero_le _) Y hY a z
      refine ⟨Z, b, ?_, q1, fun h l' h1 s' h2 r' h3 h4 => q2 h l' h1 s' h2 r' h3 (by omega)⟩
      rw [eb_110_1]
      clear q1 q2 ih1 k2
      simp (disch := first | assumption | omega | exact st8_a (Nat.le_of_ble_eq_true rfl)) only [hl, eb_110_2, kl_a, kl_d, kl_f, kl_i, kl_l, kl_n, kl_r, xr_1, xr_10, xr_2, xr_27, xr_28, xr_29, xr_3, xr_30, xr_31, xr_32, xr_33, xr_34, xr_37, xr_38, xr_4, xr_40, xr_41, xr_42, xr_43, xr_44, xr_5, xr_58, xr_64, xr_71, xr_74, xr_75, af_0, af_1, xt_goto, xt_ib, xt_ic, xt_ic_ge, xt_if_eq, xt_ir, xt_nop, gF_37_0, gF_37_2, gF_1_2, gF_1_5, gF_1_6, gA_2, gA_3, gA_4, gA_5, gA_6, gA_7, gA_8, gA_9, gA_10, gA_11, gA_13, gA_14, gA_16, gA_17, gA_20, gA_21, gA_22, gA_23, gA_24, gA_25, gA_26, gA_27, gA_30, gA_31, gA_32, gA_33, gA_34, gA_35, gA_36, gA_38, gA_39, gA_41, gA_42, gA_46, gA_47, gA_49, gA_50, gA_51, gA_53, gA_56, gA_57, gA_59, gA_60, gW_2, gW_3, gW_4, gW_5, gW_6, gW_7, gW_8, gW_9, gW_10, gW_11, gW_13, gW_14, gW_16, gW_17, gW_20, gW_21, gW_22, gW_23, gW_24, gW_25, gW_26, gW_27, gW_30, gW_31, gW_32, gW_33, gW_34, gW_35, gW_36, gW_38, gW_39, gW_41, gW_42, gW_46, gW_47, gW_49, gW_50, gW_51, gW_53, gW_56, gW_57, gW_59, gW_60, xq_106_10_virtualc, xq_111_10_virtualc, iN_add, iN_mul, iN_sub, iN_and, iN_or, iN_clr, iN_shl, iN_shr, tb_r1, b1_z, b1_or, b1_and, b1_or0, b1_or1, b1_0or, b1_t, b1_f, iN_lt, iN_inj, reduceIte, if_true, if_false, Nat.zero_add, Nat.add_zero, Bool.false_eq_true, Bool.true_eq_false, Nat.lt_irrefl, iN_az, not_true_eq_false, not_false_eq_true, Nat.reduceEqDiff, Nat.reduceLT, Nat.reduceAdd, Nat.reduceMul, Nat.reduceSub]
      exact e
  obtain ⟨Z, b, e, q1, q2⟩ := k1 0 (Nat.zero_le _) Y hY false (.retAddr 9) (.retAddr 9)
  refine ⟨Z, b, ?_, q1, fun h l hl s hs r hr => q2 h l hl s hs r hr (Nat.zero_le _)⟩
  rw [Bool.false_or] at e
  clear q1 q2 k1
  simp (disch := first | assumption | omega | exact st8_a (Nat.le_of_ble_eq_true rfl)) only [eb_110_0, kl_a, kl_d, kl_f, kl_i, kl_l, kl_n, kl_r, xr_1, xr_10, xr_2, xr_27, xr_28, xr_29, xr_3, xr_30, xr_31, xr_32, xr_33, xr_34, xr_37, xr_38, xr_4, xr_40, xr_41, xr_42, xr_43, xr_44, xr_5, xr_58, xr_64, xr_71, xr_74, xr_75, af_0, af_1, xt_goto, xt_ib, xt_ic, xt_ic_ge, xt_if_eq, xt_ir, xt_nop, gF_37_0, gF_37_2, gF_1_2, gF_1_5, gF_1_6, gA_2, gA_3, gA_4, gA_5, gA_6, gA_7, gA_8, gA_9, gA_10, gA_11, gA_13, gA_14, gA_16, gA_17, gA_20, gA_21, gA_22, gA_23, gA_24, gA_25, gA_26, gA_27, gA_30, gA_31, gA_32, gA_33, gA_34, gA_35, gA_36, gA_38, gA_39, gA_41, gA_42, gA_46, gA_47, gA_49, gA_50, gA_51, gA_53, gA_56, gA_57, gA_59, gA_60, gW_2, gW_3, gW_4, gW_5, gW_6, gW_7, gW_8, gW_9, gW_10, gW_11, gW_13, gW_14, gW_16, gW_17, gW_20, gW_21, gW_22, gW_23, gW_24, gW_25, gW_26, gW_27, gW_30, gW_31, gW_32, gW_33, gW_34, gW_35, gW_36, gW_38, gW_39, gW_41, gW_42, gW_46, gW_47, gW_49, gW_50, gW_51, gW_53, gW_56, gW_57, gW_59, gW_60, xq_106_10_virtualc, xq_111_10_virtualc, iN_add, iN_mul, iN_sub, iN_and, iN_or, iN_clr, iN_shl, iN_shr, tb_r1, b1_z, b1_or, b1_and, b1_or0, b1_or1, b1_0or, b1_t, b1_f, iN_lt, iN_inj, reduceIte, if_true, if_false, Nat.zero_add, Nat.add_zero, Bool.false_eq_true, Bool.true_eq_false, Nat.lt_irrefl, iN_az, not_true_eq_false, not_false_eq_true, Nat.reduceEqDiff, Nat.reduceLT, Nat.reduceAdd, Nat.reduceMul, Nat.reduceSub]
  exact e
end Vb
