/-! A QUESTION'S MEANING; the class Search, its small methods -/
def bf1 (H D i n y : Nat) : Bool := !(decide (1 ≤ H) && (decide (n = 1 ∨ n = 2) && (decide (i < D * H) && (decide (n = 1 ∨ (if i < H then i else i - H) + 1 < H) && (decide (y < D) && !decide (y = (if i < H then 0 else 1))))))) || decide (((if n = 2 ∧ i + 1 < D * H then 3 else 1) <<< i) &&& (((1 <<< H) - 1) <<< (y * H)) = 0)
set_option maxRecDepth 100000 in
theorem bf_1 : ∀ H, H < 4 → ∀ D, D < 3 → ∀ i, i < 6 → ∀ n, n < 3 → ∀ y, y < 2 → bf1 H D i n y = true := by decide +kernel
set_option maxRecDepth 100000 in
theorem bf_2 : ∀ c, c < 64 → ∀ H, H < 4 → ∀ y, y < 2 → (H = 0 ∨ decide ((c &&& (((1 <<< H) - 1) <<< (y * H))) >>> (y * H) = 5) = (decide (H = 3) && (c.testBit (y * H) && (!c.testBit (y * H + 1) && c.testBit (y * H + 2))))) := by decide +kernel
set_option maxRecDepth 100000 in
theorem bf_3 : ∀ H, H < 4 → ∀ y, y < 2 → pc 10 (((1 <<< H) - 1) <<< (y * H)) ≤ H := by decide +kernel
set_option maxRecDepth 100000 in
theorem sm_mono {n : Nat} {f g : Nat → Nat} (h : ∀ i, i < n → f i ≤ g i) : sm n f ≤ sm n g := by
  induction n with
  | zero => exact Nat.le_refl _
  | succ n ih =>
    have h1 := ih fun i hi => h i (by omega)
    have h2 := h n (by omega)
    rw [sm, sm]
    omega
set_option maxRecDepth 100000 in
theorem sm_add {n : Nat} (f g : Nat → Nat) : sm n (fun i => f i + g i) = sm n f + sm n g := by
  induction n with
  | zero => rfl
  | succ n ih => rw [sm, sm, sm, ih]; omega
set_option maxRecDepth 100000 in
theorem sm_sub {n : Nat} {f g : Nat → Nat} (h : ∀ i, i < n → g i ≤ f i) : sm n (fun i => f i - g i) + sm n g = sm n f := by
  rw [← sm_add]
  exact sm_cg fun i hi => Nat.sub_add_cancel (h i hi)
set_option maxRecDepth 100000 in
theorem sm_1 {n : Nat} {f : Nat → Nat} (h1 : ∀ i, i < n → f i ≤ 1) (h : sm n f = n) : ∀ i, i < n → f i = 1 := by
  induction n with
  | zero => intro i hi; omega
  | succ n ih =>
    have h2 := sm_le (n := n) (c := 1) (f := f) fun i hi => h1 i (by omega)
    have h3 := h1 n (by omega)
    rw [sm] at h
    intro i hi
    by_cases e : i = n
    · subst e; omega
    · exact ih (fun i hi => h1 i (by omega)) (by omega) i (by omega)
set_option maxRecDepth 100000 in
theorem sm_0 {n : Nat} {f : Nat → Nat} (h : sm n f < n) : ∃ i, i < n ∧ f i = 0 := by
  induction n with
  | zero => omega
  | succ n ih =>
    rw [sm] at h
    by_cases e : f n = 0
    · exact ⟨n, by omega, e⟩
    · obtain ⟨i, hi, h2⟩ := ih (by omega)
      exact ⟨i, by omega, h2⟩
set_option maxRecDepth 100000 in
theorem sm_u {n l : Nat} {f g : Nat → Nat} (hl : l < n) (h : ∀ i, i < n → i ≠ l → f i = g i) : sm n f + g l = sm n g + f l := by
  induction n with
  | zero => omega
  | succ n ih =>
    rw [sm, sm]
    by_cases e : l = n
    · subst e
      rw [sm_cg (f := f) (g := g) fun i hi => h i (by omega) (by omega)]
      omega
    · have := ih (by omega) fun i hi => h i (by omega)
      rw [h n (by omega) (by omega)]
      omega
set_option maxRecDepth 100000 in
theorem pc_sub {n a b : Nat} (h : ∀ i, a.testBit i = true → b.testBit i = true) : pc n a ≤ pc n b := by
  rw [pc_sm, pc_sm]
  refine sm_mono fun i _ => ?_
  cases h1 : a.testBit i
  · exact Nat.zero_le _
  · rw [h i h1]
    exact Nat.le_refl _
section Sa
variable {σ M : Nat → Nat → Nat} {l o s i u q n t p depth : Nat}
set_option maxRecDepth 100000 in
theorem cov_tb {j : Nat} : (cov σ l i).testBit j = true ↔ j = i ∨ (σ 7 l = 2 ∧ i + 1 < (σ 1 2) ∧ j = i + 1) := by
  unfold cov
  split
  · rename_i h
    rw [Nat.testBit_shiftLeft]
    simp only [Bool.and_eq_true, decide_eq_true_eq, ge_iff_le]
    have : (3 : Nat).testBit (j - i) = true ↔ j - i < 2 := by
      have := Nat.testBit_two_pow_sub_one 2 (j - i)
      rw [show (2 : Nat) ^ 2 - 1 = 3 from rfl] at this
      rw [this]
      simp
    rw [this]
    omega
  · rename_i h
    rw [tb_1s]
    simp only [decide_eq_true_eq]
    omega
set_option maxRecDepth 100000 in
theorem cov_dy (O : Ok σ) (hl : l < (σ 1 6)) (hi : i < (σ 1 2)) (hs : sty σ l i = true) {y : Nat} (hy : y < (σ 1 0)) (hne : y ≠ dy σ i) : cov σ l i &&& dm σ y = 0 := by
  obtain ⟨hD1, hD2, hH1, hH2, hS, hC, hT, hR, hL, hQ⟩ := Ok_b O
  obtain ⟨h1, h2, h3⟩ := Ok_l O hl
  have h4 : (σ 1 2) = (σ 1 0) * (σ 1 1) := O.2.2.1
  unfold sty hou at hs
  rw [Bool.or_eq_true, decide_eq_true_eq, decide_eq_true_eq] at hs
  unfold dy at hne
  unfold cov dm
  rw [h4] at hi ⊢
  have h := bf_1 (σ 1 1) (by omega) (σ 1 0) (by omega) i (by omega) (σ 7 l) (by omega) y (by omega)
  unfold bf1 at h
  rw [decide_eq_true (show 1 ≤ (σ 1 1) by omega), decide_eq_true h3, decide_eq_true hi, decide_eq_true hs, decide_eq_true hy, decide_eq_false hne] at h
  simpa using h
set_option maxRecDepth 100000 in
theorem gap_b (O : Ok σ) {c : Nat} (hc : c < 64) {y : Nat} (hy : y < (σ 1 0)) : (c &&& dm σ y) >>> (y * (σ 1 1)) = 5 ↔ (σ 1 1) = 3 ∧ c.testBit (y * (σ 1 1)) = true ∧ c.testBit (y * (σ 1 1) + 1) = false ∧ c.testBit (y * (σ 1 1) + 2) = true := by
  obtain ⟨hD1, hD2, hH1, hH2, hS, hC, hT, hR, hL, hQ⟩ := Ok_b O
  have h := (bf_2 c hc (σ 1 1) (by omega) y (by omega)).resolve_left (by omega)
  rw [Bool.eq_iff_iff] at h
  unfold dm
  simpa using h
set_option maxRecDepth 100000 in
theorem pc_dm (O : Ok σ) (c : Nat) {y : Nat} (hy : y < (σ 1 0)) : pc 10 (c &&& dm σ y) ≤ (σ 1 1) := by
  obtain ⟨hD1, hD2, hH1, hH2, hS, hC, hT, hR, hL, hQ⟩ := Ok_b O
  refine Nat.le_trans (pc_sub (b := dm σ y) fun i hi => ?_) (bf_3 (σ 1 1) (by omega) y (by omega))
  rw [Nat.testBit_and, Bool.and_eq_true] at hi
  exact hi.2
/-- a question whose rows are as they shall be -/
def QW (σ M : Nat → Nat → Nat) : Prop :=
  (∀ l, l < (σ 1 6) → ∀ i, (M 20 l).testBit i = true → i < (σ 1 2) ∧ sty σ l i = true) ∧
  (∀ l, l < (σ 1 6) → ∀ i, (M 21 l).testBit i = true → i < (σ 1 5)) ∧
  (∀ l s o i, l < (σ 1 6) → o < (σ 1 6) → l ≠ o → s < (σ 1 2) → fb (M 23) l s o i = true → i < (σ 1 2) ∧ fb (M 23) o i l s = true ∧ (stc σ l o = true → cov σ l s &&& cov σ o i = 0)) ∧
  (∀ t, t < (σ 1 4) → M 22 t ≤ 3) ∧
  (∀ l, l < (σ 1 6) → ∀ s, s < (σ 1 2) → M 25 (l * 6 + s) = cov σ l s) ∧ M 19 9 = lh σ ∧ M 19 10 ≤ 3 ∧
  (∀ j, M 26 j ≤ 27) ∧ (∀ l, l < (σ 1 6) → SC σ M l) ∧ ((M 19 10 = 0 ∨ M 19 10 = 3) → ∀ j, M 26 j = 0)
/-- the slots that a teacher's lessons cover keep the limits of the days -/
def DLm (σ M : Nat → Nat → Nat) (t c : Nat) : Prop := ∀ y, y < (σ 1 0) → pc 10 (c &&& dm σ y) ≤ M 22 t
/-- the timetables that a question allows -/
def QA (σ M : Nat → Nat → Nat) (s r : Nat → Nat) : Prop :=
  (∀ l, l < (σ 1 6) → (M 20 l).testBit (s l) = true ∧ (M 21 l).testBit (r l) = true) ∧
  (∀ l o, l < (σ 1 6) → o < (σ 1 6) → l ≠ o → fb (M 23) l (s l) o (s o) = true ∧ (cov σ l (s l) &&& cov σ o (s o) ≠ 0 → r l ≠ r o)) ∧
  (∀ t, t < (σ 1 4) → DLm σ M t (ctc σ s t))
def gco (σ M : Nat → Nat → Nat) (s : Nat → Nat) : Nat := if M 19 10 = 1 then σ 11 2 * sm (σ 1 4) (fun t => gap σ (ctc σ s t)) else if M 19 10 = 3 then sm (σ 1 4) (fun t => 5 ^ shr σ s t) else 0
def kco (σ M : Nat → Nat → Nat) (s : Nat → Nat) : Nat := sm (σ 1 6) fun l => M 27 (l * 6 + s l)
/-- what a timetable costs -/
def QC (σ M : Nat → Nat → Nat) (s r : Nat → Nat) : Nat := sm (σ 1 6) (fun l => M 26 (vi l (s l) (r l))) + gco σ M s
/-- what the lessons with slots cover -/
def usd (σ M : Nat → Nat → Nat) (p t : Nat) : Nat := orn (σ 1 6) fun l => if p.testBit l = true ∧ σ 6 l = t then cov σ l (M 34 l) else 0
/-- the lessons p have slots; the row at a depth is right -/
def PS (σ M : Nat → Nat → Nat) (depth p : Nat) : Prop :=
  (∀ l, l < (σ 1 6) → p.testBit l = true → (M 20 l).testBit (M 34 l) = true) ∧
  (∀ l o, l < (σ 1 6) → o < (σ 1 6) → l ≠ o → p.testBit l = true → p.testBit o = true → fb (M 23) l (M 34 l) o (M 34 o) = true) ∧
  (∀ t, t < (σ 1 4) → M 36 t = usd σ M p t) ∧ (∀ t, t < (σ 1 4) → DLm σ M t (M 36 t)) ∧
  (∀ l, l < (σ 1 6) → p.testBit l = false → ∀ i, (M 32 (depth * 6 + l)).testBit i = true ↔ (M 20 l).testBit i = true ∧ (∀ o, o < (σ 1 6) → p.testBit o = true → fb (M 23) o (M 34 o) l i = true) ∧ DLm σ M (σ 6 l) (M 36 (σ 6 l) ||| cov σ l i))
def OS (σ M : Nat → Nat → Nat) (depth p : Nat) : Prop := depth ≤ (σ 1 6) ∧ p < 64 ∧ (∀ k, k < depth → M 33 k < (σ 1 6) ∧ p.testBit (M 33 k) = true) ∧ (∀ j k, j < k → k < depth → M 33 j ≠ M 33 k) ∧ (∀ l, l < (σ 1 6) → p.testBit l = true → ∃ k, k < depth ∧ M 33 k = l) ∧ sm (σ 1 6) (fun l => b1 (p.testBit l)) = depth
set_option maxRecDepth 100000 in
theorem QW_20 (O : Ok σ) (hW : QW σ M) (hl : l < (σ 1 6)) : M 20 l < 64 := by
  obtain ⟨hD1, hD2, hH1, hH2, hS, hC, hT, hR, hL, hQ⟩ := Ok_b O
  have h1 := mask_lt (n := (σ 1 2)) fun i hi => (hW.1 l hl i hi).1
  have h2 : 2 ^ (σ 1 2) ≤ 2 ^ 6 := Nat.pow_le_pow_right (by decide) (by omega)
  omega
set_option maxRecDepth 100000 in
theorem QW_21 (O : Ok σ) (hW : QW σ M) (hl : l < (σ 1 6)) : M 21 l < 8 := by
  obtain ⟨hD1, hD2, hH1, hH2, hS, hC, hT, hR, hL, hQ⟩ := Ok_b O
  have h1 := mask_lt (n := (σ 1 5)) fun i hi => hW.2.1 l hl i hi
  have h2 : 2 ^ (σ 1 5) ≤ 2 ^ 3 := Nat.pow_le_pow_right (by decide) (by omega)
  omega
set_option maxRecDepth 100000 in
theorem QW_23 (O : Ok σ) (hW : QW σ M) (hl : l < (σ 1 6)) (ho : o < (σ 1 6)) (hne : l ≠ o) (hs : s < (σ 1 2)) : M 23 (pi l s o) < 64 := by
  obtain ⟨hD1, hD2, hH1, hH2, hS, hC, hT, hR, hL, hQ⟩ := Ok_b O
  have h1 := mask_lt (n := (σ 1 2)) fun i hi => (hW.2.2.1 l s o i hl ho hne hs hi).1
  have h2 : 2 ^ (σ 1 2) ≤ 2 ^ 6 := Nat.pow_le_pow_right (by decide) (by omega)
  omega
set_option maxRecDepth 100000 in
theorem usd_lt (O : Ok σ) (h : ∀ l, l < (σ 1 6) → p.testBit l = true → M 34 l < (σ 1 2)) : usd σ M p t < 64 := by
  refine orn_lt (e := 6) fun i hi => ?_
  split
  · rename_i hh
    exact cov_lt O (h i hi hh.1)
  · decide
end Sa
section Sb
variable {xs : List Int32} {d : Nat} {σ M : Nat → Nat → Nat} {R h : ab_H} {l o s i u q n k t p depth : Nat}
set_option maxRecDepth 100000 in
theorem s_82 (O : Ok σ) (hl : l < (σ 1 6)) (hu : M 36 (σ 6 l) < 64) (h22 : M 22 (σ 6 l) ≤ 3) (hc25 : ∀ s, s < (σ 1 2) → M 25 (l * 6 + s) = cov σ l s) {sl : Nat} : ∃ x, ev xs (d + 1) 82 0 ([.ref 28, .int (nI l), .int (nI sl), .retAddr 9, .retAddr 9, .retAddr 9, .retAddr 9, .retAddr 9], [], hc σ M R) = some (.inl (some (.int (nI (x)))), hc σ M R) ∧ ∀ i, x.testBit i = (sl.testBit i && !(decide (M 22 (σ 6 l) < (σ 1 1)) && (decide (i < (σ 1 2)) && decide (M 22 (σ 6 l) < pc 10 ((M 36 (σ 6 l) ||| cov σ l i) &&& dm σ (dy σ i)))))) := by
  obtain ⟨hD1, hD2, hH1, hH2, hS, hC, hT, hR, hL, hQ⟩ := Ok_b O
  obtain ⟨k1, k2, k3⟩ := Ok_l O hl
  by_cases h1 : M 22 (σ 6 l) < (σ 1 1)
  · have key : ∀ k, k ≤ (σ 1 2) → ∀ x0 y, (∀ i, x0.testBit i = (sl.testBit i && !(decide (i < k) && decide (M 22 (σ 6 l) < pc 10 ((M 36 (σ 6 l) ||| cov σ l i) &&& dm σ (dy σ i)))))) → ∃ x, ev xs (d + 1) 82 3 ([.ref 28, .int (nI l), .int (nI sl), .int (nI (σ 6 l)), .int (nI (M 22 (σ 6 l))), .int (nI x0), .int (nI k), y], [], hc σ M R) = some (.inl (some (.int (nI (x)))), hc σ M R) ∧ ∀ i, x.testBit i = (sl.testBit i && !(decide (M 22 (σ 6 l) < (σ 1 1)) && (decide (i < (σ 1 2)) && decide (M 22 (σ 6 l) < pc 10 ((M 36 (σ 6 l) ||| cov σ l i) &&& dm σ (dy σ i)))))) := by
      refine lp (σ 1 2) ?_ ?_
      · intro x0 y hx
        refine ⟨x0, ?_, fun i => by rw [hx i]; simp [h1]⟩
        rw [eb_82_3]
        simp (disch := first | assumption | omega | exact st8_a (Nat.le_of_ble_eq_true rfl)) only [eb_82_0, eb_82_1, eb_82_2, eb_82_4, eb_82_5, eb_82_6, eb_82_7, eb_82_8, eb_82_9, eb_82_10, kl_a, kl_d, kl_f, kl_i, kl_l, kl_n, kl_r, xr_1, xr_10, xr_2, xr_27, xr_28, xr_3, xr_31, xr_32, xr_33, xr_34, xr_35, xr_36, xr_37, xr_38, xr_4, xr_41, xr_44, xr_45, xr_48, xr_5, xr_56, xr_57, xr_58, xr_61, xr_62, xr_63, xr_64, xr_75, af_0, af_1, xt_goto, xt_ib, xt_ic, xt_ic_ge, xt_ic_le, xt_ic_lt, xt_ir, xt_nop, gF_19_3, gF_19_6, gF_1_1, gF_1_13, gF_1_2, gF_28_0, gF_28_1, gF_28_7, gA_2, gA_3, gA_4, gA_5, gA_6, gA_7, gA_8, gA_9, gA_10, gA_11, gA_13, gA_14, gA_16, gA_17, gA_20, gA_21, gA_22, gA_23, gA_24, gA_25, gA_26, gA_27, gA_30, gA_31, gA_32, gA_33, gA_34, gA_35, gA_36, gA_38, gA_39, gA_41, gA_42, gA_46, gA_47, gA_49, gA_50, gA_51, gA_53, gA_56, gA_57, gA_59, gA_60, xq_277_200_static, xq_58_6_virtualc, xq_60_6_virtualc, iN_add, iN_mul, iN_sub, iN_and, iN_or, iN_clr, iN_shl, iN_shr, tb_r1, b1_z, b1_or, b1_and, b1_or0, b1_or1, b1_0or, b1_t, b1_f, iN_lt, iN_inj, reduceIte, if_true, if_false, Nat.zero_add, Nat.add_zero, Bool.false_eq_true, Bool.true_eq_false, Nat.lt_irrefl, iN_az, not_true_eq_false, not_false_eq_true, Nat.reduceEqDiff, Nat.reduceLT, Nat.reduceAdd, Nat.reduceMul, Nat.reduceSub]
      · intro k hk ih x0 y hx
        have c1 := cov_lt O (l := l) hk
        have c2 : (M 36 (σ 6 l) ||| cov σ l k) < 2 ^ 6 := or_lt (n := 6) hu c1
        have c3 : (M 36 (σ 6 l) ||| cov σ l k) &&& dm σ (dy σ k) < 1024 := Nat.lt_of_le_of_lt Nat.and_le_left (by omega)
        have c4 : dy σ k < (σ 1 0) := by unfold dy; split <;> omega
        have c5 := pc_le 10 ((M 36 (σ 6 l) ||| cov σ l k) &&& dm σ (dy σ k))
        have e1 := hc25 k hk
        rw [eb_82_3]
        by_cases h2 : M 22 (σ 6 l) < pc 10 ((M 36 (σ 6 l) ||| cov σ l k) &&& dm σ (dy σ k))
        · obtain ⟨x, e, q⟩ := ih (clr x0 (1 <<< k)) (.int (nI (M 36 (σ 6 l) ||| cov σ l k))) fun i => by
            rw [clr_b, hx i]
            by_cases hi : i = k
            · subst hi; simp [h2]
            · simp [hi, show (i < k + 1) ↔ (i < k) by omega]
          refine ⟨x, ?_, q⟩
          simp (disch := first | assumption | omega | exact st8_a (Nat.le_of_ble_eq_true rfl)) only [hk, e1, s_58 O hk, s_60 O c4, s_277 c3, h2, eb_82_0, eb_82_1, eb_82_2, eb_82_4, eb_82_5, eb_82_6, eb_82_7, eb_82_8, eb_82_9, eb_82_10, kl_a, kl_d, kl_f, kl_i, kl_l, kl_n, kl_r, xr_1, xr_10, xr_2, xr_27, xr_28, xr_3, xr_31, xr_32, xr_33, xr_34, xr_35, xr_36, xr_37, xr_38, xr_4, xr_41, xr_44, xr_45, xr_48, xr_5, xr_56, xr_57, xr_58, xr_61, xr_62, xr_63, xr_64, xr_75, af_0, af_1, xt_goto, xt_ib, xt_ic, xt_ic_ge, xt_ic_le, xt_ic_lt, xt_ir, xt_nop, gF_19_3, gF_19_6, gF_1_1, gF_1_13, gF_1_2, gF_28_0, gF_28_1, gF_28_7, gA_2, gA_3, gA_4, gA_5, gA_6, gA_7, gA_8, gA_9, gA_10, gA_11, gA_13, gA_14, gA_16, gA_17, gA_20, gA_21, gA_22, gA_23, gA_24, gA_25, gA_26, gA_27, gA_30, gA_31, gA_32, gA_33, gA_34, gA_35, gA_36, gA_38, gA_39, gA_41, gA_42, gA_46, gA_47, gA_49, gA_50, gA_51, gA_53, gA_56, gA_57, gA_59, gA_60, xq_277_200_static, xq_58_6_virtualc, xq_60_6_virtualc, iN_add, iN_mul, iN_sub, iN_and, iN_or, iN_clr, iN_shl, iN_shr, tb_r1, b1_z, b1_or, b1_and, b1_or0, b1_or1, b1_0or, b1_t, b1_f, iN_lt, iN_inj, reduceIte, if_true, if_false, Nat.zero_add, Nat.add_zero, Bool.false_eq_true, Bool.true_eq_false, Nat.lt_irrefl, iN_az, not_true_eq_false, not_false_eq_true, Nat.reduceEqDiff, Nat.reduceLT, Nat.reduceAdd, Nat.reduceMul, Nat.reduceSub]
          exact e
        · obtain ⟨x, e, q⟩ := ih x0 (.int (nI (M 36 (σ 6 l) ||| cov σ l k))) fun i => by
            rw [hx i]
            by_cases hi : i = k
            · subst hi; simp [h2]
            · simp [show (i < k + 1) ↔ (i < k) by omega]
          refine ⟨x, ?_, q⟩
          simp (disch := first | assumption | omega | exact st8_a (Nat.le_of_ble_eq_true rfl)) only [hk, e1, s_58 O hk, s_60 O c4, s_277 c3, h2, eb_82_0, eb_82_1, eb_82_2, eb_82_4, eb_82_5, eb_82_6, eb_82_7, eb_82_8, eb_82_9, eb_82_10, kl_a, kl_d, kl_f, kl_i, kl_l, kl_n, kl_r, xr_1, xr_10, xr_2, xr_27, xr_28, xr_3, xr_31, xr_32, xr_33, xr_34, xr_35, xr_36, xr_37, xr_38, xr_4, xr_41, xr_44, xr_45, xr_48, xr_5, xr_56, xr_57, xr_58, xr_61, xr_62, xr_63, xr_64, xr_75, af_0, af_1, xt_goto, xt_ib, xt_ic, xt_ic_ge, xt_ic_le, xt_ic_lt, xt_ir, xt_nop, gF_19_3, gF_19_6, gF_1_1, gF_1_13, gF_1_2, gF_28_0, gF_28_1, gF_28_7, gA_2, gA_3, gA_4, gA_5, gA_6, gA_7, gA_8, gA_9, gA_10, gA_11, gA_13, gA_14, gA_16, gA_17, gA_20, gA_21, gA_22, gA_23, gA_24, gA_25, gA_26, gA_27, gA_30, gA_31, gA_32, gA_33, gA_34, gA_35, gA_36, gA_38, gA_39, gA_41, gA_42, gA_46, gA_47, gA_49, gA_50, gA_51, gA_53, gA_56, gA_57, gA_59, gA_60, xq_277_200_static, xq_58_6_virtualc, xq_60_6_virtualc, iN_add, iN_mul, iN_sub, iN_and, iN_or, iN_clr, iN_shl, iN_shr, tb_r1, b1_z, b1_or, b1_and, b1_or0, b1_or1, b1_0or, b1_t, b1_f, iN_lt, iN_inj, reduceIte, if_true, if_false, Nat.zero_add, Nat.add_zero, Bool.false_eq_true, Bool.true_eq_false, Nat.lt_irrefl, iN_az, not_true_eq_false, not_false_eq_true, Nat.reduceEqDiff, Nat.reduceLT, Nat.reduceAdd, Nat.reduceMul, Nat.reduceSub]
          exact e
    obtain ⟨x, e, q⟩ := key 0 (Nat.zero_le _) sl (.retAddr 9) fun i => by simp
    refine ⟨x, ?_, q⟩
    simp (disch := first | assumption | omega | exact st8_a (Nat.le_of_ble_eq_true rfl)) only [h1, eb_82_0, eb_82_1, eb_82_2, eb_82_4, eb_82_5, eb_82_6, eb_82_7, eb_82_8, eb_82_9, eb_82_10, kl_a, kl_d, kl_f, kl_i, kl_l, kl_n, kl_r, xr_1, xr_10, xr_2, xr_27, xr_28, xr_3, xr_31, xr_32, xr_33, xr_34, xr_35, xr_36, xr_37, xr_38, xr_4, xr_41, xr_44, xr_45, xr_48, xr_5, xr_56, xr_57, xr_58, xr_61, xr_62, xr_63, xr_64, xr_75, af_0, af_1, xt_goto, xt_ib, xt_ic, xt_ic_ge, xt_ic_le, xt_ic_lt, xt_ir, xt_nop, gF_19_3, gF_19_6, gF_1_1, gF_1_13, gF_1_2, gF_28_0, gF_28_1, gF_28_7, gA_2, gA_3, gA_4, gA_5, gA_6, gA_7, gA_8, gA_9, gA_10, gA_11, gA_13, gA_14, gA_16, gA_17, gA_20, gA_21, gA_22, gA_23, gA_24, gA_25, gA_26, gA_27, gA_30, gA_31, gA_32, gA_33, gA_34, gA_35, gA_36, gA_38, gA_39, gA_41, gA_42, gA_46, gA_47, gA_49, gA_50, gA_51, gA_53, gA_56, gA_57, gA_59, gA_60, xq_277_200_static, xq_58_6_virtualc, xq_60_6_virtualc, iN_add, iN_mul, iN_sub, iN_and, iN_or, iN_clr, iN_shl, iN_shr, tb_r1, b1_z, b1_or, b1_and, b1_or0, b1_or1, b1_0or, b1_t, b1_f, iN_lt, iN_inj, reduceIte, if_true, if_false, Nat.zero_add, Nat.add_zero, Bool.false_eq_true, Bool.true_eq_false, Nat.lt_irrefl, iN_az, not_true_eq_false, not_false_eq_true, Nat.reduceEqDiff, Nat.reduceLT, Nat.reduceAdd, Nat.reduceMul, Nat.reduceSub]
    exact e
  · refine ⟨sl, ?_, fun i => by simp [h1]⟩
    simp (disch := first | assumption | omega | exact st8_a (Nat.le_of_ble_eq_true rfl)) only [h1, eb_82_0, eb_82_1, eb_82_2, eb_82_4, eb_82_5, eb_82_6, eb_82_7, eb_82_8, eb_82_9, eb_82_10, kl_a, kl_d, kl_f, kl_i, kl_l, kl_n, kl_r, xr_1, xr_10, xr_2, xr_27, xr_28, xr_3, xr_31, xr_32, xr_33, xr_34, xr_35, xr_36, xr_37, xr_38, xr_4, xr_41, xr_44, xr_45, xr_48, xr_5, xr_56, xr_57, xr_58, xr_61, xr_62, xr_63, xr_64, xr_75, af_0, af_1, xt_goto, xt_ib, xt_ic, xt_ic_ge, xt_ic_le, xt_ic_lt, xt_ir, xt_nop, gF_19_3, gF_19_6, gF_1_1, gF_1_13, gF_1_2, gF_28_0, gF_28_1, gF_28_7, gA_2, gA_3, gA_4, gA_5, gA_6, gA_7, gA_8, gA_9, gA_10, gA_11, gA_13, gA_14, gA_16, gA_17, gA_20, gA_21, gA_22, gA_23, gA_24, gA_25, gA_26, gA_27, gA_30, gA_31, gA_32, gA_33, gA_34, gA_35, gA_36, gA_38, gA_39, gA_41, gA_42, gA_46, gA_47, gA_49, gA_50, gA_51, gA_53, gA_56, gA_57, gA_59, gA_60, xq_277_200_static, xq_58_6_virtualc, xq_60_6_virtualc, iN_add, iN_mul, iN_sub, iN_and, iN_or, iN_clr, iN_shl, iN_shr, tb_r1, b1_z, b1_or, b1_and, b1_or0, b1_or1, b1_0or, b1_t, b1_f, iN_lt, iN_inj, reduceIte, if_true, if_false, Nat.zero_add, Nat.add_zero, Bool.false_eq_true, Bool.true_eq_false, Nat.lt_irrefl, iN_az, not_true_eq_false, not_false_eq_true, Nat.reduceEqDiff, Nat.reduceLT, Nat.reduceAdd, Nat.reduceMul, Nat.reduceSub]
set_option maxRecDepth 100000 in
theorem s_83 (O : Ok σ) (hd : depth < 6) (hp : p < 64) (hex : ∃ l, l < (σ 1 6) ∧ p.testBit l = false) (hdom : ∀ j, M 32 j < 64) : ∃ v, v < (σ 1 6) ∧ p.testBit v = false ∧ ev xs (d + 1) 83 0 ([.ref 28, .int (nI depth), .int (nI p), .retAddr 9, .retAddr 9, .retAddr 9, .retAddr 9], [], hc σ M R) = some (.inl (some (.int (nI (v)))), hc σ M R) := by
  obtain ⟨hD1, hD2, hH1, hH2, hS, hC, hT, hR, hL, hQ⟩ := Ok_b O
  have key : ∀ k, k ≤ (σ 1 6) → ∀ v0 f y, ((f = 7 ∧ ∀ l, l < k → p.testBit l = true) ∨ (f ≤ 6 ∧ v0 < (σ 1 6) ∧ p.testBit v0 = false)) → ∃ v, v < (σ 1 6) ∧ p.testBit v = false ∧ ev xs (d + 1) 83 1 ([.ref 28, .int (nI depth), .int (nI p), .int (nI v0), .int (nI f), .int (nI k), y], [], hc σ M R) = some (.inl (some (.int (nI (v)))), hc σ M R) := by
    refine lp (σ 1 6) ?_ ?_
    · rintro v0 f y (⟨rfl, h⟩ | ⟨h1, h2, h3⟩)
      · obtain ⟨l, hl, hh⟩ := hex
        rw [h l hl] at hh
        cases hh
      · refine ⟨v0, h2, h3, ?_⟩
        rw [eb_83_1]
        simp (disch := first | assumption | omega | exact st8_a (Nat.le_of_ble_eq_true rfl)) only [eb_83_0, eb_83_2, eb_83_3, eb_83_4, eb_83_5, eb_83_6, eb_83_7, kl_a, kl_d, kl_f, kl_i, kl_l, kl_n, kl_r, xr_1, xr_10, xr_2, xr_27, xr_28, xr_3, xr_31, xr_32, xr_33, xr_34, xr_35, xr_36, xr_37, xr_38, xr_39, xr_4, xr_41, xr_44, xr_48, xr_5, xr_55, xr_56, xr_57, xr_87, af_0, af_1, xt_goto, xt_ib, xt_ic, xt_ic_ge, xt_if_ne, xt_ir, xt_nop, gF_1_6, gF_28_0, gF_28_3, gA_2, gA_3, gA_4, gA_5, gA_6, gA_7, gA_8, gA_9, gA_10, gA_11, gA_13, gA_14, gA_16, gA_17, gA_20, gA_21, gA_22, gA_23, gA_24, gA_25, gA_26, gA_27, gA_30, gA_31, gA_32, gA_33, gA_34, gA_35, gA_36, gA_38, gA_39, gA_41, gA_42, gA_46, gA_47, gA_49, gA_50, gA_51, gA_53, gA_56, gA_57, gA_59, gA_60, xq_277_200_static, iN_add, iN_mul, iN_sub, iN_and, iN_or, iN_clr, iN_shl, iN_shr, tb_r1, b1_z, b1_or, b1_and, b1_or0, b1_or1, b1_0or, b1_t, b1_f, iN_lt, iN_inj, reduceIte, if_true, if_false, Nat.zero_add, Nat.add_zero, Bool.false_eq_true, Bool.true_eq_false, Nat.lt_irrefl, iN_az, not_true_eq_false, not_false_eq_true, Nat.reduceEqDiff, Nat.reduceLT, Nat.reduceAdd, Nat.reduceMul, Nat.reduceSub]
    · intro k hk ih v0 f y hv
      have h1 := hdom (depth * 6 + k)
      have h2 : M 32 (depth * 6 + k) < 1024 := by omega
      have h3 : pc 10 (M 32 (depth * 6 + k)) ≤ 6 := by
        rw [pc_ge (n := 6) h1 (by decide)]
        exact pc_le _ _
      have h4 : f < 8 := by omega
      rw [eb_83_1]
      cases h5 : p.testBit k
      · by_cases h6 : pc 10 (M 32 (depth * 6 + k)) < f
        · obtain ⟨w, q1, q2, e⟩ := ih k (pc 10 (M 32 (depth * 6 + k))) (.int (nI (pc 10 (M 32 (depth * 6 + k))))) (.inr ⟨h3, hk, h5⟩)
          refine ⟨w, q1, q2, ?_⟩
          simp (disch := first | assumption | omega | exact st8_a (Nat.le_of_ble_eq_true rfl)) only [hk, s_277 h2, h5, h6, eb_83_0, eb_83_2, eb_83_3, eb_83_4, eb_83_5, eb_83_6, eb_83_7, kl_a, kl_d, kl_f, kl_i, kl_l, kl_n, kl_r, xr_1, xr_10, xr_2, xr_27, xr_28, xr_3, xr_31, xr_32, xr_33, xr_34, xr_35, xr_36, xr_37, xr_38, xr_39, xr_4, xr_41, xr_44, xr_48, xr_5, xr_55, xr_56, xr_57, xr_87, af_0, af_1, xt_goto, xt_ib, xt_ic, xt_ic_ge, xt_if_ne, xt_ir, xt_nop, gF_1_6, gF_28_0, gF_28_3, gA_2, gA_3, gA_4, gA_5, gA_6, gA_7, gA_8, gA_9, gA_10, gA_11, gA_13, gA_14, gA_16, gA_17, gA_20, gA_21, gA_22, gA_23, gA_24, gA_25, gA_26, gA_27, gA_30, gA_31, gA_32, gA_33, gA_34, gA_35, gA_36, gA_38, gA_39, gA_41, gA_42, gA_46, gA_47, gA_49, gA_50, gA_51, gA_53, gA_56, gA_57, gA_59, gA_60, xq_277_200_static, iN_add, iN_mul, iN_sub, iN_and, iN_or, iN_clr, iN_shl, iN_shr, tb_r1, b1_z, b1_or, b1_and, b1_or0, b1_or1, b1_0or, b1_t, b1_f, iN_lt, iN_inj, reduceIte, if_true, if_false, Nat.zero_add, Nat.add_zero, Bool.false_eq_true, Bool.true_eq_false, Nat.lt_irrefl, iN_az, not_true_eq_false, not_false_eq_true, Nat.reduceEqDiff, Nat.reduceLT, Nat.reduceAdd, Nat.reduceMul, Nat.reduceSub]
          exact e
        · obtain ⟨w, q1, q2, e⟩ := ih v0 f (.int (nI (pc 10 (M 32 (depth * 6 + k))))) (by
            rcases hv with hv | hv
            · omega
            · exact .inr hv)
          refine ⟨w, q1, q2, ?_⟩
          simp (disch := first | assumption | omega | exact st8_a (Nat.le_of_ble_eq_true rfl)) only [hk, s_277 h2, h5, h6, eb_83_0, eb_83_2, eb_83_3, eb_83_4, eb_83_5, eb_83_6, eb_83_7, kl_a, kl_d, kl_f, kl_i, kl_l, kl_n, kl_r, xr_1, xr_10, xr_2, xr_27, xr_28, xr_3, xr_31, xr_32, xr_33, xr_34, xr_35, xr_36, xr_37, xr_38, xr_39, xr_4, xr_41, xr_44, xr_48, xr_5, xr_55, xr_56, xr_57, xr_87, af_0, af_1, xt_goto, xt_ib, xt_ic, xt_ic_ge, xt_if_ne, xt_ir, xt_nop, gF_1_6, gF_28_0, gF_28_3, gA_2, gA_3, gA_4, gA_5, gA_6, gA_7, gA_8, gA_9, gA_10, gA_11, gA_13, gA_14, gA_16, gA_17, gA_20, gA_21, gA_22, gA_23, gA_24, gA_25, gA_26, gA_27, gA_30, gA_31, gA_32, gA_33, gA_34, gA_35, gA_36, gA_38, gA_39, gA_41, gA_42, gA_46, gA_47, gA_49, gA_50, gA_51, gA_53, gA_56, gA_57, gA_59, gA_60, xq_277_200_static, iN_add, iN_mul, iN_sub, iN_and, iN_or, iN_clr, iN_shl, iN_shr, tb_r1, b1_z, b1_or, b1_and, b1_or0, b1_or1, b1_0or, b1_t, b1_f, iN_lt, iN_inj, reduceIte, if_true, if_false, Nat.zero_add, Nat.add_zero, Bool.false_eq_true, Bool.true_eq_false, Nat.lt_irrefl, iN_az, not_true_eq_false, not_false_eq_true, Nat.reduceEqDiff, Nat.reduceLT, Nat.reduceAdd, Nat.reduceMul, Nat.reduceSub]
          exact e
      · obtain ⟨w, q1, q2, e⟩ := ih v0 f (.int (nI (pc 10 (M 32 (depth * 6 + k))))) (by
          rcases hv with ⟨hv1, hv2⟩ | hv
          · refine .inl ⟨hv1, fun l hl => ?_⟩
            by_cases e : l = k
            · subst e; exact h5
            · exact hv2 l (by omega)
          · exact .inr hv)
        refine ⟨w, q1, q2, ?_⟩
        simp (disch := first | assumption | omega | exact st8_a (Nat.le_of_ble_eq_true rfl)) only [hk, s_277 h2, h5, eb_83_0, eb_83_2, eb_83_3, eb_83_4, eb_83_5, eb_83_6, eb_83_7, kl_a, kl_d, kl_f, kl_i, kl_l, kl_n, kl_r, xr_1, xr_10, xr_2, xr_27, xr_28, xr_3, xr_31, xr_32, xr_33, xr_34, xr_35, xr_36, xr_37, xr_38, xr_39, xr_4, xr_41, xr_44, xr_48, xr_5, xr_55, xr_56, xr_57, xr_87, af_0, af_1, xt_goto, xt_ib, xt_ic, xt_ic_ge, xt_if_ne, xt_ir, xt_nop, gF_1_6, gF_28_0, gF_28_3, gA_2, gA_3, gA_4, gA_5, gA_6, gA_7, gA_8, gA_9, gA_10, gA_11, gA_13, gA_14, gA_16, gA_17, gA_20, gA_21, gA_22, gA_23, gA_24, gA_25, gA_26, gA_27, gA_30, gA_31, gA_32, gA_33, gA_34, gA_35, gA_36, gA_38, gA_39, gA_41, gA_42, gA_46, gA_47, gA_49, gA_50, gA_51, gA_53, gA_56, gA_57, gA_59, gA_60, xq_277_200_static, iN_add, iN_mul, iN_sub, iN_and, iN_or, iN_clr, iN_shl, iN_shr, tb_r1, b1_z, b1_or, b1_and, b1_or0, b1_or1, b1_0or, b1_t, b1_f, iN_lt, iN_inj, reduceIte, if_true, if_false, Nat.zero_add, Nat.add_zero, Bool.false_eq_true, Bool.true_eq_false, Nat.lt_irrefl, iN_az, not_true_eq_false, not_false_eq_true, Nat.reduceEqDiff, Nat.reduceLT, Nat.reduceAdd, Nat.reduceMul, Nat.reduceSub]
        exact e
  obtain ⟨w, q1, q2, e⟩ := key 0 (Nat.zero_le _) 0 7 (.retAddr 9) (.inl ⟨rfl, fun l hl => absurd hl (Nat.not_lt_zero l)⟩)
  refine ⟨w, q1, q2, ?_⟩
  simp (disch := first | assumption | omega | exact st8_a (Nat.le_of_ble_eq_true rfl)) only [eb_83_0, eb_83_2, eb_83_3, eb_83_4, eb_83_5, eb_83_6, eb_83_7, kl_a, kl_d, kl_f, kl_i, kl_l, kl_n, kl_r, xr_1, xr_10, xr_2, xr_27, xr_28, xr_3, xr_31, xr_32, xr_33, xr_34, xr_35, xr_36, xr_37, xr_38, xr_39, xr_4, xr_41, xr_44, xr_48, xr_5, xr_55, xr_56, xr_57, xr_87, af_0, af_1, xt_goto, xt_ib, xt_ic, xt_ic_ge, xt_if_ne, xt_ir, xt_nop, gF_1_6, gF_28_0, gF_28_3, gA_2, gA_3, gA_4, gA_5, gA_6, gA_7, gA_8, gA_9, gA_10, gA_11, gA_13, gA_14, gA_16, gA_17, gA_20, gA_21, gA_22, gA_23, gA_24, gA_25, gA_26, gA_27, gA_30, gA_31, gA_32, gA_33, gA_34, gA_35, gA_36, gA_38, gA_39, gA_41, gA_42, gA_46, gA_47, gA_49, gA_50, gA_51, gA_53, gA_56, gA_57, gA_59, gA_60, xq_277_200_static, iN_add, iN_mul, iN_sub, iN_and, iN_or, iN_clr, iN_shl, iN_shr, tb_r1, b1_z, b1_or, b1_and, b1_or0, b1_or1, b1_0or, b1_t, b1_f, iN_lt, iN_inj, reduceIte, if_true, if_false, Nat.zero_add, Nat.add_zero, Bool.false_eq_true, Bool.true_eq_false, Nat.lt_irrefl, iN_az, not_true_eq_false, not_false_eq_true, Nat.reduceEqDiff, Nat.reduceLT, Nat.reduceAdd, Nat.reduceMul, Nat.reduceSub]
  exact e
set_option maxRecDepth 100000 in
theorem s_85 (O : Ok σ) (hk : k ≤ 6) (hord : ∀ j, j ≤ k → M 33 j < (σ 1 6)) (hso : ∀ j, j ≤ k → M 34 (M 33 j) < (σ 1 2)) (hro : ∀ j, j < k → M 35 (M 33 j) < (σ 1 5)) (hk6 : k < 6) (hc25 : ∀ l, l < (σ 1 6) → ∀ s, s < (σ 1 2) → M 25 (l * 6 + s) = cov σ l s) : ∃ x, ev xs d 85 0 ([.ref 28, .int (nI k), .retAddr 9, .retAddr 9, .retAddr 9, .retAddr 9, .retAddr 9], [], hc σ M R) = some (.inl (some (.int (nI (x)))), hc σ M R) ∧ ∀ i, x.testBit i = true ↔ ∃ j, j < k ∧ cov σ (M 33 k) (M 34 (M 33 k)) &&& cov σ (M 33 j) (M 34 (M 33 j)) ≠ 0 ∧ M 35 (M 33 j) = i := by
  obtain ⟨hD1, hD2, hH1, hH2, hS, hC, hT, hR, hL, hQ⟩ := Ok_b O
  have k1 := hord k (Nat.le_refl _)
  have k2 := hso k (Nat.le_refl _)
  have c1 := cov_lt O (l := M 33 k) k2
  have e1 := hc25 _ k1 _ k2
  have key : ∀ n, n ≤ k → ∀ x0 y, (∀ i, x0.testBit i = true ↔ ∃ j, j < n ∧ cov σ (M 33 k) (M 34 (M 33 k)) &&& cov σ (M 33 j) (M 34 (M 33 j)) ≠ 0 ∧ M 35 (M 33 j) = i) → ∃ x, ev xs d 85 1 ([.ref 28, .int (nI k), .int (nI (M 33 k)), .int (nI (cov σ (M 33 k) (M 34 (M 33 k)))), .int (nI x0), .int (nI n), y], [], hc σ M R) = some (.inl (some (.int (nI (x)))), hc σ M R) ∧ ∀ i, x.testBit i = true ↔ ∃ j, j < k ∧ cov σ (M 33 k) (M 34 (M 33 k)) &&& cov σ (M 33 j) (M 34 (M 33 j)) ≠ 0 ∧ M 35 (M 33 j) = i := by
    refine lp k ?_ ?_
    · intro x0 y hx
      refine ⟨x0, ?_, hx⟩
      rw [eb_85_1]
      simp (disch := first | assumption | omega | exact st8_a (Nat.le_of_ble_eq_true rfl)) only [eb_85_0, eb_85_2, eb_85_3, eb_85_4, eb_85_5, kl_a, kl_d, kl_f, kl_i, kl_l, kl_n, kl_r, xr_1, xr_10, xr_2, xr_27, xr_28, xr_3, xr_30, xr_31, xr_32, xr_33, xr_34, xr_35, xr_36, xr_37, xr_38, xr_39, xr_4, xr_41, xr_44, xr_45, xr_48, xr_5, xr_56, xr_57, xr_58, xt_goto, xt_ib, xt_ic, xt_ic_ge, xt_if_eq, xt_ir, xt_nop, gF_19_6, gF_28_1, gF_28_4, gF_28_5, gF_28_6, gA_2, gA_3, gA_4, gA_5, gA_6, gA_7, gA_8, gA_9, gA_10, gA_11, gA_13, gA_14, gA_16, gA_17, gA_20, gA_21, gA_22, gA_23, gA_24, gA_25, gA_26, gA_27, gA_30, gA_31, gA_32, gA_33, gA_34, gA_35, gA_36, gA_38, gA_39, gA_41, gA_42, gA_46, gA_47, gA_49, gA_50, gA_51, gA_53, gA_56, gA_57, gA_59, gA_60, iN_add, iN_mul, iN_sub, iN_and, iN_or, iN_clr, iN_shl, iN_shr, tb_r1, b1_z, b1_or, b1_and, b1_or0, b1_or1, b1_0or, b1_t, b1_f, iN_lt, iN_inj, reduceIte, if_true, if_false, Nat.zero_add, Nat.add_zero, Bool.false_eq_true, Bool.true_eq_false, Nat.lt_irrefl, iN_az, not_true_eq_false, not_false_eq_true, Nat.reduceEqDiff, Nat.reduceLT, Nat.reduceAdd, Nat.reduceMul, Nat.reduceSub]
    · intro n hn ih x0 y hx
      have j1 := hord n (by omega)
      have j2 := hso n (by omega)
      have j3 := hro n hn
      have e2 := hc25 _ j1 _ j2
      rw [eb_85_1]
      by_cases h1 : cov σ (M 33 k) (M 34 (M 33 k)) &&& cov σ (M 33 n) (M 34 (M 33 n)) = 0
      · obtain ⟨x, e, q⟩ := ih x0 (.int (nI (M 33 n))) fun i => by
          rw [hx i]
          constructor
          · rintro ⟨j, hj, h⟩
            exact ⟨j, by omega, h⟩
          · rintro ⟨j, hj, h2, h3⟩
            by_cases hjn : j = n
            · subst hjn; exact absurd h1 h2
            · exact ⟨j, by omega, h2, h3⟩
        refine ⟨x, ?_, q⟩
        simp (disch := first | assumption | omega | exact st8_a (Nat.le_of_ble_eq_true rfl)) only [hn, e2, h1, eb_85_0, eb_85_2, eb_85_3, eb_85_4, eb_85_5, kl_a, kl_d, kl_f, kl_i, kl_l, kl_n, kl_r, xr_1, xr_10, xr_2, xr_27, xr_28, xr_3, xr_30, xr_31, xr_32, xr_33, xr_34, xr_35, xr_36, xr_37, xr_38, xr_39, xr_4, xr_41, xr_44, xr_45, xr_48, xr_5, xr_56, xr_57, xr_58, xt_goto, xt_ib, xt_ic, xt_ic_ge, xt_if_eq, xt_ir, xt_nop, gF_19_6, gF_28_1, gF_28_4, gF_28_5, gF_28_6, gA_2, gA_3, gA_4, gA_5, gA_6, gA_7, gA_8, gA_9, gA_10, gA_11, gA_13, gA_14, gA_16, gA_17, gA_20, gA_21, gA_22, gA_23, gA_24, gA_25, gA_26, gA_27, gA_30, gA_31, gA_32, gA_33, gA_34, gA_35, gA_36, gA_38, gA_39, gA_41, gA_42, gA_46, gA_47, gA_49, gA_50, gA_51, gA_53, gA_56, gA_57, gA_59, gA_60, iN_add, iN_mul, iN_sub, iN_and, iN_or, iN_clr, iN_shl, iN_shr, tb_r1, b1_z, b1_or, b1_and, b1_or0, b1_or1, b1_0or, b1_t, b1_f, iN_lt, iN_inj, reduceIte, if_true, if_false, Nat.zero_add, Nat.add_zero, Bool.false_eq_true, Bool.true_eq_false, Nat.lt_irrefl, iN_az, not_true_eq_false, not_false_eq_true, Nat.reduceEqDiff, Nat.reduceLT, Nat.reduceAdd, Nat.reduceMul, Nat.reduceSub]
        exact e
      · obtain ⟨x, e, q⟩ := ih (x0 ||| 1 <<< M 35 (M 33 n)) (.int (nI (M 33 n))) fun i => by
          rw [Nat.testBit_or, Bool.or_eq_true, hx i, tb_1s, decide_eq_true_eq]
          constructor
          · rintro (⟨j, hj, h⟩ | h)
            · exact ⟨j, by omega, h⟩
            · exact ⟨n, by omega, h1, h.symm⟩
          · rintro ⟨j, hj, h2, h3⟩
            by_cases hjn : j = n
            · subst hjn; exact .inr h3.symm
            · exact .inl ⟨j, by omega, h2, h3⟩
        refine ⟨x, ?_, q⟩
        simp (disch := first | assumption | omega | exact st8_a (Nat.le_of_ble_eq_true rfl)) only [hn, e2, h1, eb_85_0, eb_85_2, eb_85_3, eb_85_4, eb_85_5, kl_a, kl_d, kl_f, kl_i, kl_l, kl_n, kl_r, xr_1, xr_10, xr_2, xr_27, xr_28, xr_3, xr_30, xr_31, xr_32, xr_33, xr_34, xr_35, xr_36, xr_37, xr_38, xr_39, xr_4, xr_41, xr_44, xr_45, xr_48, xr_5, xr_56, xr_57, xr_58, xt_goto, xt_ib, xt_ic, xt_ic_ge, xt_if_eq, xt_ir, xt_nop, gF_19_6, gF_28_1, gF_28_4, gF_28_5, gF_28_6, gA_2, gA_3, gA_4, gA_5, gA_6, gA_7, gA_8, gA_9, gA_10, gA_11, gA_13, gA_14, gA_16, gA_17, gA_20, gA_21, gA_22, gA_23, gA_24, gA_25, gA_26, gA_27, gA_30, gA_31, gA_32, gA_33, gA_34, gA_35, gA_36, gA_38, gA_39, gA_41, gA_42, gA_46, gA_47, gA_49, gA_50, gA_51, gA_53, gA_56, gA_57, gA_59, gA_60, iN_add, iN_mul, iN_sub, iN_and, iN_or, iN_clr, iN_shl, iN_shr, tb_r1, b1_z, b1_or, b1_and, b1_or0, b1_or1, b1_0or, b1_t, b1_f, iN_lt, iN_inj, reduceIte, if_true, if_false, Nat.zero_add, Nat.add_zero, Bool.false_eq_true, Bool.true_eq_false, Nat.lt_irrefl, iN_az, not_true_eq_false, not_false_eq_true, Nat.reduceEqDiff, Nat.reduceLT, Nat.reduceAdd, Nat.reduceMul, Nat.reduceSub]
        exact e
  obtain ⟨x, e, q⟩ := key 0 (Nat.zero_le _) 0 (.retAddr 9) fun i => by simp
  refine ⟨x, ?_, q⟩
  simp (disch := first | assumption | omega | exact st8_a (Nat.le_of_ble_eq_true rfl)) only [e1, eb_85_0, eb_85_2, eb_85_3, eb_85_4, eb_85_5, kl_a, kl_d, kl_f, kl_i, kl_l, kl_n, kl_r, xr_1, xr_10, xr_2, xr_27, xr_28, xr_3, xr_30, xr_31, xr_32, xr_33, xr_34, xr_35, xr_36, xr_37, xr_38, xr_39, xr_4, xr_41, xr_44, xr_45, xr_48, xr_5, xr_56, xr_57, xr_58, xt_goto, xt_ib, xt_ic, xt_ic_ge, xt_if_eq, xt_ir, xt_nop, gF_19_6, gF_28_1, gF_28_4, gF_28_5, gF_28_6, gA_2, gA_3, gA_4, gA_5, gA_6, gA_7, gA_8, gA_9, gA_10, gA_11, gA_13, gA_14, gA_16, gA_17, gA_20, gA_21, gA_22, gA_23, gA_24, gA_25, gA_26, gA_27, gA_30, gA_31, gA_32, gA_33, gA_34, gA_35, gA_36, gA_38, gA_39, gA_41, gA_42, gA_46, gA_47, gA_49, gA_50, gA_51, gA_53, gA_56, gA_57, gA_59, gA_60, iN_add, iN_mul, iN_sub, iN_and, iN_or, iN_clr, iN_shl, iN_shr, tb_r1, b1_z, b1_or, b1_and, b1_or0, b1_or1, b1_0or, b1_t, b1_f, iN_lt, iN_inj, reduceIte, if_true, if_false, Nat.zero_add, Nat.add_zero, Bool.false_eq_true, Bool.true_eq_false, Nat.lt_irrefl, iN_az, not_true_eq_false, not_false_eq_true, Nat.reduceEqDiff, Nat.reduceLT, Nat.reduceAdd, Nat.reduceMul, Nat.reduceSub]
  exact e
set_option maxRecDepth 100000 in
theorem s_88 (O : Ok σ) (hl : l < (σ 1 6)) (h27 : ∀ s, s < (σ 1 2) → M 27 (l * 6 + s) ≤ 27) (hu : u < 64) : ∃ x, x ≤ 100000 ∧ (∀ i, i < (σ 1 2) → u.testBit i = true → x ≤ M 27 (l * 6 + i)) ∧ ev xs d 88 0 ([.ref 28, .int (nI l), .int (nI u), .retAddr 9, .retAddr 9], [], hc σ M R) = some (.inl (some (.int (nI (x)))), hc σ M R) := by
  obtain ⟨hD1, hD2, hH1, hH2, hS, hC, hT, hR, hL, hQ⟩ := Ok_b O
  have key : ∀ k, k ≤ (σ 1 2) → ∀ x0, x0 ≤ 100000 → (∀ i, i < k → u.testBit i = true → x0 ≤ M 27 (l * 6 + i)) → ∃ x, x ≤ 100000 ∧ (∀ i, i < (σ 1 2) → u.testBit i = true → x ≤ M 27 (l * 6 + i)) ∧ ev xs d 88 1 ([.ref 28, .int (nI l), .int (nI u), .int (nI x0), .int (nI k)], [], hc σ M R) = some (.inl (some (.int (nI (x)))), hc σ M R) := by
    refine lp (σ 1 2) ?_ ?_
    · intro x0 h1 h2
      refine ⟨x0, h1, h2, ?_⟩
      rw [eb_88_1]
      simp (disch := first | assumption | omega | exact st8_a (Nat.le_of_ble_eq_true rfl)) only [eb_88_0, eb_88_2, eb_88_3, eb_88_4, eb_88_5, kl_a, kl_d, kl_f, kl_i, kl_l, kl_n, kl_r, xr_1, xr_10, xr_2, xr_27, xr_28, xr_3, xr_31, xr_32, xr_33, xr_34, xr_37, xr_38, xr_4, xr_40, xr_41, xr_44, xr_47, xr_48, xr_5, xr_55, xr_89, xt_goto, xt_ib, xt_ic, xt_ic_ge, xt_if_eq, xt_ir, xt_nop, gF_19_8, gF_1_2, gF_28_0, gF_28_1, gA_2, gA_3, gA_4, gA_5, gA_6, gA_7, gA_8, gA_9, gA_10, gA_11, gA_13, gA_14, gA_16, gA_17, gA_20, gA_21, gA_22, gA_23, gA_24, gA_25, gA_26, gA_27, gA_30, gA_31, gA_32, gA_33, gA_34, gA_35, gA_36, gA_38, gA_39, gA_41, gA_42, gA_46, gA_47, gA_49, gA_50, gA_51, gA_53, gA_56, gA_57, gA_59, gA_60, iN_add, iN_mul, iN_sub, iN_and, iN_or, iN_clr, iN_shl, iN_shr, tb_r1, b1_z, b1_or, b1_and, b1_or0, b1_or1, b1_0or, b1_t, b1_f, iN_lt, iN_inj, reduceIte, if_true, if_false, Nat.zero_add, Nat.add_zero, Bool.false_eq_true, Bool.true_eq_false, Nat.lt_irrefl, iN_az, not_true_eq_false, not_false_eq_true, Nat.reduceEqDiff, Nat.reduceLT, Nat.reduceAdd, Nat.reduceMul, Nat.reduceSub]
    · intro k hk ih x0 h1 h2
      have h3 := h27 k hk
      rw [eb_88_1]
      cases h4 : u.testBit k
      · obtain ⟨x, q1, q2, e⟩ := ih x0 h1 fun i hi hb => by
          by_cases hik : i = k
          · subst hik; rw [h4] at hb; cases hb
          · exact h2 i (by omega) hb
        refine ⟨x, q1, q2, ?_⟩
        simp (disch := first | assumption | omega | exact st8_a (Nat.le_of_ble_eq_true rfl)) only [hk, h4, eb_88_0, eb_88_2, eb_88_3, eb_88_4, eb_88_5, kl_a, kl_d, kl_f, kl_i, kl_l, kl_n, kl_r, xr_1, xr_10, xr_2, xr_27, xr_28, xr_3, xr_31, xr_32, xr_33, xr_34, xr_37, xr_38, xr_4, xr_40, xr_41, xr_44, xr_47, xr_48, xr_5, xr_55, xr_89, xt_goto, xt_ib, xt_ic, xt_ic_ge, xt_if_eq, xt_ir, xt_nop, gF_19_8, gF_1_2, gF_28_0, gF_28_1, gA_2, gA_3, gA_4, gA_5, gA_6, gA_7, gA_8, gA_9, gA_10, gA_11, gA_13, gA_14, gA_16, gA_17, gA_20, gA_21, gA_22, gA_23, gA_24, gA_25, gA_26, gA_27, gA_30, gA_31, gA_32, gA_33, gA_34, gA_35, gA_36, gA_38, gA_39, gA_41, gA_42, gA_46, gA_47, gA_49, gA_50, gA_51, gA_53, gA_56, gA_57, gA_59, gA_60, iN_add, iN_mul, iN_sub, iN_and, iN_or, iN_clr, iN_shl, iN_shr, tb_r1, b1_z, b1_or, b1_and, b1_or0, b1_or1, b1_0or, b1_t, b1_f, iN_lt, iN_inj, reduceIte, if_true, if_false, Nat.zero_add, Nat.add_zero, Bool.false_eq_true, Bool.true_eq_false, Nat.lt_irrefl, iN_az, not_true_eq_false, not_false_eq_true, Nat.reduceEqDiff, Nat.reduceLT, Nat.reduceAdd, Nat.reduceMul, Nat.reduceSub]
        exact e
      · obtain ⟨x, q1, q2, e⟩ := ih (min x0 (M 27 (l * 6 + k))) (by omega) fun i hi hb => by
          by_cases hik : i = k
          · subst hik; exact Nat.min_le_right _ _
          · exact Nat.le_trans (Nat.min_le_left _ _) (h2 i (by omega) hb)
        refine ⟨x, q1, q2, ?_⟩
        simp (disch := first | assumption | omega | exact st8_a (Nat.le_of_ble_eq_true rfl)) only [hk, h4, eb_88_0, eb_88_2, eb_88_3, eb_88_4, eb_88_5, kl_a, kl_d, kl_f, kl_i, kl_l, kl_n, kl_r, xr_1, xr_10, xr_2, xr_27, xr_28, xr_3, xr_31, xr_32, xr_33, xr_34, xr_37, xr_38, xr_4, xr_40, xr_41, xr_44, xr_47, xr_48, xr_5, xr_55, xr_89, xt_goto, xt_ib, xt_ic, xt_ic_ge, xt_if_eq, xt_ir, xt_nop, gF_19_8, gF_1_2, gF_28_0, gF_28_1, gA_2, gA_3, gA_4, gA_5, gA_6, gA_7, gA_8, gA_9, gA_10, gA_11, gA_13, gA_14, gA_16, gA_17, gA_20, gA_21, gA_22, gA_23, gA_24, gA_25, gA_26, gA_27, gA_30, gA_31, gA_32, gA_33, gA_34, gA_35, gA_36, gA_38, gA_39, gA_41, gA_42, gA_46, gA_47, gA_49, gA_50, gA_51, gA_53, gA_56, gA_57, gA_59, gA_60, iN_add, iN_mul, iN_sub, iN_and, iN_or, iN_clr, iN_shl, iN_shr, tb_r1, b1_z, b1_or, b1_and, b1_or0, b1_or1, b1_0or, b1_t, b1_f, iN_lt, iN_inj, reduceIte, if_true, if_false, Nat.zero_add, Nat.add_zero, Bool.false_eq_true, Bool.true_eq_false, Nat.lt_irrefl, iN_az, not_true_eq_false, not_false_eq_true, Nat.reduceEqDiff, Nat.reduceLT, Nat.reduceAdd, Nat.reduceMul, Nat.reduceSub]
        exact e
  obtain ⟨x, q1, q2, e⟩ := key 0 (Nat.zero_le _) 100000 (Nat.le_refl _) fun i hi => absurd hi (Nat.not_lt_zero i)
  refine ⟨x, q1, q2, ?_⟩
  simp (disch := first | assumption | omega | exact st8_a (Nat.le_of_ble_eq_true rfl)) only [eb_88_0, eb_88_2, eb_88_3, eb_88_4, eb_88_5, kl_a, kl_d, kl_f, kl_i, kl_l, kl_n, kl_r, xr_1, xr_10, xr_2, xr_27, xr_28, xr_3, xr_31, xr_32, xr_33, xr_34, xr_37, xr_38, xr_4, xr_40, xr_41, xr_44, xr_47, xr_48, xr_5, xr_55, xr_89, xt_goto, xt_ib, xt_ic, xt_ic_ge, xt_if_eq, xt_ir, xt_nop, gF_19_8, gF_1_2, gF_28_0, gF_28_1, gA_2, gA_3, gA_4, gA_5, gA_6, gA_7, gA_8, gA_9, gA_10, gA_11, gA_13, gA_14, gA_16, gA_17, gA_20, gA_21, gA_22, gA_23, gA_24, gA_25, gA_26, gA_27, gA_30, gA_31, gA_32, gA_33, gA_34, gA_35, gA_36, gA_38, gA_39, gA_41, gA_42, gA_46, gA_47, gA_49, gA_50, gA_51, gA_53, gA_56, gA_57, gA_59, gA_60, iN_add, iN_mul, iN_sub, iN_and, iN_or, iN_clr, iN_shl, iN_shr, tb_r1, b1_z, b1_or, b1_and, b1_or0, b1_or1, b1_0or, b1_t, b1_f, iN_lt, iN_inj, reduceIte, if_true, if_false, Nat.zero_add, Nat.add_zero, Bool.false_eq_true, Bool.true_eq_false, Nat.lt_irrefl, iN_az, not_true_eq_false, not_false_eq_true, Nat.reduceEqDiff, Nat.reduceLT, Nat.reduceAdd, Nat.reduceMul, Nat.reduceSub]
  exact e
set_option maxRecDepth 100000 in
theorem s_90 (O : Ok σ) (hd : depth ≤ 6) (hp : p < 64) (hu : u < 2147483648) (hs : s < 10) (hd6 : (∃ l, l < (σ 1 6) ∧ p.testBit l = false) → depth < 6) (hdom : ∀ l, l < (σ 1 6) → p.testBit l = false → M 32 (depth * 6 + l) < 64) : ∃ b : Bool, (b = true ↔ ∃ l, l < (σ 1 6) ∧ p.testBit l = false ∧ σ 6 l = u ∧ (M 32 (depth * 6 + l)).testBit s = true) ∧ ev xs d 90 0 ([.ref 28, .int (nI depth), .int (nI p), .int (nI u), .int (nI s), .retAddr 9], [], hc σ M R) = some (.inl (some (.int (nI (b1 b)))), hc σ M R) := by
  obtain ⟨hD1, hD2, hH1, hH2, hS, hC, hT, hR, hL, hQ⟩ := Ok_b O
  have key : ∀ k, k ≤ (σ 1 6) → ∃ b : Bool, (b = true ↔ ∃ l, k ≤ l ∧ l < (σ 1 6) ∧ p.testBit l = false ∧ σ 6 l = u ∧ (M 32 (depth * 6 + l)).testBit s = true) ∧ ev xs d 90 1 ([.ref 28, .int (nI depth), .int (nI p), .int (nI u), .int (nI s), .int (nI k)], [], hc σ M R) = some (.inl (some (.int (nI (b1 b)))), hc σ M R) := by
    refine lp (σ 1 6) ?_ ?_
    · refine ⟨false, ⟨fun h => (by cases h), fun ⟨l, h1, h2, _⟩ => by omega⟩, ?_⟩
      rw [eb_90_1]
      simp (disch := first | assumption | omega | exact st8_a (Nat.le_of_ble_eq_true rfl)) only [eb_90_0, eb_90_2, eb_90_3, eb_90_4, eb_90_5, eb_90_6, eb_90_7, kl_a, kl_d, kl_f, kl_i, kl_l, kl_n, kl_r, xr_1, xr_10, xr_2, xr_27, xr_28, xr_3, xr_31, xr_34, xr_35, xr_36, xr_37, xr_38, xr_39, xr_4, xr_41, xr_44, xr_48, xr_5, xr_55, xt_goto, xt_ib, xt_ic, xt_ic_ge, xt_ic_ne, xt_if_eq, xt_if_ne, xt_ir, xt_nop, gF_1_13, gF_1_6, gF_28_0, gF_28_3, gA_2, gA_3, gA_4, gA_5, gA_6, gA_7, gA_8, gA_9, gA_10, gA_11, gA_13, gA_14, gA_16, gA_17, gA_20, gA_21, gA_22, gA_23, gA_24, gA_25, gA_26, gA_27, gA_30, gA_31, gA_32, gA_33, gA_34, gA_35, gA_36, gA_38, gA_39, gA_41, gA_42, gA_46, gA_47, gA_49, gA_50, gA_51, gA_53, gA_56, gA_57, gA_59, gA_60, iN_add, iN_mul, iN_sub, iN_and, iN_or, iN_clr, iN_shl, iN_shr, tb_r1, b1_z, b1_or, b1_and, b1_or0, b1_or1, b1_0or, b1_t, b1_f, iN_lt, iN_inj, reduceIte, if_true, if_false, Nat.zero_add, Nat.add_zero, Bool.false_eq_true, Bool.true_eq_false, Nat.lt_irrefl, iN_az, not_true_eq_false, not_false_eq_true, Nat.reduceEqDiff, Nat.reduceLT, Nat.reduceAdd, Nat.reduceMul, Nat.reduceSub]
    · intro k hk ⟨b, hb, ih⟩
      have skip : ¬ (p.testBit k = false ∧ σ 6 k = u ∧ (M 32 (depth * 6 + k)).testBit s = true) → (b = true ↔ ∃ l, k ≤ l ∧ l < (σ 1 6) ∧ p.testBit l = false ∧ σ 6 l = u ∧ (M 32 (depth * 6 + l)).testBit s = true) := by
        intro hn
        rw [hb]
        constructor
        · rintro ⟨l, h1, h2⟩
          exact ⟨l, by omega, h2⟩
        · rintro ⟨l, h1, h2, h3⟩
          by_cases e : l = k
          · subst e; exact absurd h3 hn
          · exact ⟨l, by omega, h2, h3⟩
      have kt := Ok_l O hk
      rw [eb_90_1]
      cases h1 : p.testBit k
      · by_cases h2 : σ 6 k = u
        · have hd7 := hd6 ⟨k, hk, h1⟩
          have hdk := hdom k hk h1
          cases h3 : (M 32 (depth * 6 + k)).testBit s
          · refine ⟨b, skip fun z => by rw [h3] at z; exact absurd z.2.2 (by decide), ?_⟩
            simp (disch := first | assumption | omega | exact st8_a (Nat.le_of_ble_eq_true rfl)) only [hk, h1, eq_true h2, h3, eb_90_0, eb_90_2, eb_90_3, eb_90_4, eb_90_5, eb_90_6, eb_90_7, kl_a, kl_d, kl_f, kl_i, kl_l, kl_n, kl_r, xr_1, xr_10, xr_2, xr_27, xr_28, xr_3, xr_31, xr_34, xr_35, xr_36, xr_37, xr_38, xr_39, xr_4, xr_41, xr_44, xr_48, xr_5, xr_55, xt_goto, xt_ib, xt_ic, xt_ic_ge, xt_ic_ne, xt_if_eq, xt_if_ne, xt_ir, xt_nop, gF_1_13, gF_1_6, gF_28_0, gF_28_3, gA_2, gA_3, gA_4, gA_5, gA_6, gA_7, gA_8, gA_9, gA_10, gA_11, gA_13, gA_14, gA_16, gA_17, gA_20, gA_21, gA_22, gA_23, gA_24, gA_25, gA_26, gA_27, gA_30, gA_31, gA_32, gA_33, gA_34, gA_35, gA_36, gA_38, gA_39, gA_41, gA_42, gA_46, gA_47, gA_49, gA_50, gA_51, gA_53, gA_56, gA_57, gA_59, gA_60, iN_add, iN_mul, iN_sub, iN_and, iN_or, iN_clr, iN_shl, iN_shr, tb_r1, b1_z, b1_or, b1_and, b1_or0, b1_or1, b1_0or, b1_t, b1_f, iN_lt, iN_inj, reduceIte, if_true, if_false, Nat.zero_add, Nat.add_zero, Bool.false_eq_true, Bool.true_eq_false, Nat.lt_irrefl, iN_az, not_true_eq_false, not_false_eq_true, Nat.reduceEqDiff, Nat.reduceLT, Nat.reduceAdd, Nat.reduceMul, Nat.reduceSub]
            exact ih
          · refine ⟨true, ⟨fun _ => ⟨k, Nat.le_refl _, hk, h1, h2, h3⟩, fun _ => rfl⟩, ?_⟩
            simp (disch := first | assumption | omega | exact st8_a (Nat.le_of_ble_eq_true rfl)) only [hk, h1, eq_true h2, h3, eb_90_0, eb_90_2, eb_90_3, eb_90_4, eb_90_5, eb_90_6, eb_90_7, kl_a, kl_d, kl_f, kl_i, kl_l, kl_n, kl_r, xr_1, xr_10, xr_2, xr_27, xr_28, xr_3, xr_31, xr_34, xr_35, xr_36, xr_37, xr_38, xr_39, xr_4, xr_41, xr_44, xr_48, xr_5, xr_55, xt_goto, xt_ib, xt_ic, xt_ic_ge, xt_ic_ne, xt_if_eq, xt_if_ne, xt_ir, xt_nop, gF_1_13, gF_1_6, gF_28_0, gF_28_3, gA_2, gA_3, gA_4, gA_5, gA_6, gA_7, gA_8, gA_9, gA_10, gA_11, gA_13, gA_14, gA_16, gA_17, gA_20, gA_21, gA_22, gA_23, gA_24, gA_25, gA_26, gA_27, gA_30, gA_31, gA_32, gA_33, gA_34, gA_35, gA_36, gA_38, gA_39, gA_41, gA_42, gA_46, gA_47, gA_49, gA_50, gA_51, gA_53, gA_56, gA_57, gA_59, gA_60, iN_add, iN_mul, iN_sub, iN_and, iN_or, iN_clr, iN_shl, iN_shr, tb_r1, b1_z, b1_or, b1_and, b1_or0, b1_or1, b1_0or, b1_t, b1_f, iN_lt, iN_inj, reduceIte, if_true, if_false, Nat.zero_add, Nat.add_zero, Bool.false_eq_true, Bool.true_eq_false, Nat.lt_irrefl, iN_az, not_true_eq_false, not_false_eq_true, Nat.reduceEqDiff, Nat.reduceLT, Nat.reduceAdd, Nat.reduceMul, Nat.reduceSub]
        · refine ⟨b, skip fun z => h2 z.2.1, ?_⟩
          simp (disch := first | assumption | omega | exact st8_a (Nat.le_of_ble_eq_true rfl)) only [hk, h1, h2, eb_90_0, eb_90_2, eb_90_3, eb_90_4, eb_90_5, eb_90_6, eb_90_7, kl_a, kl_d, kl_f, kl_i, kl_l, kl_n, kl_r, xr_1, xr_10, xr_2, xr_27, xr_28, xr_3, xr_31, xr_34, xr_35, xr_36, xr_37, xr_38, xr_39, xr_4, xr_41, xr_44, xr_48, xr_5, xr_55, xt_goto, xt_ib, xt_ic, xt_ic_ge, xt_ic_ne, xt_if_eq, xt_if_ne, xt_ir, xt_nop, gF_1_13, gF_1_6, gF_28_0, gF_28_3, gA_2, gA_3, gA_4, gA_5, gA_6, gA_7, gA_8, gA_9, gA_10, gA_11, gA_13, gA_14, gA_16, gA_17, gA_20, gA_21, gA_22, gA_23, gA_24, gA_25, gA_26, gA_27, gA_30, gA_31, gA_32, gA_33, gA_34, gA_35, gA_36, gA_38, gA_39, gA_41, gA_42, gA_46, gA_47, gA_49, gA_50, gA_51, gA_53, gA_56, gA_57, gA_59, gA_60, iN_add, iN_mul, iN_sub, iN_and, iN_or, iN_clr, iN_shl, iN_shr, tb_r1, b1_z, b1_or, b1_and, b1_or0, b1_or1, b1_0or, b1_t, b1_f, iN_lt, iN_inj, reduceIte, if_true, if_false, Nat.zero_add, Nat.add_zero, Bool.false_eq_true, Bool.true_eq_false, Nat.lt_irrefl, iN_az, not_true_eq_false, not_false_eq_true, Nat.reduceEqDiff, Nat.reduceLT, Nat.reduceAdd, Nat.reduceMul, Nat.reduceSub]
          exact ih
      · refine ⟨b, skip fun z => by rw [h1] at z; exact absurd z.1 (by decide), ?_⟩
        simp (disch := first | assumption | omega | exact st8_a (Nat.le_of_ble_eq_true rfl)) only [hk, h1, eb_90_0, eb_90_2, eb_90_3, eb_90_4, eb_90_5, eb_90_6, eb_90_7, kl_a, kl_d, kl_f, kl_i, kl_l, kl_n, kl_r, xr_1, xr_10, xr_2, xr_27, xr_28, xr_3, xr_31, xr_34, xr_35, xr_36, xr_37, xr_38, xr_39, xr_4, xr_41, xr_44, xr_48, xr_5, xr_55, xt_goto, xt_ib, xt_ic, xt_ic_ge, xt_ic_ne, xt_if_eq, xt_if_ne, xt_ir, xt_nop, gF_1_13, gF_1_6, gF_28_0, gF_28_3, gA_2, gA_3, gA_4, gA_5, gA_6, gA_7, gA_8, gA_9, gA_10, gA_11, gA_13, gA_14, gA_16, gA_17, gA_20, gA_21, gA_22, gA_23, gA_24, gA_25, gA_26, gA_27, gA_30, gA_31, gA_32, gA_33, gA_34, gA_35, gA_36, gA_38, gA_39, gA_41, gA_42, gA_46, gA_47, gA_49, gA_50, gA_51, gA_53, gA_56, gA_57, gA_59, gA_60, iN_add, iN_mul, iN_sub, iN_and, iN_or, iN_clr, iN_shl, iN_shr, tb_r1, b1_z, b1_or, b1_and, b1_or0, b1_or1, b1_0or, b1_t, b1_f, iN_lt, iN_inj, reduceIte, if_true, if_false, Nat.zero_add, Nat.add_zero, Bool.false_eq_true, Bool.true_eq_false, Nat.lt_irrefl, iN_az, not_true_eq_false, not_false_eq_true, Nat.reduceEqDiff, Nat.reduceLT, Nat.reduceAdd, Nat.reduceMul, Nat.reduceSub]
        exact ih
  obtain ⟨b, hb, h⟩ := key 0 (Nat.zero_le _)
  refine ⟨b, by rw [hb]; simp, ?_⟩
  simp (disch := first | assumption | omega | exact st8_a (Nat.le_of_ble_eq_true rfl)) only [eb_90_0, eb_90_2, eb_90_3, eb_90_4, eb_90_5, eb_90_6, eb_90_7, kl_a, kl_d, kl_f, kl_i, kl_l, kl_n, kl_r, xr_1, xr_10, xr_2, xr_27, xr_28, xr_3, xr_31, xr_34, xr_35, xr_36, xr_37, xr_38, xr_39, xr_4, xr_41, xr_44, xr_48, xr_5, xr_55, xt_goto, xt_ib, xt_ic, xt_ic_ge, xt_ic_ne, xt_if_eq, xt_if_ne, xt_ir, xt_nop, gF_1_13, gF_1_6, gF_28_0, gF_28_3, gA_2, gA_3, gA_4, gA_5, gA_6, gA_7, gA_8, gA_9, gA_10, gA_11, gA_13, gA_14, gA_16, gA_17, gA_20, gA_21, gA_22, gA_23, gA_24, gA_25, gA_26, gA_27, gA_30, gA_31, gA_32, gA_33, gA_34, gA_35, gA_36, gA_38, gA_39, gA_41, gA_42, gA_46, gA_47, gA_49, gA_50, gA_51, gA_53, gA_56, gA_57, gA_59, gA_60, iN_add, iN_mul, iN_sub, iN_and, iN_or, iN_clr, iN_shl, iN_shr, tb_r1, b1_z, b1_or, b1_and, b1_or0, b1_or1, b1_0or, b1_t, b1_f, iN_lt, iN_inj, reduceIte, if_true, if_false, Nat.zero_add, Nat.add_zero, Bool.false_eq_true, Bool.true_eq_false, Nat.lt_irrefl, iN_az, not_true_eq_false, not_false_eq_true, Nat.reduceEqDiff, Nat.reduceLT, Nat.reduceAdd, Nat.reduceMul, Nat.reduceSub]
  exact h
set_option maxRecDepth 100000 in
theorem s_92 (O : Ok σ) (hd : depth ≤ 6) (hp : p < 64) (hl : l < (σ 1 6)) (hc25 : ∀ s, s < (σ 1 2) → M 25 (l * 6 + s) = cov σ l s) (h9 : M 19 9 = lh σ) (hso : p.testBit l = true → M 34 l < (σ 1 2)) (hdom : p.testBit l = false → depth < 6 ∧ M 32 (depth * 6 + l) < 64) : ∃ b : Bool, (b = true ↔ ∀ i, i < (σ 1 2) → (if p.testBit l = true then i = M 34 l else (M 32 (depth * 6 + l)).testBit i = true) → cov σ l i &&& lh σ ≠ 0) ∧ ev xs d 92 0 ([.ref 28, .int (nI depth), .int (nI p), .int (nI l), .retAddr 9, .retAddr 9], [], hc σ M R) = some (.inl (some (.int (nI (b1 b)))), hc σ M R) := by
  obtain ⟨hD1, hD2, hH1, hH2, hS, hC, hT, hR, hL, hQ⟩ := Ok_b O
  have lp1 : ∀ w, w < 64 → (∀ i, w.testBit i = true ↔ (if p.testBit l = true then i = M 34 l else (M 32 (depth * 6 + l)).testBit i = true)) → ∃ b : Bool, (b = true ↔ ∀ i, i < (σ 1 2) → (if p.testBit l = true then i = M 34 l else (M 32 (depth * 6 + l)).testBit i = true) → cov σ l i &&& lh σ ≠ 0) ∧ ev xs d 92 4 ([.ref 28, .int (nI depth), .int (nI p), .int (nI l), .int (nI w), .int (nI 0)], [], hc σ M R) = some (.inl (some (.int (nI (b1 b)))), hc σ M R) := by
    intro w hw hw2
    have key : ∀ k, k ≤ (σ 1 2) → ∃ b : Bool, (b = true ↔ ∀ i, k ≤ i → i < (σ 1 2) → w.testBit i = true → cov σ l i &&& lh σ ≠ 0) ∧ ev xs d 92 4 ([.ref 28, .int (nI depth), .int (nI p), .int (nI l), .int (nI w), .int (nI k)], [], hc σ M R) = some (.inl (some (.int (nI (b1 b)))), hc σ M R) := by
      refine lp (σ 1 2) ?_ ?_
      · refine ⟨true, ⟨fun _ i h1 h2 => by omega, fun _ => rfl⟩, ?_⟩
        rw [eb_92_4]
        simp (disch := first | assumption | omega | exact st8_a (Nat.le_of_ble_eq_true rfl)) only [eb_92_0, eb_92_1, eb_92_2, eb_92_3, eb_92_5, eb_92_6, eb_92_7, eb_92_8, eb_92_9, kl_a, kl_d, kl_f, kl_i, kl_l, kl_n, kl_r, xr_1, xr_10, xr_2, xr_27, xr_28, xr_3, xr_31, xr_33, xr_34, xr_35, xr_36, xr_37, xr_38, xr_39, xr_4, xr_41, xr_44, xr_48, xr_5, xr_55, xr_58, xt_goto, xt_ib, xt_ic, xt_ic_ge, xt_if_eq, xt_if_ne, xt_ir, xt_nop, gF_19_6, gF_19_9, gF_1_2, gF_28_0, gF_28_1, gF_28_3, gF_28_5, gA_2, gA_3, gA_4, gA_5, gA_6, gA_7, gA_8, gA_9, gA_10, gA_11, gA_13, gA_14, gA_16, gA_17, gA_20, gA_21, gA_22, gA_23, gA_24, gA_25, gA_26, gA_27, gA_30, gA_31, gA_32, gA_33, gA_34, gA_35, gA_36, gA_38, gA_39, gA_41, gA_42, gA_46, gA_47, gA_49, gA_50, gA_51, gA_53, gA_56, gA_57, gA_59, gA_60, iN_add, iN_mul, iN_sub, iN_and, iN_or, iN_clr, iN_shl, iN_shr, tb_r1, b1_z, b1_or, b1_and, b1_or0, b1_or1, b1_0or, b1_t, b1_f, iN_lt, iN_inj, reduceIte, if_true, if_false, Nat.zero_add, Nat.add_zero, Bool.false_eq_true, Bool.true_eq_false, Nat.lt_irrefl, iN_az, not_true_eq_false, not_false_eq_true, Nat.reduceEqDiff, Nat.reduceLT, Nat.reduceAdd, Nat.reduceMul, Nat.reduceSub]
      · intro k hk ⟨b, hb, ih⟩
        have e1 := hc25 k hk
        have c1 := cov_lt O (l := l) hk
        have skip : (w.testBit k = true → cov σ l k &&& lh σ ≠ 0) → (b = true ↔ ∀ i, k ≤ i → i < (σ 1 2) → w.testBit i = true → cov σ l i &&& lh σ ≠ 0) := by
          intro hn
          rw [hb]
          constructor
          · intro h i h1 h2
            by_cases e : i = k
            · subst e; exact hn
            · exact h i (by omega) h2
          · intro h i h1 h2
            exact h i (by omega) h2
        rw [eb_92_4]
        cases h1 : w.testBit k
        · refine ⟨b, skip fun z => (by rw [h1] at z; cases z), ?_⟩
          simp (disch := first | assumption | omega | exact st8_a (Nat.le_of_ble_eq_true rfl)) only [hk, h1, eb_92_0, eb_92_1, eb_92_2, eb_92_3, eb_92_5, eb_92_6, eb_92_7, eb_92_8, eb_92_9, kl_a, kl_d, kl_f, kl_i, kl_l, kl_n, kl_r, xr_1, xr_10, xr_2, xr_27, xr_28, xr_3, xr_31, xr_33, xr_34, xr_35, xr_36, xr_37, xr_38, xr_39, xr_4, xr_41, xr_44, xr_48, xr_5, xr_55, xr_58, xt_goto, xt_ib, xt_ic, xt_ic_ge, xt_if_eq, xt_if_ne, xt_ir, xt_nop, gF_19_6, gF_19_9, gF_1_2, gF_28_0, gF_28_1, gF_28_3, gF_28_5, gA_2, gA_3, gA_4, gA_5, gA_6, gA_7, gA_8, gA_9, gA_10, gA_11, gA_13, gA_14, gA_16, gA_17, gA_20, gA_21, gA_22, gA_23, gA_24, gA_25, gA_26, gA_27, gA_30, gA_31, gA_32, gA_33, gA_34, gA_35, gA_36, gA_38, gA_39, gA_41, gA_42, gA_46, gA_47, gA_49, gA_50, gA_51, gA_53, gA_56, gA_57, gA_59, gA_60, iN_add, iN_mul, iN_sub, iN_and, iN_or, iN_clr, iN_shl, iN_shr, tb_r1, b1_z, b1_or, b1_and, b1_or0, b1_or1, b1_0or, b1_t, b1_f, iN_lt, iN_inj, reduceIte, if_true, if_false, Nat.zero_add, Nat.add_zero, Bool.false_eq_true, Bool.true_eq_false, Nat.lt_irrefl, iN_az, not_true_eq_false, not_false_eq_true, Nat.reduceEqDiff, Nat.reduceLT, Nat.reduceAdd, Nat.reduceMul, Nat.reduceSub]
          exact ih
        · by_cases h2 : cov σ l k &&& lh σ = 0
          · refine ⟨false, ⟨fun h => (by cases h), fun h => absurd h2 (h k (Nat.le_refl _) hk h1)⟩, ?_⟩
            simp (disch := first | assumption | omega | exact st8_a (Nat.le_of_ble_eq_true rfl)) only [hk, h1, e1, h9, h2, eb_92_0, eb_92_1, eb_92_2, eb_92_3, eb_92_5, eb_92_6, eb_92_7, eb_92_8, eb_92_9, kl_a, kl_d, kl_f, kl_i, kl_l, kl_n, kl_r, xr_1, xr_10, xr_2, xr_27, xr_28, xr_3, xr_31, xr_33, xr_34, xr_35, xr_36, xr_37, xr_38, xr_39, xr_4, xr_41, xr_44, xr_48, xr_5, xr_55, xr_58, xt_goto, xt_ib, xt_ic, xt_ic_ge, xt_if_eq, xt_if_ne, xt_ir, xt_nop, gF_19_6, gF_19_9, gF_1_2, gF_28_0, gF_28_1, gF_28_3, gF_28_5, gA_2, gA_3, gA_4, gA_5, gA_6, gA_7, gA_8, gA_9, gA_10, gA_11, gA_13, gA_14, gA_16, gA_17, gA_20, gA_21, gA_22, gA_23, gA_24, gA_25, gA_26, gA_27, gA_30, gA_31, gA_32, gA_33, gA_34, gA_35, gA_36, gA_38, gA_39, gA_41, gA_42, gA_46, gA_47, gA_49, gA_50, gA_51, gA_53, gA_56, gA_57, gA_59, gA_60, iN_add, iN_mul, iN_sub, iN_and, iN_or, iN_clr, iN_shl, iN_shr, tb_r1, b1_z, b1_or, b1_and, b1_or0, b1_or1, b1_0or, b1_t, b1_f, iN_lt, iN_inj, reduceIte, if_true, if_false, Nat.zero_add, Nat.add_zero, Bool.false_eq_true, Bool.true_eq_false, Nat.lt_irrefl, iN_az, not_true_eq_false, not_false_eq_true, Nat.reduceEqDiff, Nat.reduceLT, Nat.reduceAdd, Nat.reduceMul, Nat.reduceSub]
          · refine ⟨b, skip fun _ => h2, ?_⟩
            simp (disch := first | assumption | omega | exact st8_a (Nat.le_of_ble_eq_true rfl)) only [hk, h1, e1, h9, h2, eb_92_0, eb_92_1, eb_92_2, eb_92_3, eb_92_5, eb_92_6, eb_92_7, eb_92_8, eb_92_9, kl_a, kl_d, kl_f, kl_i, kl_l, kl_n, kl_r, xr_1, xr_10, xr_2, xr_27, xr_28, xr_3, xr_31, xr_33, xr_34, xr_35, xr_36, xr_37, xr_38, xr_39, xr_4, xr_41, xr_44, xr_48, xr_5, xr_55, xr_58, xt_goto, xt_ib, xt_ic, xt_ic_ge, xt_if_eq, xt_if_ne, xt_ir, xt_nop, gF_19_6, gF_19_9, gF_1_2, gF_28_0, gF_28_1, gF_28_3, gF_28_5, gA_2, gA_3, gA_4, gA_5, gA_6, gA_7, gA_8, gA_9, gA_10, gA_11, gA_13, gA_14, gA_16, gA_17, gA_20, gA_21, gA_22, gA_23, gA_24, gA_25, gA_26, gA_27, gA_30, gA_31, gA_32, gA_33, gA_34, gA_35, gA_36, gA_38, gA_39, gA_41, gA_42, gA_46, gA_47, gA_49, gA_50, gA_51, gA_53, gA_56, gA_57, gA_59, gA_60, iN_add, iN_mul, iN_sub, iN_and, iN_or, iN_clr, iN_shl, iN_shr, tb_r1, b1_z, b1_or, b1_and, b1_or0, b1_or1, b1_0or, b1_t, b1_f, iN_lt, iN_inj, reduceIte, if_true, if_false, Nat.zero_add, Nat.add_zero, Bool.false_eq_true, Bool.true_eq_false, Nat.lt_irrefl, iN_az, not_true_eq_false, not_false_eq_true, Nat.reduceEqDiff, Nat.reduceLT, Nat.reduceAdd, Nat.reduceMul, Nat.reduceSub]
            exact ih
    obtain ⟨b, hb, e⟩ := key 0 (Nat.zero_le _)
    refine ⟨b, ?_, e⟩
    rw [hb]
    exact ⟨fun h i hi h2 => h i (Nat.zero_le _) hi ((hw2 i).mpr h2), fun h i _ hi h2 => h i hi ((hw2 i).mp h2)⟩
  cases h1 : p.testBit l
  · obtain ⟨h2, h3⟩ := hdom h1
    obtain ⟨b, hb, e⟩ := lp1 (M 32 (depth * 6 + l)) h3 fun i => by rw [h1]; simp
    rw [h1] at hb
    refine ⟨b, hb, ?_⟩
    simp (disch := first | assumption | omega | exact st8_a (Nat.le_of_ble_eq_true rfl)) only [h1, eb_92_0, eb_92_1, eb_92_2, eb_92_3, eb_92_5, eb_92_6, eb_92_7, eb_92_8, eb_92_9, kl_a, kl_d, kl_f, kl_i, kl_l, kl_n, kl_r, xr_1, xr_10, xr_2, xr_27, xr_28, xr_3, xr_31, xr_33, xr_34, xr_35, xr_36, xr_37, xr_38, xr_39, xr_4, xr_41, xr_44, xr_48, xr_5, xr_55, xr_58, xt_goto, xt_ib, xt_ic, xt_ic_ge, xt_if_eq, xt_if_ne, xt_ir, xt_nop, gF_19_6, gF_19_9, gF_1_2, gF_28_0, gF_28_1, gF_28_3, gF_28_5, gA_2, gA_3, gA_4, gA_5, gA_6, gA_7, gA_8, gA_9, gA_10, gA_11, gA_13, gA_14, gA_16, gA_17, gA_20, gA_21, gA_22, gA_23, gA_24, gA_25, gA_26, gA_27, gA_30, gA_31, gA_32, gA_33, gA_34, gA_35, gA_36, gA_38, gA_39, gA_41, gA_42, gA_46, gA_47, gA_49, gA_50, gA_51, gA_53, gA_56, gA_57, gA_59, gA_60, iN_add, iN_mul, iN_sub, iN_and, iN_or, iN_clr, iN_shl, iN_shr, tb_r1, b1_z, b1_or, b1_and, b1_or0, b1_or1, b1_0or, b1_t, b1_f, iN_lt, iN_inj, reduceIte, if_true, if_false, Nat.zero_add, Nat.add_zero, Bool.false_eq_true, Bool.true_eq_false, Nat.lt_irrefl, iN_az, not_true_eq_false, not_false_eq_true, Nat.reduceEqDiff, Nat.reduceLT, Nat.reduceAdd, Nat.reduceMul, Nat.reduceSub]
    exact e
  · have h2 := hso h1
    obtain ⟨b, hb, e⟩ := lp1 (1 <<< M 34 l) (s1_lt (n := 6) (by omega)) fun i => by rw [h1, tb_1s]; simp
    rw [h1] at hb
    refine ⟨b, hb, ?_⟩
    simp (disch := first | assumption | omega | exact st8_a (Nat.le_of_ble_eq_true rfl)) only [h1, eb_92_0, eb_92_1, eb_92_2, eb_92_3, eb_92_5, eb_92_6, eb_92_7, eb_92_8, eb_92_9, kl_a, kl_d, kl_f, kl_i, kl_l, kl_n, kl_r, xr_1, xr_10, xr_2, xr_27, xr_28, xr_3, xr_31, xr_33, xr_34, xr_35, xr_36, xr_37, xr_38, xr_39, xr_4, xr_41, xr_44, xr_48, xr_5, xr_55, xr_58, xt_goto, xt_ib, xt_ic, xt_ic_ge, xt_if_eq, xt_if_ne, xt_ir, xt_nop, gF_19_6, gF_19_9, gF_1_2, gF_28_0, gF_28_1, gF_28_3, gF_28_5, gA_2, gA_3, gA_4, gA_5, gA_6, gA_7, gA_8, gA_9, gA_10, gA_11, gA_13, gA_14, gA_16, gA_17, gA_20, gA_21, gA_22, gA_23, gA_24, gA_25, gA_26, gA_27, gA_30, gA_31, gA_32, gA_33, gA_34, gA_35, gA_36, gA_38, gA_39, gA_41, gA_42, gA_46, gA_47, gA_49, gA_50, gA_51, gA_53, gA_56, gA_57, gA_59, gA_60, iN_add, iN_mul, iN_sub, iN_and, iN_or, iN_clr, iN_shl, iN_shr, tb_r1, b1_z, b1_or, b1_and, b1_or0, b1_or1, b1_0or, b1_t, b1_f, iN_lt, iN_inj, reduceIte, if_true, if_false, Nat.zero_add, Nat.add_zero, Bool.false_eq_true, Bool.true_eq_false, Nat.lt_irrefl, iN_az, not_true_eq_false, not_false_eq_true, Nat.reduceEqDiff, Nat.reduceLT, Nat.reduceAdd, Nat.reduceMul, Nat.reduceSub]
    exact e
end Sb
