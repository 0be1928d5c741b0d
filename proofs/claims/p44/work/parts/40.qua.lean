/-! THE CLASS Question: its rows -/
set_option maxRecDepth 100000 in
theorem up_s (M : Nat → Nat → Nat) (a i v : Nat) : up M a i v a = u1 (M a) i v := if_pos rfl
set_option maxRecDepth 100000 in
theorem up_n {M : Nat → Nat → Nat} {a i v b : Nat} (h : b ≠ a) : up M a i v b = M b := if_neg h
set_option maxRecDepth 100000 in
theorem ur_s (M : Nat → Nat → Nat) (a : Nat) (f : Nat → Nat) : ur M a f a = f := if_pos rfl
set_option maxRecDepth 100000 in
theorem ur_n {M : Nat → Nat → Nat} {a b : Nat} {f : Nat → Nat} (h : b ≠ a) : ur M a f b = M b := if_neg h
set_option maxRecDepth 100000 in
theorem u1_s (f : Nat → Nat) (i v : Nat) : u1 f i v i = v := if_pos rfl
set_option maxRecDepth 100000 in
theorem u1_n {f : Nat → Nat} {i v j : Nat} (h : j ≠ i) : u1 f i v j = f j := if_neg h
set_option maxRecDepth 100000 in
theorem up_up (M : Nat → Nat → Nat) (a i v w : Nat) : up (up M a i v) a i w = up M a i w := by
  funext b j
  unfold up u1
  by_cases h : b = a
  · simp only [h, if_true]
    split <;> rfl
  · simp only [h, if_false]
set_option maxRecDepth 100000 in
theorem up_ur (M : Nat → Nat → Nat) (a i v : Nat) : up M a i v = ur M a (u1 (M a) i v) := rfl
set_option maxRecDepth 100000 in
theorem ur_ur (M : Nat → Nat → Nat) (a : Nat) (f g : Nat → Nat) : ur (ur M a f) a g = ur M a g := by
  funext b
  unfold ur
  split <;> rfl
set_option maxRecDepth 100000 in
theorem ur_up (M : Nat → Nat → Nat) (a i v : Nat) (f : Nat → Nat) : up (ur M a f) a i v = ur M a (u1 f i v) := by
  funext b
  unfold up ur
  by_cases h : b = a
  · simp only [h, if_true]
  · simp only [h, if_false]
set_option maxRecDepth 100000 in
theorem ur_id (M : Nat → Nat → Nat) (a : Nat) : ur M a (M a) = M := by
  funext b
  unfold ur
  split
  · rename_i h; rw [h]
  · rfl
/-- nothing changed but at some places -/
def Fr (A : List Nat) (M N : Nat → Nat → Nat) : Prop := ∀ b, A.contains b = false → N b = M b
set_option maxRecDepth 100000 in
theorem Fr_r (A : List Nat) (M : Nat → Nat → Nat) : Fr A M M := fun _ _ => rfl
set_option maxRecDepth 100000 in
theorem Fr_t {A : List Nat} {M N K : Nat → Nat → Nat} (h1 : Fr A M N) (h2 : Fr A N K) : Fr A M K := fun b hb => (h2 b hb).trans (h1 b hb)
set_option maxRecDepth 100000 in
theorem Fr_u {A : List Nat} {M N : Nat → Nat → Nat} {a : Nat} {f : Nat → Nat} (h1 : Fr A M N) (ha : A.contains a = true) : Fr A M (ur N a f) := fun b hb => by
  have : b ≠ a := fun h => by rw [h, ha] at hb; cases hb
  rw [ur_n this]
  exact h1 b hb
set_option maxRecDepth 100000 in
theorem Fr_p {A : List Nat} {M N : Nat → Nat → Nat} {a i v : Nat} (h1 : Fr A M N) (ha : A.contains a = true) : Fr A M (up N a i v) := Fr_u h1 ha
set_option maxRecDepth 100000 in
theorem Fr_w {A B : List Nat} {M N : Nat → Nat → Nat} (h1 : Fr A M N) (h : ∀ a, A.contains a = true → B.contains a = true) : Fr B M N := fun b hb => h1 b (by
  cases hh : A.contains b
  · rfl
  · rw [h b hh] at hb; cases hb)
def pi (l s o : Nat) : Nat := (l * 6 + s) * 6 + o
set_option maxRecDepth 100000 in
theorem pi_inj {l s o l2 s2 o2 : Nat} (hs : s < 6) (ho : o < 6) (hs2 : s2 < 6) (ho2 : o2 < 6) (h : pi l s o = pi l2 s2 o2) : l = l2 ∧ s = s2 ∧ o = o2 := by
  unfold pi at h
  omega
/-- whether a slot of another lesson goes with a slot of a lesson -/
def fb (f : Nat → Nat) (l s o i : Nat) : Bool := (f (pi l s o)).testBit i
set_option maxRecDepth 100000 in
theorem clr_b (a k i : Nat) : (clr a (1 <<< k)).testBit i = (a.testBit i && !decide (i = k)) := by rw [clr_tb, tb_1s]
set_option maxRecDepth 100000 in
theorem fb_clr (f : Nat → Nat) {l s o i l' s' o' i' : Nat} (hs : s < 6) (ho : o < 6) (hs' : s' < 6) (ho' : o' < 6) : fb (u1 f (pi l' s' o') (clr (f (pi l' s' o')) (1 <<< i'))) l s o i = true ↔ fb f l s o i = true ∧ ¬ (l = l' ∧ s = s' ∧ o = o' ∧ i = i') := by
  unfold fb
  by_cases h : pi l s o = pi l' s' o'
  · obtain ⟨rfl, rfl, rfl⟩ := pi_inj hs ho hs' ho' h
    rw [u1_s, clr_b]
    simp
  · rw [u1_n h]
    constructor
    · intro q
      refine ⟨q, ?_⟩
      rintro ⟨rfl, rfl, rfl, -⟩
      exact h rfl
    · exact fun q => q.1
/-- the pairs of two lessons with P are taken away -/
def KP (a b : Nat) (P : Nat → Nat → Prop) (f0 f : Nat → Nat) : Prop := ∀ l s o i, l < 6 → s < 6 → o < 6 → (fb f l s o i = true ↔ fb f0 l s o i = true ∧ ¬ (l = a ∧ o = b ∧ P s i) ∧ ¬ (l = b ∧ o = a ∧ P i s))
set_option maxRecDepth 100000 in
theorem KP_0 (a b : Nat) (f0 : Nat → Nat) : KP a b (fun _ _ => False) f0 f0 := by
  intro l s o i _ _ _
  simp
set_option maxRecDepth 100000 in
theorem KP_c {a b : Nat} {P P2 : Nat → Nat → Prop} {f0 f : Nat → Nat} (h : KP a b P f0 f) (hp : ∀ s i, P s i ↔ P2 s i) : KP a b P2 f0 f := by
  intro l s o i hl hs ho
  rw [h l s o i hl hs ho, hp s i, hp i s]
set_option maxRecDepth 100000 in
theorem KP_s {a b x y : Nat} {P : Nat → Nat → Prop} {f0 f : Nat → Nat} (h : KP a b P f0 f) (ha : a < 6) (hb : b < 6) (hx : x < 6) (hy : y < 6) : KP a b (fun s i => P s i ∨ (s = x ∧ i = y)) f0 (u1 (u1 f (pi a x b) (clr (f (pi a x b)) (1 <<< y))) (pi b y a) (clr (u1 f (pi a x b) (clr (f (pi a x b)) (1 <<< y)) (pi b y a)) (1 <<< x))) := by
  intro l s o i hl hs ho
  rw [fb_clr _ hs ho hy ha, fb_clr _ hs ho hx hb, h l s o i hl hs ho]
  constructor
  · rintro ⟨⟨⟨h1, h2, h3⟩, h4⟩, h5⟩
    refine ⟨h1, ?_, ?_⟩
    · rintro ⟨e1, e2, e3 | ⟨e3, e4⟩⟩
      · exact h2 ⟨e1, e2, e3⟩
      · exact h4 ⟨e1, e3, e2, e4⟩
    · rintro ⟨e1, e2, e3 | ⟨e3, e4⟩⟩
      · exact h3 ⟨e1, e2, e3⟩
      · exact h5 ⟨e1, e4, e2, e3⟩
  · rintro ⟨h1, h2, h3⟩
    refine ⟨⟨⟨h1, ?_, ?_⟩, ?_⟩, ?_⟩
    · rintro ⟨e1, e2, e3⟩
      exact h2 ⟨e1, e2, .inl e3⟩
    · rintro ⟨e1, e2, e3⟩
      exact h3 ⟨e1, e2, .inl e3⟩
    · rintro ⟨e1, e2, e3, e4⟩
      exact h2 ⟨e1, e3, .inr ⟨e2, e4⟩⟩
    · rintro ⟨e1, e2, e3, e4⟩
      exact h3 ⟨e1, e3, .inr ⟨e4, e2⟩⟩
/-- the slots of another lesson that go with a slot by the rules (c), (d) -/
def gp (σ : Nat → Nat → Nat) (l s o : Nat) : Nat := if sc σ l o = false ∧ stc σ l o = false then (1 <<< (σ 1 2)) - 1 else en (σ 1 2) fun i => decide (cov σ l s &&& cov σ o i = 0)
set_option maxRecDepth 100000 in
theorem ones_tb (n i : Nat) : ((1 <<< n) - 1).testBit i = decide (i < n) := by
  rw [Nat.one_shiftLeft, Nat.testBit_two_pow_sub_one]
set_option maxRecDepth 100000 in
theorem gp_lt {σ : Nat → Nat → Nat} (O : Ok σ) (l s o : Nat) : gp σ l s o < 64 := by
  obtain ⟨hD1, hD2, hH1, hH2, hS, hC, hT, hR, hL, hQ⟩ := Ok_b O
  unfold gp
  have h1 : 2 ^ (σ 1 2) ≤ 2 ^ 6 := Nat.pow_le_pow_right (by decide) (by omega)
  split
  · rw [Nat.one_shiftLeft]
    have := Nat.two_pow_pos (σ 1 2)
    omega
  · have := en_lt (σ 1 2) fun i => decide (cov σ l s &&& cov σ o i = 0)
    omega
set_option maxRecDepth 100000 in
theorem gp_tb2 {σ : Nat → Nat → Nat} {l s o i : Nat} (h : (gp σ l s o).testBit i = true) : i < (σ 1 2) := by
  unfold gp at h
  split at h
  · rw [ones_tb] at h
    exact of_decide_eq_true h
  · rw [en_tb] at h
    simp at h
    exact h.1
set_option maxRecDepth 100000 in
theorem gp_tb {σ : Nat → Nat → Nat} {l s o i : Nat} (hi : i < (σ 1 2)) : (gp σ l s o).testBit i = true ↔ (sc σ l o = false ∧ stc σ l o = false) ∨ cov σ l s &&& cov σ o i = 0 := by
  unfold gp
  by_cases h : sc σ l o = false ∧ stc σ l o = false
  · rw [if_pos h, ones_tb]
    simp [h, hi]
  · rw [if_neg h, en_tb]
    simp only [hi, decide_true, Bool.true_and, decide_eq_true_eq, h, false_or]
/-- the grid's own part of a question -/
def GO (σ M : Nat → Nat → Nat) : Prop := M 19 9 = lh σ ∧ ∀ l, l < (σ 1 6) → ∀ s, s < (σ 1 2) → M 25 (l * 6 + s) = cov σ l s ∧ ∀ o, o < (σ 1 6) → M 24 (pi l s o) = gp σ l s o
section Qa
variable {xs : List Int32} {d : Nat} {σ M : Nat → Nat → Nat} {R h : ab_H} {l o s i u q n : Nat}
set_option maxRecDepth 100000 in
theorem s_27 : ev xs d 27 0 ([.int (nI l), .int (nI s), .int (nI o)], [], h) = some (.inl (some (.int (nI (pi l s o)))), h) := by
  simp (disch := first | assumption | omega | exact st8_a (Nat.le_of_ble_eq_true rfl)) only [eb_27_0, xr_28, xr_31, xr_38, xr_41, xr_48, xr_72, xt_ib, xt_ic, xt_ir, iN_add, iN_mul, iN_sub, iN_and, iN_or, iN_clr, iN_shl, iN_shr, tb_r1, b1_z, b1_or, b1_and, b1_or0, b1_or1, b1_0or, b1_t, b1_f, iN_lt, iN_inj, reduceIte, if_true, if_false, Nat.zero_add, Nat.add_zero, Bool.false_eq_true, Bool.true_eq_false, Nat.lt_irrefl, iN_az, not_true_eq_false, not_false_eq_true, Nat.reduceEqDiff, Nat.reduceLT, Nat.reduceAdd, Nat.reduceMul, Nat.reduceSub]
  rfl
set_option maxRecDepth 100000 in
theorem s_28 : ev xs d 28 0 ([.int (nI l), .int (nI s), .int (nI o)], [], h) = some (.inl (some (.int (nI ((l * 6 + s) * 3 + o)))), h) := by
  simp (disch := first | assumption | omega | exact st8_a (Nat.le_of_ble_eq_true rfl)) only [eb_28_0, xr_28, xr_31, xr_38, xr_41, xr_48, xr_71, xr_72, xt_ib, xt_ic, xt_ir, iN_add, iN_mul, iN_sub, iN_and, iN_or, iN_clr, iN_shl, iN_shr, tb_r1, b1_z, b1_or, b1_and, b1_or0, b1_or1, b1_0or, b1_t, b1_f, iN_lt, iN_inj, reduceIte, if_true, if_false, Nat.zero_add, Nat.add_zero, Bool.false_eq_true, Bool.true_eq_false, Nat.lt_irrefl, iN_az, not_true_eq_false, not_false_eq_true, Nat.reduceEqDiff, Nat.reduceLT, Nat.reduceAdd, Nat.reduceMul, Nat.reduceSub]
set_option maxRecDepth 100000 in
theorem s_30 (O : Ok σ) (hl : l < (σ 1 6)) (hs : s < (σ 1 2)) (ho : o < (σ 1 6)) : ev xs (d + 1) 30 0 ([.ref 19, .int (nI l), .int (nI s), .int (nI o), .retAddr 9, .retAddr 9], [], hc σ M R) = some (.inl (some (.int (nI (gp σ l s o)))), hc σ M R) := by
  obtain ⟨hD1, hD2, hH1, hH2, hS, hC, hT, hR, hL, hQ⟩ := Ok_b O
  have key : ∀ k, k ≤ (σ 1 2) → ev xs (d + 1) 30 7 ([.ref 19, .int (nI l), .int (nI s), .int (nI o), .int (nI (en k fun i => decide (cov σ l s &&& cov σ o i = 0))), .int (nI k)], [], hc σ M R) = some (.inl (some (.int (nI (en (σ 1 2) fun i => decide (cov σ l s &&& cov σ o i = 0))))), hc σ M R) := by
    refine lp (σ 1 2) ?_ ?_
    · rw [eb_30_7]
      simp (disch := first | assumption | omega | exact st8_a (Nat.le_of_ble_eq_true rfl)) only [eb_30_0, eb_30_1, eb_30_2, eb_30_3, eb_30_4, eb_30_5, eb_30_6, eb_30_8, eb_30_9, eb_30_10, eb_30_11, eb_30_12, eb_30_13, kl_a, kl_d, kl_f, kl_i, kl_l, kl_n, kl_r, xr_1, xr_10, xr_2, xr_27, xr_28, xr_3, xr_31, xr_33, xr_34, xr_35, xr_36, xr_37, xr_39, xr_4, xr_44, xr_45, xr_5, xr_58, af_0, af_1, xt_goto, xt_ib, xt_ic, xt_ic_ge, xt_if_ne, xt_ir, xt_nop, gF_19_0, gF_1_2, xq_55_6_virtualc, xq_63_6_virtualc, xq_66_6_virtualc, xq_67_6_virtualc, iN_add, iN_mul, iN_sub, iN_and, iN_or, iN_clr, iN_shl, iN_shr, tb_r1, b1_z, b1_or, b1_and, b1_or0, b1_or1, b1_0or, b1_t, b1_f, iN_lt, iN_inj, reduceIte, if_true, if_false, Nat.zero_add, Nat.add_zero, Bool.false_eq_true, Bool.true_eq_false, Nat.lt_irrefl, iN_az, not_true_eq_false, not_false_eq_true, Nat.reduceEqDiff, Nat.reduceLT, Nat.reduceAdd, Nat.reduceMul, Nat.reduceSub]
    · intro k hk ih
      have c1 := cov_lt O (l := l) hs
      rw [eb_30_7]
      rw [en_st] at ih
      by_cases h1 : cov σ l s &&& cov σ o k = 0
      · rw [if_pos (decide_eq_true h1)] at ih
        simp (disch := first | assumption | omega | exact st8_a (Nat.le_of_ble_eq_true rfl)) only [hk, s_63 O hl hs, s_63 O ho hk, h1, eb_30_0, eb_30_1, eb_30_2, eb_30_3, eb_30_4, eb_30_5, eb_30_6, eb_30_8, eb_30_9, eb_30_10, eb_30_11, eb_30_12, eb_30_13, kl_a, kl_d, kl_f, kl_i, kl_l, kl_n, kl_r, xr_1, xr_10, xr_2, xr_27, xr_28, xr_3, xr_31, xr_33, xr_34, xr_35, xr_36, xr_37, xr_39, xr_4, xr_44, xr_45, xr_5, xr_58, af_0, af_1, xt_goto, xt_ib, xt_ic, xt_ic_ge, xt_if_ne, xt_ir, xt_nop, gF_19_0, gF_1_2, xq_55_6_virtualc, xq_63_6_virtualc, xq_66_6_virtualc, xq_67_6_virtualc, iN_add, iN_mul, iN_sub, iN_and, iN_or, iN_clr, iN_shl, iN_shr, tb_r1, b1_z, b1_or, b1_and, b1_or0, b1_or1, b1_0or, b1_t, b1_f, iN_lt, iN_inj, reduceIte, if_true, if_false, Nat.zero_add, Nat.add_zero, Bool.false_eq_true, Bool.true_eq_false, Nat.lt_irrefl, iN_az, not_true_eq_false, not_false_eq_true, Nat.reduceEqDiff, Nat.reduceLT, Nat.reduceAdd, Nat.reduceMul, Nat.reduceSub]
        exact ih
      · rw [if_neg (by simp [h1])] at ih
        simp (disch := first | assumption | omega | exact st8_a (Nat.le_of_ble_eq_true rfl)) only [hk, s_63 O hl hs, s_63 O ho hk, h1, eb_30_0, eb_30_1, eb_30_2, eb_30_3, eb_30_4, eb_30_5, eb_30_6, eb_30_8, eb_30_9, eb_30_10, eb_30_11, eb_30_12, eb_30_13, kl_a, kl_d, kl_f, kl_i, kl_l, kl_n, kl_r, xr_1, xr_10, xr_2, xr_27, xr_28, xr_3, xr_31, xr_33, xr_34, xr_35, xr_36, xr_37, xr_39, xr_4, xr_44, xr_45, xr_5, xr_58, af_0, af_1, xt_goto, xt_ib, xt_ic, xt_ic_ge, xt_if_ne, xt_ir, xt_nop, gF_19_0, gF_1_2, xq_55_6_virtualc, xq_63_6_virtualc, xq_66_6_virtualc, xq_67_6_virtualc, iN_add, iN_mul, iN_sub, iN_and, iN_or, iN_clr, iN_shl, iN_shr, tb_r1, b1_z, b1_or, b1_and, b1_or0, b1_or1, b1_0or, b1_t, b1_f, iN_lt, iN_inj, reduceIte, if_true, if_false, Nat.zero_add, Nat.add_zero, Bool.false_eq_true, Bool.true_eq_false, Nat.lt_irrefl, iN_az, not_true_eq_false, not_false_eq_true, Nat.reduceEqDiff, Nat.reduceLT, Nat.reduceAdd, Nat.reduceMul, Nat.reduceSub]
        exact ih
  unfold gp
  cases h1 : sc σ l o
  · cases h2 : stc σ l o
    · simp (disch := first | assumption | omega | exact st8_a (Nat.le_of_ble_eq_true rfl)) only [s_66 O hl ho, s_67 O hl ho, s_55 O, h1, h2, and_self, eb_30_0, eb_30_1, eb_30_2, eb_30_3, eb_30_4, eb_30_5, eb_30_6, eb_30_8, eb_30_9, eb_30_10, eb_30_11, eb_30_12, eb_30_13, kl_a, kl_d, kl_f, kl_i, kl_l, kl_n, kl_r, xr_1, xr_10, xr_2, xr_27, xr_28, xr_3, xr_31, xr_33, xr_34, xr_35, xr_36, xr_37, xr_39, xr_4, xr_44, xr_45, xr_5, xr_58, af_0, af_1, xt_goto, xt_ib, xt_ic, xt_ic_ge, xt_if_ne, xt_ir, xt_nop, gF_19_0, gF_1_2, xq_55_6_virtualc, xq_63_6_virtualc, xq_66_6_virtualc, xq_67_6_virtualc, iN_add, iN_mul, iN_sub, iN_and, iN_or, iN_clr, iN_shl, iN_shr, tb_r1, b1_z, b1_or, b1_and, b1_or0, b1_or1, b1_0or, b1_t, b1_f, iN_lt, iN_inj, reduceIte, if_true, if_false, Nat.zero_add, Nat.add_zero, Bool.false_eq_true, Bool.true_eq_false, Nat.lt_irrefl, iN_az, not_true_eq_false, not_false_eq_true, Nat.reduceEqDiff, Nat.reduceLT, Nat.reduceAdd, Nat.reduceMul, Nat.reduceSub]
    · rw [if_neg (by simp)]
      simp (disch := first | assumption | omega | exact st8_a (Nat.le_of_ble_eq_true rfl)) only [s_66 O hl ho, s_67 O hl ho, h1, h2, eb_30_0, eb_30_1, eb_30_2, eb_30_3, eb_30_4, eb_30_5, eb_30_6, eb_30_8, eb_30_9, eb_30_10, eb_30_11, eb_30_12, eb_30_13, kl_a, kl_d, kl_f, kl_i, kl_l, kl_n, kl_r, xr_1, xr_10, xr_2, xr_27, xr_28, xr_3, xr_31, xr_33, xr_34, xr_35, xr_36, xr_37, xr_39, xr_4, xr_44, xr_45, xr_5, xr_58, af_0, af_1, xt_goto, xt_ib, xt_ic, xt_ic_ge, xt_if_ne, xt_ir, xt_nop, gF_19_0, gF_1_2, xq_55_6_virtualc, xq_63_6_virtualc, xq_66_6_virtualc, xq_67_6_virtualc, iN_add, iN_mul, iN_sub, iN_and, iN_or, iN_clr, iN_shl, iN_shr, tb_r1, b1_z, b1_or, b1_and, b1_or0, b1_or1, b1_0or, b1_t, b1_f, iN_lt, iN_inj, reduceIte, if_true, if_false, Nat.zero_add, Nat.add_zero, Bool.false_eq_true, Bool.true_eq_false, Nat.lt_irrefl, iN_az, not_true_eq_false, not_false_eq_true, Nat.reduceEqDiff, Nat.reduceLT, Nat.reduceAdd, Nat.reduceMul, Nat.reduceSub]
      exact key 0 (Nat.zero_le _)
  · rw [if_neg (by simp)]
    simp (disch := first | assumption | omega | exact st8_a (Nat.le_of_ble_eq_true rfl)) only [s_66 O hl ho, h1, eb_30_0, eb_30_1, eb_30_2, eb_30_3, eb_30_4, eb_30_5, eb_30_6, eb_30_8, eb_30_9, eb_30_10, eb_30_11, eb_30_12, eb_30_13, kl_a, kl_d, kl_f, kl_i, kl_l, kl_n, kl_r, xr_1, xr_10, xr_2, xr_27, xr_28, xr_3, xr_31, xr_33, xr_34, xr_35, xr_36, xr_37, xr_39, xr_4, xr_44, xr_45, xr_5, xr_58, af_0, af_1, xt_goto, xt_ib, xt_ic, xt_ic_ge, xt_if_ne, xt_ir, xt_nop, gF_19_0, gF_1_2, xq_55_6_virtualc, xq_63_6_virtualc, xq_66_6_virtualc, xq_67_6_virtualc, iN_add, iN_mul, iN_sub, iN_and, iN_or, iN_clr, iN_shl, iN_shr, tb_r1, b1_z, b1_or, b1_and, b1_or0, b1_or1, b1_0or, b1_t, b1_f, iN_lt, iN_inj, reduceIte, if_true, if_false, Nat.zero_add, Nat.add_zero, Bool.false_eq_true, Bool.true_eq_false, Nat.lt_irrefl, iN_az, not_true_eq_false, not_false_eq_true, Nat.reduceEqDiff, Nat.reduceLT, Nat.reduceAdd, Nat.reduceMul, Nat.reduceSub]
    exact key 0 (Nat.zero_le _)
set_option maxRecDepth 100000 in
theorem s_29 (O : Ok σ) : ∃ M', ev xs (d + 2) 29 0 ([.ref 19, .retAddr 9, .retAddr 9, .retAddr 9], [], hc σ M R) = some (.inl none, hc σ M' R) ∧ Fr [19, 24, 25] M M' ∧ GO σ M' ∧ M' 19 10 = M 19 10 ∧ M' 19 11 = M 19 11 := by
  obtain ⟨hD1, hD2, hH1, hH2, hS, hC, hT, hR, hL, hQ⟩ := Ok_b O
  have key : ∀ k, k ≤ (σ 1 6) → ∀ N y2 y3, (Fr [19, 24, 25] M N ∧ N 19 = u1 (M 19) 9 (lh σ) ∧ ∀ l, l < k → ∀ s, s < (σ 1 2) → N 25 (l * 6 + s) = cov σ l s ∧ ∀ o, o < (σ 1 6) → N 24 (pi l s o) = gp σ l s o) → ∃ M', ev xs (d + 2) 29 2 ([.ref 19, .int (nI k), y2, y3], [], hc σ N R) = some (.inl none, hc σ M' R) ∧ Fr [19, 24, 25] M M' ∧ GO σ M' ∧ M' 19 10 = M 19 10 ∧ M' 19 11 = M 19 11 := by
    refine lp (σ 1 6) ?_ ?_
    · rintro N y2 y3 ⟨i1, i2, i3⟩
      refine ⟨N, ?_, i1, ⟨by rw [i2, u1_s], i3⟩, by rw [i2, u1_n (by decide)], by rw [i2, u1_n (by decide)]⟩
      rw [eb_29_2]
      simp (disch := first | assumption | omega | exact st8_a (Nat.le_of_ble_eq_true rfl)) only [eb_29_0, eb_29_1, eb_29_3, eb_29_5, eb_29_6, eb_29_8, eb_29_9, eb_29_10, eb_29_11, eb_29_12, eb_29_13, kl_a, kl_d, kl_f, kl_i, kl_l, kl_n, kl_r, xr_1, xr_10, xr_2, xr_28, xr_29, xr_3, xr_30, xr_31, xr_32, xr_37, xr_38, xr_4, xr_41, xr_42, xr_43, xr_48, xr_5, xr_73, af_0, af_1, xt_goto, xt_ic_ge, xt_nop, xt_re, gF_19_0, gF_19_5, gF_19_6, gF_1_2, gF_1_6, gW_2, gW_3, gW_4, gW_5, gW_6, gW_7, gW_8, gW_9, gW_10, gW_11, gW_13, gW_14, gW_16, gW_17, gW_20, gW_21, gW_22, gW_23, gW_24, gW_25, gW_26, gW_27, gW_30, gW_31, gW_32, gW_33, gW_34, gW_35, gW_36, gW_38, gW_39, gW_41, gW_42, gW_46, gW_47, gW_49, gW_50, gW_51, gW_53, gW_56, gW_57, gW_59, gW_60, gP_19_9, xq_27_200_static, xq_30_3_virtualc, xq_61_6_virtualc, xq_63_6_virtualc, iN_add, iN_mul, iN_sub, iN_and, iN_or, iN_clr, iN_shl, iN_shr, tb_r1, b1_z, b1_or, b1_and, b1_or0, b1_or1, b1_0or, b1_t, b1_f, iN_lt, iN_inj, reduceIte, if_true, if_false, Nat.zero_add, Nat.add_zero, Bool.false_eq_true, Bool.true_eq_false, Nat.lt_irrefl, iN_az, not_true_eq_false, not_false_eq_true, Nat.reduceEqDiff, Nat.reduceLT, Nat.reduceAdd, Nat.reduceMul, Nat.reduceSub]
    · rintro k hk ih N y2 y3 ⟨i1, i2, i3⟩
      have inn : ∀ j, j ≤ (σ 1 2) → ∀ N y3, (Fr [19, 24, 25] M N ∧ N 19 = u1 (M 19) 9 (lh σ) ∧ (∀ l, l < k → ∀ s, s < (σ 1 2) → N 25 (l * 6 + s) = cov σ l s ∧ ∀ o, o < (σ 1 6) → N 24 (pi l s o) = gp σ l s o) ∧ ∀ s, s < j → N 25 (k * 6 + s) = cov σ k s ∧ ∀ o, o < (σ 1 6) → N 24 (pi k s o) = gp σ k s o) → ∃ M', ev xs (d + 2) 29 4 ([.ref 19, .int (nI k), .int (nI j), y3], [], hc σ N R) = some (.inl none, hc σ M' R) ∧ Fr [19, 24, 25] M M' ∧ GO σ M' ∧ M' 19 10 = M 19 10 ∧ M' 19 11 = M 19 11 := by
        refine lp (σ 1 2) ?_ ?_
        · rintro N y3 ⟨i1, i2, i3, i4⟩
          obtain ⟨M', e, q⟩ := ih N (.int (nI (σ 1 2))) y3 ⟨i1, i2, fun l hl => by
            by_cases h : l = k
            · subst h; exact i4
            · exact i3 l (by omega)⟩
          refine ⟨M', ?_, q⟩
          rw [eb_29_4]
          simp (disch := first | assumption | omega | exact st8_a (Nat.le_of_ble_eq_true rfl)) only [eb_29_0, eb_29_1, eb_29_3, eb_29_5, eb_29_6, eb_29_8, eb_29_9, eb_29_10, eb_29_11, eb_29_12, eb_29_13, kl_a, kl_d, kl_f, kl_i, kl_l, kl_n, kl_r, xr_1, xr_10, xr_2, xr_28, xr_29, xr_3, xr_30, xr_31, xr_32, xr_37, xr_38, xr_4, xr_41, xr_42, xr_43, xr_48, xr_5, xr_73, af_0, af_1, xt_goto, xt_ic_ge, xt_nop, xt_re, gF_19_0, gF_19_5, gF_19_6, gF_1_2, gF_1_6, gW_2, gW_3, gW_4, gW_5, gW_6, gW_7, gW_8, gW_9, gW_10, gW_11, gW_13, gW_14, gW_16, gW_17, gW_20, gW_21, gW_22, gW_23, gW_24, gW_25, gW_26, gW_27, gW_30, gW_31, gW_32, gW_33, gW_34, gW_35, gW_36, gW_38, gW_39, gW_41, gW_42, gW_46, gW_47, gW_49, gW_50, gW_51, gW_53, gW_56, gW_57, gW_59, gW_60, gP_19_9, xq_27_200_static, xq_30_3_virtualc, xq_61_6_virtualc, xq_63_6_virtualc, iN_add, iN_mul, iN_sub, iN_and, iN_or, iN_clr, iN_shl, iN_shr, tb_r1, b1_z, b1_or, b1_and, b1_or0, b1_or1, b1_0or, b1_t, b1_f, iN_lt, iN_inj, reduceIte, if_true, if_false, Nat.zero_add, Nat.add_zero, Bool.false_eq_true, Bool.true_eq_false, Nat.lt_irrefl, iN_az, not_true_eq_false, not_false_eq_true, Nat.reduceEqDiff, Nat.reduceLT, Nat.reduceAdd, Nat.reduceMul, Nat.reduceSub]
          exact e
        · rintro j hj ih2 N y3 ⟨i1, i2, i3, i4⟩
          have inn2 : ∀ p, p ≤ (σ 1 6) → ∀ N, (Fr [19, 24, 25] M N ∧ N 19 = u1 (M 19) 9 (lh σ) ∧ (∀ l, l < k → ∀ s, s < (σ 1 2) → N 25 (l * 6 + s) = cov σ l s ∧ ∀ o, o < (σ 1 6) → N 24 (pi l s o) = gp σ l s o) ∧ (∀ s, s < j → N 25 (k * 6 + s) = cov σ k s ∧ ∀ o, o < (σ 1 6) → N 24 (pi k s o) = gp σ k s o) ∧ N 25 (k * 6 + j) = cov σ k j ∧ ∀ o, o < p → N 24 (pi k j o) = gp σ k j o) → ∃ M', ev xs (d + 2) 29 7 ([.ref 19, .int (nI k), .int (nI j), .int (nI p)], [], hc σ N R) = some (.inl none, hc σ M' R) ∧ Fr [19, 24, 25] M M' ∧ GO σ M' ∧ M' 19 10 = M 19 10 ∧ M' 19 11 = M 19 11 := by
            refine lp (σ 1 6) ?_ ?_
            · rintro N ⟨i1, i2, i3, i4, i5, i6⟩
              obtain ⟨M', e, q⟩ := ih2 N (.int (nI (σ 1 6))) ⟨i1, i2, i3, fun s hs => by
                by_cases h : s = j
                · subst h; exact ⟨i5, i6⟩
                · exact i4 s (by omega)⟩
              refine ⟨M', ?_, q⟩
              rw [eb_29_7]
              simp (disch := first | assumption | omega | exact st8_a (Nat.le_of_ble_eq_true rfl)) only [eb_29_0, eb_29_1, eb_29_3, eb_29_5, eb_29_6, eb_29_8, eb_29_9, eb_29_10, eb_29_11, eb_29_12, eb_29_13, kl_a, kl_d, kl_f, kl_i, kl_l, kl_n, kl_r, xr_1, xr_10, xr_2, xr_28, xr_29, xr_3, xr_30, xr_31, xr_32, xr_37, xr_38, xr_4, xr_41, xr_42, xr_43, xr_48, xr_5, xr_73, af_0, af_1, xt_goto, xt_ic_ge, xt_nop, xt_re, gF_19_0, gF_19_5, gF_19_6, gF_1_2, gF_1_6, gW_2, gW_3, gW_4, gW_5, gW_6, gW_7, gW_8, gW_9, gW_10, gW_11, gW_13, gW_14, gW_16, gW_17, gW_20, gW_21, gW_22, gW_23, gW_24, gW_25, gW_26, gW_27, gW_30, gW_31, gW_32, gW_33, gW_34, gW_35, gW_36, gW_38, gW_39, gW_41, gW_42, gW_46, gW_47, gW_49, gW_50, gW_51, gW_53, gW_56, gW_57, gW_59, gW_60, gP_19_9, xq_27_200_static, xq_30_3_virtualc, xq_61_6_virtualc, xq_63_6_virtualc, iN_add, iN_mul, iN_sub, iN_and, iN_or, iN_clr, iN_shl, iN_shr, tb_r1, b1_z, b1_or, b1_and, b1_or0, b1_or1, b1_0or, b1_t, b1_f, iN_lt, iN_inj, reduceIte, if_true, if_false, Nat.zero_add, Nat.add_zero, Bool.false_eq_true, Bool.true_eq_false, Nat.lt_irrefl, iN_az, not_true_eq_false, not_false_eq_true, Nat.reduceEqDiff, Nat.reduceLT, Nat.reduceAdd, Nat.reduceMul, Nat.reduceSub]
              exact e
            · rintro p hp ih3 N ⟨i1, i2, i3, i4, i5, i6⟩
              have hpi : pi k j p < 216 := by unfold pi; omega
              obtain ⟨M', e, q⟩ := ih3 (up N 24 (pi k j p) (gp σ k j p)) ⟨Fr_p i1 rfl, by rw [up_n (by decide), i2], fun l hl s hs => ⟨by rw [up_n (by decide)]; exact (i3 l hl s hs).1, fun o ho => by
                rw [up_s, u1_n (fun h => by have := pi_inj (by omega) (by omega) (by omega) (by omega) h; omega)]
                exact (i3 l hl s hs).2 o ho⟩, fun s hs => ⟨by rw [up_n (by decide)]; exact (i4 s hs).1, fun o ho => by
                rw [up_s, u1_n (fun h => by have := pi_inj (by omega) (by omega) (by omega) (by omega) h; omega)]
                exact (i4 s hs).2 o ho⟩, by rw [up_n (by decide)]; exact i5, fun o ho => by
                rw [up_s]
                by_cases h : o = p
                · rw [h, u1_s]
                · rw [u1_n (fun h2 => by have := pi_inj (by omega) (by omega) (by omega) (by omega) h2; omega)]
                  exact i6 o (by omega)⟩
              refine ⟨M', ?_, q⟩
              rw [eb_29_7]
              simp (disch := first | assumption | omega | exact st8_a (Nat.le_of_ble_eq_true rfl)) only [hp, s_27, s_30 O hk hj hp, eb_29_0, eb_29_1, eb_29_3, eb_29_5, eb_29_6, eb_29_8, eb_29_9, eb_29_10, eb_29_11, eb_29_12, eb_29_13, kl_a, kl_d, kl_f, kl_i, kl_l, kl_n, kl_r, xr_1, xr_10, xr_2, xr_28, xr_29, xr_3, xr_30, xr_31, xr_32, xr_37, xr_38, xr_4, xr_41, xr_42, xr_43, xr_48, xr_5, xr_73, af_0, af_1, xt_goto, xt_ic_ge, xt_nop, xt_re, gF_19_0, gF_19_5, gF_19_6, gF_1_2, gF_1_6, gW_2, gW_3, gW_4, gW_5, gW_6, gW_7, gW_8, gW_9, gW_10, gW_11, gW_13, gW_14, gW_16, gW_17, gW_20, gW_21, gW_22, gW_23, gW_24, gW_25, gW_26, gW_27, gW_30, gW_31, gW_32, gW_33, gW_34, gW_35, gW_36, gW_38, gW_39, gW_41, gW_42, gW_46, gW_47, gW_49, gW_50, gW_51, gW_53, gW_56, gW_57, gW_59, gW_60, gP_19_9, xq_27_200_static, xq_30_3_virtualc, xq_61_6_virtualc, xq_63_6_virtualc, iN_add, iN_mul, iN_sub, iN_and, iN_or, iN_clr, iN_shl, iN_shr, tb_r1, b1_z, b1_or, b1_and, b1_or0, b1_or1, b1_0or, b1_t, b1_f, iN_lt, iN_inj, reduceIte, if_true, if_false, Nat.zero_add, Nat.add_zero, Bool.false_eq_true, Bool.true_eq_false, Nat.lt_irrefl, iN_az, not_true_eq_false, not_false_eq_true, Nat.reduceEqDiff, Nat.reduceLT, Nat.reduceAdd, Nat.reduceMul, Nat.reduceSub]
              exact e
          have hkj : k * 6 + j < 36 := by omega
          obtain ⟨M', e, q⟩ := inn2 0 (Nat.zero_le _) (up N 25 (k * 6 + j) (cov σ k j)) ⟨Fr_p i1 rfl, by rw [up_n (by decide), i2], fun l hl s hs => ⟨by
            rw [up_s, u1_n (by omega)]
            exact (i3 l hl s hs).1, fun o ho => by
            rw [up_n (by decide)]
            exact (i3 l hl s hs).2 o ho⟩, fun s hs => ⟨by
            rw [up_s, u1_n (by omega)]
            exact (i4 s hs).1, fun o ho => by
            rw [up_n (by decide)]
            exact (i4 s hs).2 o ho⟩, by rw [up_s, u1_s], fun o ho => absurd ho (Nat.not_lt_zero o)⟩
          refine ⟨M', ?_, q⟩
          rw [eb_29_4]
          simp (disch := first | assumption | omega | exact st8_a (Nat.le_of_ble_eq_true rfl)) only [hj, s_63 O hk hj, eb_29_0, eb_29_1, eb_29_3, eb_29_5, eb_29_6, eb_29_8, eb_29_9, eb_29_10, eb_29_11, eb_29_12, eb_29_13, kl_a, kl_d, kl_f, kl_i, kl_l, kl_n, kl_r, xr_1, xr_10, xr_2, xr_28, xr_29, xr_3, xr_30, xr_31, xr_32, xr_37, xr_38, xr_4, xr_41, xr_42, xr_43, xr_48, xr_5, xr_73, af_0, af_1, xt_goto, xt_ic_ge, xt_nop, xt_re, gF_19_0, gF_19_5, gF_19_6, gF_1_2, gF_1_6, gW_2, gW_3, gW_4, gW_5, gW_6, gW_7, gW_8, gW_9, gW_10, gW_11, gW_13, gW_14, gW_16, gW_17, gW_20, gW_21, gW_22, gW_23, gW_24, gW_25, gW_26, gW_27, gW_30, gW_31, gW_32, gW_33, gW_34, gW_35, gW_36, gW_38, gW_39, gW_41, gW_42, gW_46, gW_47, gW_49, gW_50, gW_51, gW_53, gW_56, gW_57, gW_59, gW_60, gP_19_9, xq_27_200_static, xq_30_3_virtualc, xq_61_6_virtualc, xq_63_6_virtualc, iN_add, iN_mul, iN_sub, iN_and, iN_or, iN_clr, iN_shl, iN_shr, tb_r1, b1_z, b1_or, b1_and, b1_or0, b1_or1, b1_0or, b1_t, b1_f, iN_lt, iN_inj, reduceIte, if_true, if_false, Nat.zero_add, Nat.add_zero, Bool.false_eq_true, Bool.true_eq_false, Nat.lt_irrefl, iN_az, not_true_eq_false, not_false_eq_true, Nat.reduceEqDiff, Nat.reduceLT, Nat.reduceAdd, Nat.reduceMul, Nat.reduceSub]
          exact e
      obtain ⟨M', e, q⟩ := inn 0 (Nat.zero_le _) N y3 ⟨i1, i2, i3, fun s hs => absurd hs (Nat.not_lt_zero s)⟩
      refine ⟨M', ?_, q⟩
      rw [eb_29_2]
      simp (disch := first | assumption | omega | exact st8_a (Nat.le_of_ble_eq_true rfl)) only [hk, eb_29_0, eb_29_1, eb_29_3, eb_29_5, eb_29_6, eb_29_8, eb_29_9, eb_29_10, eb_29_11, eb_29_12, eb_29_13, kl_a, kl_d, kl_f, kl_i, kl_l, kl_n, kl_r, xr_1, xr_10, xr_2, xr_28, xr_29, xr_3, xr_30, xr_31, xr_32, xr_37, xr_38, xr_4, xr_41, xr_42, xr_43, xr_48, xr_5, xr_73, af_0, af_1, xt_goto, xt_ic_ge, xt_nop, xt_re, gF_19_0, gF_19_5, gF_19_6, gF_1_2, gF_1_6, gW_2, gW_3, gW_4, gW_5, gW_6, gW_7, gW_8, gW_9, gW_10, gW_11, gW_13, gW_14, gW_16, gW_17, gW_20, gW_21, gW_22, gW_23, gW_24, gW_25, gW_26, gW_27, gW_30, gW_31, gW_32, gW_33, gW_34, gW_35, gW_36, gW_38, gW_39, gW_41, gW_42, gW_46, gW_47, gW_49, gW_50, gW_51, gW_53, gW_56, gW_57, gW_59, gW_60, gP_19_9, xq_27_200_static, xq_30_3_virtualc, xq_61_6_virtualc, xq_63_6_virtualc, iN_add, iN_mul, iN_sub, iN_and, iN_or, iN_clr, iN_shl, iN_shr, tb_r1, b1_z, b1_or, b1_and, b1_or0, b1_or1, b1_0or, b1_t, b1_f, iN_lt, iN_inj, reduceIte, if_true, if_false, Nat.zero_add, Nat.add_zero, Bool.false_eq_true, Bool.true_eq_false, Nat.lt_irrefl, iN_az, not_true_eq_false, not_false_eq_true, Nat.reduceEqDiff, Nat.reduceLT, Nat.reduceAdd, Nat.reduceMul, Nat.reduceSub]
      exact e
  obtain ⟨M', e, q⟩ := key 0 (Nat.zero_le _) (up M 19 9 (lh σ)) (.retAddr 9) (.retAddr 9) ⟨Fr_p (Fr_r _ _) rfl, by rw [up_s], fun l hl => absurd hl (Nat.not_lt_zero l)⟩
  refine ⟨M', ?_, q⟩
  simp (disch := first | assumption | omega | exact st8_a (Nat.le_of_ble_eq_true rfl)) only [s_61 O, eb_29_0, eb_29_1, eb_29_3, eb_29_5, eb_29_6, eb_29_8, eb_29_9, eb_29_10, eb_29_11, eb_29_12, eb_29_13, kl_a, kl_d, kl_f, kl_i, kl_l, kl_n, kl_r, xr_1, xr_10, xr_2, xr_28, xr_29, xr_3, xr_30, xr_31, xr_32, xr_37, xr_38, xr_4, xr_41, xr_42, xr_43, xr_48, xr_5, xr_73, af_0, af_1, xt_goto, xt_ic_ge, xt_nop, xt_re, gF_19_0, gF_19_5, gF_19_6, gF_1_2, gF_1_6, gW_2, gW_3, gW_4, gW_5, gW_6, gW_7, gW_8, gW_9, gW_10, gW_11, gW_13, gW_14, gW_16, gW_17, gW_20, gW_21, gW_22, gW_23, gW_24, gW_25, gW_26, gW_27, gW_30, gW_31, gW_32, gW_33, gW_34, gW_35, gW_36, gW_38, gW_39, gW_41, gW_42, gW_46, gW_47, gW_49, gW_50, gW_51, gW_53, gW_56, gW_57, gW_59, gW_60, gP_19_9, xq_27_200_static, xq_30_3_virtualc, xq_61_6_virtualc, xq_63_6_virtualc, iN_add, iN_mul, iN_sub, iN_and, iN_or, iN_clr, iN_shl, iN_shr, tb_r1, b1_z, b1_or, b1_and, b1_or0, b1_or1, b1_0or, b1_t, b1_f, iN_lt, iN_inj, reduceIte, if_true, if_false, Nat.zero_add, Nat.add_zero, Bool.false_eq_true, Bool.true_eq_false, Nat.lt_irrefl, iN_az, not_true_eq_false, not_false_eq_true, Nat.reduceEqDiff, Nat.reduceLT, Nat.reduceAdd, Nat.reduceMul, Nat.reduceSub]
  exact e
set_option maxRecDepth 100000 in
theorem s_31 (O : Ok σ) (hl : l < (σ 1 6)) : ev xs (d + 2) 31 0 ([.ref 19, .int (nI l), .retAddr 9, .retAddr 9, .retAddr 9], [], hc σ M R) = some (.inl none, hc σ (up (up M 20 l (en (σ 1 2) (sty σ l))) 21 l (en (σ 1 5) (sts σ l))) R) := by
  obtain ⟨hD1, hD2, hH1, hH2, hS, hC, hT, hR, hL, hQ⟩ := Ok_b O
  have key2 : ∀ k, k ≤ (σ 1 5) → ev xs (d + 2) 31 7 ([.ref 19, .int (nI l), .int (nI (en (σ 1 2) (sty σ l))), .int (nI (en k (sts σ l))), .int (nI k)], [], hc σ M R) = some (.inl none, hc σ (up (up M 20 l (en (σ 1 2) (sty σ l))) 21 l (en (σ 1 5) (sts σ l))) R) := by
    refine lp (σ 1 5) ?_ ?_
    · rw [eb_31_7]
      simp (disch := first | assumption | omega | exact st8_a (Nat.le_of_ble_eq_true rfl)) only [eb_31_0, eb_31_2, eb_31_3, eb_31_4, eb_31_5, eb_31_6, eb_31_8, eb_31_9, eb_31_10, eb_31_11, eb_31_12, kl_a, kl_d, kl_f, kl_i, kl_l, kl_n, kl_r, xr_1, xr_10, xr_2, xr_27, xr_28, xr_3, xr_30, xr_31, xr_32, xr_33, xr_34, xr_37, xr_4, xr_40, xr_43, xr_45, xr_5, xr_58, af_0, af_1, xt_goto, xt_ic_ge, xt_if_eq, xt_nop, xt_re, gF_19_0, gF_19_1, gF_19_2, gF_1_2, gF_1_5, gW_2, gW_3, gW_4, gW_5, gW_6, gW_7, gW_8, gW_9, gW_10, gW_11, gW_13, gW_14, gW_16, gW_17, gW_20, gW_21, gW_22, gW_23, gW_24, gW_25, gW_26, gW_27, gW_30, gW_31, gW_32, gW_33, gW_34, gW_35, gW_36, gW_38, gW_39, gW_41, gW_42, gW_46, gW_47, gW_49, gW_50, gW_51, gW_53, gW_56, gW_57, gW_59, gW_60, xq_64_6_virtualc, xq_65_6_virtualc, iN_add, iN_mul, iN_sub, iN_and, iN_or, iN_clr, iN_shl, iN_shr, tb_r1, b1_z, b1_or, b1_and, b1_or0, b1_or1, b1_0or, b1_t, b1_f, iN_lt, iN_inj, reduceIte, if_true, if_false, Nat.zero_add, Nat.add_zero, Bool.false_eq_true, Bool.true_eq_false, Nat.lt_irrefl, iN_az, not_true_eq_false, not_false_eq_true, Nat.reduceEqDiff, Nat.reduceLT, Nat.reduceAdd, Nat.reduceMul, Nat.reduceSub]
    · intro k hk ih
      rw [eb_31_7]
      rw [en_st] at ih
      have s1 := s_65 (xs := xs) (d := d + 1) (M := M) (R := R) O hl hk
      cases h : sts σ l k <;> rw [h] at s1 ih <;> simp (disch := first | assumption | omega | exact st8_a (Nat.le_of_ble_eq_true rfl)) only [hk, s1, eb_31_0, eb_31_2, eb_31_3, eb_31_4, eb_31_5, eb_31_6, eb_31_8, eb_31_9, eb_31_10, eb_31_11, eb_31_12, kl_a, kl_d, kl_f, kl_i, kl_l, kl_n, kl_r, xr_1, xr_10, xr_2, xr_27, xr_28, xr_3, xr_30, xr_31, xr_32, xr_33, xr_34, xr_37, xr_4, xr_40, xr_43, xr_45, xr_5, xr_58, af_0, af_1, xt_goto, xt_ic_ge, xt_if_eq, xt_nop, xt_re, gF_19_0, gF_19_1, gF_19_2, gF_1_2, gF_1_5, gW_2, gW_3, gW_4, gW_5, gW_6, gW_7, gW_8, gW_9, gW_10, gW_11, gW_13, gW_14, gW_16, gW_17, gW_20, gW_21, gW_22, gW_23, gW_24, gW_25, gW_26, gW_27, gW_30, gW_31, gW_32, gW_33, gW_34, gW_35, gW_36, gW_38, gW_39, gW_41, gW_42, gW_46, gW_47, gW_49, gW_50, gW_51, gW_53, gW_56, gW_57, gW_59, gW_60, xq_64_6_virtualc, xq_65_6_virtualc, iN_add, iN_mul, iN_sub, iN_and, iN_or, iN_clr, iN_shl, iN_shr, tb_r1, b1_z, b1_or, b1_and, b1_or0, b1_or1, b1_0or, b1_t, b1_f, iN_lt, iN_inj, reduceIte, if_true, if_false, Nat.zero_add, Nat.add_zero, Bool.false_eq_true, Bool.true_eq_false, Nat.lt_irrefl, iN_az, not_true_eq_false, not_false_eq_true, Nat.reduceEqDiff, Nat.reduceLT, Nat.reduceAdd, Nat.reduceMul, Nat.reduceSub] <;> exact ih
  have key : ∀ k, k ≤ (σ 1 2) → ev xs (d + 2) 31 1 ([.ref 19, .int (nI l), .int (nI (en k (sty σ l))), .int (nI k), .retAddr 9], [], hc σ M R) = some (.inl none, hc σ (up (up M 20 l (en (σ 1 2) (sty σ l))) 21 l (en (σ 1 5) (sts σ l))) R) := by
    refine lp (σ 1 2) ?_ ?_
    · rw [eb_31_1]
      simp (disch := first | assumption | omega | exact st8_a (Nat.le_of_ble_eq_true rfl)) only [eb_31_0, eb_31_2, eb_31_3, eb_31_4, eb_31_5, eb_31_6, eb_31_8, eb_31_9, eb_31_10, eb_31_11, eb_31_12, kl_a, kl_d, kl_f, kl_i, kl_l, kl_n, kl_r, xr_1, xr_10, xr_2, xr_27, xr_28, xr_3, xr_30, xr_31, xr_32, xr_33, xr_34, xr_37, xr_4, xr_40, xr_43, xr_45, xr_5, xr_58, af_0, af_1, xt_goto, xt_ic_ge, xt_if_eq, xt_nop, xt_re, gF_19_0, gF_19_1, gF_19_2, gF_1_2, gF_1_5, gW_2, gW_3, gW_4, gW_5, gW_6, gW_7, gW_8, gW_9, gW_10, gW_11, gW_13, gW_14, gW_16, gW_17, gW_20, gW_21, gW_22, gW_23, gW_24, gW_25, gW_26, gW_27, gW_30, gW_31, gW_32, gW_33, gW_34, gW_35, gW_36, gW_38, gW_39, gW_41, gW_42, gW_46, gW_47, gW_49, gW_50, gW_51, gW_53, gW_56, gW_57, gW_59, gW_60, xq_64_6_virtualc, xq_65_6_virtualc, iN_add, iN_mul, iN_sub, iN_and, iN_or, iN_clr, iN_shl, iN_shr, tb_r1, b1_z, b1_or, b1_and, b1_or0, b1_or1, b1_0or, b1_t, b1_f, iN_lt, iN_inj, reduceIte, if_true, if_false, Nat.zero_add, Nat.add_zero, Bool.false_eq_true, Bool.true_eq_false, Nat.lt_irrefl, iN_az, not_true_eq_false, not_false_eq_true, Nat.reduceEqDiff, Nat.reduceLT, Nat.reduceAdd, Nat.reduceMul, Nat.reduceSub]
      exact key2 0 (Nat.zero_le _)
    · intro k hk ih
      rw [eb_31_1]
      rw [en_st] at ih
      have s1 := s_64 (xs := xs) (d := d) (M := M) (R := R) O hl hk
      cases h : sty σ l k <;> rw [h] at s1 ih <;> simp (disch := first | assumption | omega | exact st8_a (Nat.le_of_ble_eq_true rfl)) only [hk, s1, eb_31_0, eb_31_2, eb_31_3, eb_31_4, eb_31_5, eb_31_6, eb_31_8, eb_31_9, eb_31_10, eb_31_11, eb_31_12, kl_a, kl_d, kl_f, kl_i, kl_l, kl_n, kl_r, xr_1, xr_10, xr_2, xr_27, xr_28, xr_3, xr_30, xr_31, xr_32, xr_33, xr_34, xr_37, xr_4, xr_40, xr_43, xr_45, xr_5, xr_58, af_0, af_1, xt_goto, xt_ic_ge, xt_if_eq, xt_nop, xt_re, gF_19_0, gF_19_1, gF_19_2, gF_1_2, gF_1_5, gW_2, gW_3, gW_4, gW_5, gW_6, gW_7, gW_8, gW_9, gW_10, gW_11, gW_13, gW_14, gW_16, gW_17, gW_20, gW_21, gW_22, gW_23, gW_24, gW_25, gW_26, gW_27, gW_30, gW_31, gW_32, gW_33, gW_34, gW_35, gW_36, gW_38, gW_39, gW_41, gW_42, gW_46, gW_47, gW_49, gW_50, gW_51, gW_53, gW_56, gW_57, gW_59, gW_60, xq_64_6_virtualc, xq_65_6_virtualc, iN_add, iN_mul, iN_sub, iN_and, iN_or, iN_clr, iN_shl, iN_shr, tb_r1, b1_z, b1_or, b1_and, b1_or0, b1_or1, b1_0or, b1_t, b1_f, iN_lt, iN_inj, reduceIte, if_true, if_false, Nat.zero_add, Nat.add_zero, Bool.false_eq_true, Bool.true_eq_false, Nat.lt_irrefl, iN_az, not_true_eq_false, not_false_eq_true, Nat.reduceEqDiff, Nat.reduceLT, Nat.reduceAdd, Nat.reduceMul, Nat.reduceSub] <;> exact ih
  simp (disch := first | assumption | omega | exact st8_a (Nat.le_of_ble_eq_true rfl)) only [eb_31_0, eb_31_2, eb_31_3, eb_31_4, eb_31_5, eb_31_6, eb_31_8, eb_31_9, eb_31_10, eb_31_11, eb_31_12, kl_a, kl_d, kl_f, kl_i, kl_l, kl_n, kl_r, xr_1, xr_10, xr_2, xr_27, xr_28, xr_3, xr_30, xr_31, xr_32, xr_33, xr_34, xr_37, xr_4, xr_40, xr_43, xr_45, xr_5, xr_58, af_0, af_1, xt_goto, xt_ic_ge, xt_if_eq, xt_nop, xt_re, gF_19_0, gF_19_1, gF_19_2, gF_1_2, gF_1_5, gW_2, gW_3, gW_4, gW_5, gW_6, gW_7, gW_8, gW_9, gW_10, gW_11, gW_13, gW_14, gW_16, gW_17, gW_20, gW_21, gW_22, gW_23, gW_24, gW_25, gW_26, gW_27, gW_30, gW_31, gW_32, gW_33, gW_34, gW_35, gW_36, gW_38, gW_39, gW_41, gW_42, gW_46, gW_47, gW_49, gW_50, gW_51, gW_53, gW_56, gW_57, gW_59, gW_60, xq_64_6_virtualc, xq_65_6_virtualc, iN_add, iN_mul, iN_sub, iN_and, iN_or, iN_clr, iN_shl, iN_shr, tb_r1, b1_z, b1_or, b1_and, b1_or0, b1_or1, b1_0or, b1_t, b1_f, iN_lt, iN_inj, reduceIte, if_true, if_false, Nat.zero_add, Nat.add_zero, Bool.false_eq_true, Bool.true_eq_false, Nat.lt_irrefl, iN_az, not_true_eq_false, not_false_eq_true, Nat.reduceEqDiff, Nat.reduceLT, Nat.reduceAdd, Nat.reduceMul, Nat.reduceSub]
  exact key 0 (Nat.zero_le _)
set_option maxRecDepth 100000 in
theorem s_37 (O : Ok σ) (hl : l < (σ 1 6)) (hc25 : ∀ s, s < (σ 1 2) → M 25 (l * 6 + s) = cov σ l s) : ∃ x, ev xs d 37 0 ([.ref 19, .int (nI l), .int (nI u), .retAddr 9], [], hc σ M R) = some (.inl none, hc σ (up M 20 l x) R) ∧ ∀ i, x.testBit i = ((M 20 l).testBit i && !(decide (i < (σ 1 2)) && decide (cov σ l i &&& u ≠ 0))) := by
  obtain ⟨hD1, hD2, hH1, hH2, hS, hC, hT, hR, hL, hQ⟩ := Ok_b O
  have key : ∀ k, k ≤ (σ 1 2) → ∀ x0, (∀ i, x0.testBit i = ((M 20 l).testBit i && !(decide (i < k) && decide (cov σ l i &&& u ≠ 0)))) → ∃ x, ev xs d 37 1 ([.ref 19, .int (nI l), .int (nI u), .int (nI k)], [], hc σ (up M 20 l x0) R) = some (.inl none, hc σ (up M 20 l x) R) ∧ ∀ i, x.testBit i = ((M 20 l).testBit i && !(decide (i < (σ 1 2)) && decide (cov σ l i &&& u ≠ 0))) := by
    refine lp (σ 1 2) ?_ ?_
    · intro x0 hx
      refine ⟨x0, ?_, hx⟩
      rw [eb_37_1]
      simp (disch := first | assumption | omega | exact st8_a (Nat.le_of_ble_eq_true rfl)) only [eb_37_0, eb_37_2, eb_37_3, eb_37_4, eb_37_5, kl_a, kl_d, kl_f, kl_i, kl_l, kl_n, kl_r, xr_1, xr_10, xr_2, xr_27, xr_28, xr_3, xr_31, xr_32, xr_37, xr_38, xr_4, xr_41, xr_43, xr_44, xr_48, xr_5, xr_58, xr_64, xr_74, xr_75, xt_goto, xt_ic_ge, xt_if_eq, xt_nop, xt_re, gF_19_0, gF_19_1, gF_19_6, gF_1_2, gA_2, gA_3, gA_4, gA_5, gA_6, gA_7, gA_8, gA_9, gA_10, gA_11, gA_13, gA_14, gA_16, gA_17, gA_20, gA_21, gA_22, gA_23, gA_24, gA_25, gA_26, gA_27, gA_30, gA_31, gA_32, gA_33, gA_34, gA_35, gA_36, gA_38, gA_39, gA_41, gA_42, gA_46, gA_47, gA_49, gA_50, gA_51, gA_53, gA_56, gA_57, gA_59, gA_60, gW_2, gW_3, gW_4, gW_5, gW_6, gW_7, gW_8, gW_9, gW_10, gW_11, gW_13, gW_14, gW_16, gW_17, gW_20, gW_21, gW_22, gW_23, gW_24, gW_25, gW_26, gW_27, gW_30, gW_31, gW_32, gW_33, gW_34, gW_35, gW_36, gW_38, gW_39, gW_41, gW_42, gW_46, gW_47, gW_49, gW_50, gW_51, gW_53, gW_56, gW_57, gW_59, gW_60, iN_add, iN_mul, iN_sub, iN_and, iN_or, iN_clr, iN_shl, iN_shr, tb_r1, b1_z, b1_or, b1_and, b1_or0, b1_or1, b1_0or, b1_t, b1_f, iN_lt, iN_inj, reduceIte, if_true, if_false, Nat.zero_add, Nat.add_zero, Bool.false_eq_true, Bool.true_eq_false, Nat.lt_irrefl, iN_az, not_true_eq_false, not_false_eq_true, Nat.reduceEqDiff, Nat.reduceLT, Nat.reduceAdd, Nat.reduceMul, Nat.reduceSub]
    · intro k hk ih x0 hx
      have e1 : up M 20 l x0 25 (l * 6 + k) = cov σ l k := by rw [up_n (by decide)]; exact hc25 k hk
      have e2 : up M 20 l x0 20 l = x0 := by rw [up_s, u1_s]
      have c1 := cov_lt O (l := l) hk
      rw [eb_37_1]
      by_cases h1 : cov σ l k &&& u = 0
      · obtain ⟨x, e, q⟩ := ih x0 fun i => by
          rw [hx i]
          by_cases hi : i = k
          · subst hi; simp [h1]
          · simp [show (i < k + 1) ↔ (i < k) by omega]
        refine ⟨x, ?_, q⟩
        simp (disch := first | assumption | omega | exact st8_a (Nat.le_of_ble_eq_true rfl)) only [hk, e1, h1, eb_37_0, eb_37_2, eb_37_3, eb_37_4, eb_37_5, kl_a, kl_d, kl_f, kl_i, kl_l, kl_n, kl_r, xr_1, xr_10, xr_2, xr_27, xr_28, xr_3, xr_31, xr_32, xr_37, xr_38, xr_4, xr_41, xr_43, xr_44, xr_48, xr_5, xr_58, xr_64, xr_74, xr_75, xt_goto, xt_ic_ge, xt_if_eq, xt_nop, xt_re, gF_19_0, gF_19_1, gF_19_6, gF_1_2, gA_2, gA_3, gA_4, gA_5, gA_6, gA_7, gA_8, gA_9, gA_10, gA_11, gA_13, gA_14, gA_16, gA_17, gA_20, gA_21, gA_22, gA_23, gA_24, gA_25, gA_26, gA_27, gA_30, gA_31, gA_32, gA_33, gA_34, gA_35, gA_36, gA_38, gA_39, gA_41, gA_42, gA_46, gA_47, gA_49, gA_50, gA_51, gA_53, gA_56, gA_57, gA_59, gA_60, gW_2, gW_3, gW_4, gW_5, gW_6, gW_7, gW_8, gW_9, gW_10, gW_11, gW_13, gW_14, gW_16, gW_17, gW_20, gW_21, gW_22, gW_23, gW_24, gW_25, gW_26, gW_27, gW_30, gW_31, gW_32, gW_33, gW_34, gW_35, gW_36, gW_38, gW_39, gW_41, gW_42, gW_46, gW_47, gW_49, gW_50, gW_51, gW_53, gW_56, gW_57, gW_59, gW_60, iN_add, iN_mul, iN_sub, iN_and, iN_or, iN_clr, iN_shl, iN_shr, tb_r1, b1_z, b1_or, b1_and, b1_or0, b1_or1, b1_0or, b1_t, b1_f, iN_lt, iN_inj, reduceIte, if_true, if_false, Nat.zero_add, Nat.add_zero, Bool.false_eq_true, Bool.true_eq_false, Nat.lt_irrefl, iN_az, not_true_eq_false, not_false_eq_true, Nat.reduceEqDiff, Nat.reduceLT, Nat.reduceAdd, Nat.reduceMul, Nat.reduceSub]
        exact e
      · obtain ⟨x, e, q⟩ := ih (clr x0 (1 <<< k)) fun i => by
          rw [clr_b, hx i]
          by_cases hi : i = k
          · subst hi; simp [h1]
          · simp [hi, show (i < k + 1) ↔ (i < k) by omega]
        refine ⟨x, ?_, q⟩
        simp (disch := first | assumption | omega | exact st8_a (Nat.le_of_ble_eq_true rfl)) only [hk, e1, e2, h1, up_up, eb_37_0, eb_37_2, eb_37_3, eb_37_4, eb_37_5, kl_a, kl_d, kl_f, kl_i, kl_l, kl_n, kl_r, xr_1, xr_10, xr_2, xr_27, xr_28, xr_3, xr_31, xr_32, xr_37, xr_38, xr_4, xr_41, xr_43, xr_44, xr_48, xr_5, xr_58, xr_64, xr_74, xr_75, xt_goto, xt_ic_ge, xt_if_eq, xt_nop, xt_re, gF_19_0, gF_19_1, gF_19_6, gF_1_2, gA_2, gA_3, gA_4, gA_5, gA_6, gA_7, gA_8, gA_9, gA_10, gA_11, gA_13, gA_14, gA_16, gA_17, gA_20, gA_21, gA_22, gA_23, gA_24, gA_25, gA_26, gA_27, gA_30, gA_31, gA_32, gA_33, gA_34, gA_35, gA_36, gA_38, gA_39, gA_41, gA_42, gA_46, gA_47, gA_49, gA_50, gA_51, gA_53, gA_56, gA_57, gA_59, gA_60, gW_2, gW_3, gW_4, gW_5, gW_6, gW_7, gW_8, gW_9, gW_10, gW_11, gW_13, gW_14, gW_16, gW_17, gW_20, gW_21, gW_22, gW_23, gW_24, gW_25, gW_26, gW_27, gW_30, gW_31, gW_32, gW_33, gW_34, gW_35, gW_36, gW_38, gW_39, gW_41, gW_42, gW_46, gW_47, gW_49, gW_50, gW_51, gW_53, gW_56, gW_57, gW_59, gW_60, iN_add, iN_mul, iN_sub, iN_and, iN_or, iN_clr, iN_shl, iN_shr, tb_r1, b1_z, b1_or, b1_and, b1_or0, b1_or1, b1_0or, b1_t, b1_f, iN_lt, iN_inj, reduceIte, if_true, if_false, Nat.zero_add, Nat.add_zero, Bool.false_eq_true, Bool.true_eq_false, Nat.lt_irrefl, iN_az, not_true_eq_false, not_false_eq_true, Nat.reduceEqDiff, Nat.reduceLT, Nat.reduceAdd, Nat.reduceMul, Nat.reduceSub]
        exact e
  obtain ⟨x, e, q⟩ := key 0 (Nat.zero_le _) (M 20 l) fun i => by simp
  refine ⟨x, ?_, q⟩
  rw [show up M 20 l (M 20 l) = M by
    funext b j
    unfold up u1
    by_cases h : b = 20
    · subst h
      by_cases h2 : j = l
      · subst h2; simp
      · simp [h2]
    · simp [h]] at e
  simp (disch := first | assumption | omega | exact st8_a (Nat.le_of_ble_eq_true rfl)) only [eb_37_0, eb_37_2, eb_37_3, eb_37_4, eb_37_5, kl_a, kl_d, kl_f, kl_i, kl_l, kl_n, kl_r, xr_1, xr_10, xr_2, xr_27, xr_28, xr_3, xr_31, xr_32, xr_37, xr_38, xr_4, xr_41, xr_43, xr_44, xr_48, xr_5, xr_58, xr_64, xr_74, xr_75, xt_goto, xt_ic_ge, xt_if_eq, xt_nop, xt_re, gF_19_0, gF_19_1, gF_19_6, gF_1_2, gA_2, gA_3, gA_4, gA_5, gA_6, gA_7, gA_8, gA_9, gA_10, gA_11, gA_13, gA_14, gA_16, gA_17, gA_20, gA_21, gA_22, gA_23, gA_24, gA_25, gA_26, gA_27, gA_30, gA_31, gA_32, gA_33, gA_34, gA_35, gA_36, gA_38, gA_39, gA_41, gA_42, gA_46, gA_47, gA_49, gA_50, gA_51, gA_53, gA_56, gA_57, gA_59, gA_60, gW_2, gW_3, gW_4, gW_5, gW_6, gW_7, gW_8, gW_9, gW_10, gW_11, gW_13, gW_14, gW_16, gW_17, gW_20, gW_21, gW_22, gW_23, gW_24, gW_25, gW_26, gW_27, gW_30, gW_31, gW_32, gW_33, gW_34, gW_35, gW_36, gW_38, gW_39, gW_41, gW_42, gW_46, gW_47, gW_49, gW_50, gW_51, gW_53, gW_56, gW_57, gW_59, gW_60, iN_add, iN_mul, iN_sub, iN_and, iN_or, iN_clr, iN_shl, iN_shr, tb_r1, b1_z, b1_or, b1_and, b1_or0, b1_or1, b1_0or, b1_t, b1_f, iN_lt, iN_inj, reduceIte, if_true, if_false, Nat.zero_add, Nat.add_zero, Bool.false_eq_true, Bool.true_eq_false, Nat.lt_irrefl, iN_az, not_true_eq_false, not_false_eq_true, Nat.reduceEqDiff, Nat.reduceLT, Nat.reduceAdd, Nat.reduceMul, Nat.reduceSub]
  exact e
end Qa
