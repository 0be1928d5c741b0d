/-! THE CLASS Rings: extend, moveOne -/
abbrev RT : Type := Nat × (Nat → Nat) × (Nat → Nat)
/-- a ring is weighed: the lightest so far stays or is taken over -/
def RW (σ : Nat → Nat → Nat) (s r g : Nat → Nat) (m : Nat) (st : RT) : RT := if wt σ (mvk g s m m) (mvk g r m m) < st.1 ∧ flt σ (mvk g s m m) (mvk g r m m) = 0 ∧ brk σ (mvk g s m m) (mvk g r m m) = 0 then (wt σ (mvk g s m m) (mvk g r m m), mvk g s m m, mvk g r m m) else st
/-- c steps from a on -/
def fo (F : Nat → RT → RT) : Nat → Nat → RT → RT
  | 0, _, st => st
  | c + 1, a, st => fo F c (a + 1) (F a st)
/-- all rings that begin so, in their order; k places are open -/
def RE (σ : Nat → Nat → Nat) (s r : Nat → Nat) : Nat → Nat → (Nat → Nat) → RT → RT
  | 0, i, g, st => RW σ s r g i st
  | k + 1, i, g, st => fo (fun l st => if σ 7 l = σ 7 (g 0) ∧ (al i fun j => decide (g j ≠ l)) = true then RE σ s r k (i + 1) (u1 g i l) st else st) ((σ 1 6) - (g 0 + 1)) (g 0 + 1) st
abbrev GR : List Nat := [44, 45, 46, 47, 48, 49, 50, 51]
/-- what the lightest so far is -/
def rst (M : Nat → Nat → Nat) : RT := (M 44 5, M 49, M 50)
section Ri
variable {xs : List Int32} {σ M N : Nat → Nat → Nat} {R : ab_H} {d k a b u i v n m : Nat} {f g s r : Nat → Nat} {st : RT}
set_option maxRecDepth 100000 in
theorem mvk_cg {g2 : Nat → Nat} (h : ∀ j, j < m → g2 j = g j) : ∀ k, k ≤ m → mvk g2 f m k = mvk g f m k := by
  intro k
  induction k with
  | zero => intro _; rfl
  | succ k ih =>
    intro hk
    rw [mvk, mvk, ih (by omega), h k (by omega)]
    split
    · rw [h (k + 1) (by omega)]
    · rw [h 0 (by omega)]
set_option maxRecDepth 100000 in
theorem RW_cg {g2 : Nat → Nat} (h : ∀ j, j < m → g2 j = g j) : RW σ s r g2 m st = RW σ s r g m st := by
  unfold RW
  rw [mvk_cg h m (Nat.le_refl _), mvk_cg h m (Nat.le_refl _)]
set_option maxRecDepth 100000 in
theorem fo_cg {F G : Nat → RT → RT} (h : ∀ l st, F l st = G l st) : ∀ c a st, fo F c a st = fo G c a st := by
  intro c
  induction c with
  | zero => intro a st; rfl
  | succ c ih => intro a st; rw [fo, fo, h, ih]
/-- the table that the rings are taken from, and bounds -/
def RQ (σ M : Nat → Nat → Nat) : Prop := M 12 0 = 1 ∧ M 12 1 = (σ 1 6) ∧ (∀ l, l < (σ 1 6) → M 13 l < (σ 1 2)) ∧ (∀ l, l < (σ 1 6) → M 14 l < (σ 1 5)) ∧ M 44 5 < 2147483648 ∧ M 48 0 = 1 ∧ M 48 1 = (σ 1 6)
set_option maxRecDepth 100000 in
theorem s_46 (O : Ok σ) (hm : m ≤ 4) : ∀ k i, i + k = m → 1 ≤ i → ∀ M : Nat → Nat → Nat, RQ σ M → (∀ j, j < i → M 51 j < (σ 1 6)) → ∃ M', ev xs (d + k + 5) 46 0 ([.ref 44, .ref 12, .int (nI i), .int (nI m), .retAddr 9], [], hc σ M R) = some (.inl none, hc σ M' R) ∧ Fr GR M M' ∧ RQ σ M' ∧ (∀ j, j < i → M' 51 j = M 51 j) ∧ rst M' = RE σ (M 13) (M 14) k i (M 51) (rst M) := by
  obtain ⟨hD1, hD2, hH1, hH2, hS, hC, hT, hR, hL, hQ⟩ := Ok_b O
  intro k
  induction k with
  | zero =>
    intro i hi h1 M hq hg
    have him : i = m := by omega
    subst him
    obtain ⟨q1, q2, q3, q4, q5, q6, q7⟩ := hq
    obtain ⟨M', e, f1, f2, f3⟩ := s_48 (xs := xs) (d := d) (M := M) (R := R) O hm hg q1 q2 q3 q4 q5
    have fr : Fr GR M M' := Fr_w f1 fun a ha => by simp at ha ⊢; omega
    have hwl : wt σ (mvk (M 51) (M 13) i i) (mvk (M 51) (M 14) i i) < 1000 := wt_lt O (mvk_b q3 hg i (Nat.le_refl _))
    have hii : ¬ i < i := by omega
    have ee : ev xs (d + 0 + 5) 46 0 ([.ref 44, .ref 12, .int (nI i), .int (nI i), .retAddr 9], [], hc σ M R) = some (.inl none, hc σ M' R) := by
      clear f1 f2 f3 q3 q4 fr hg
      simp (disch := first | assumption | omega | exact st8_a (Nat.le_of_ble_eq_true rfl)) only [hii, e, eb_46_0, eb_46_2, eb_46_3, kl_a, kl_d, kl_f, kl_i, kl_l, kl_n, kl_r, xr_1, xr_10, xr_11, xr_12, xr_13, xr_14, xr_15, xr_2, xr_27, xr_3, xr_31, xr_33, xr_34, xr_37, xr_38, xr_4, xr_40, xr_5, xr_67, af_0, af_1, xt_goto, xt_ic_ge, xt_ic_lt, xt_ic_ne, xt_if_ne, xt_nop, xt_re, gF_44_0, gF_44_4, gF_1_14, gF_1_6, gA_2, gA_3, gA_4, gA_5, gA_6, gA_7, gA_8, gA_9, gA_10, gA_11, gA_13, gA_14, gA_16, gA_17, gA_20, gA_21, gA_22, gA_23, gA_24, gA_25, gA_26, gA_27, gA_30, gA_31, gA_32, gA_33, gA_34, gA_35, gA_36, gA_38, gA_39, gA_41, gA_42, gA_46, gA_47, gA_49, gA_50, gA_51, gA_53, gA_56, gA_57, gA_59, gA_60, gW_2, gW_3, gW_4, gW_5, gW_6, gW_7, gW_8, gW_9, gW_10, gW_11, gW_13, gW_14, gW_16, gW_17, gW_20, gW_21, gW_22, gW_23, gW_24, gW_25, gW_26, gW_27, gW_30, gW_31, gW_32, gW_33, gW_34, gW_35, gW_36, gW_38, gW_39, gW_41, gW_42, gW_46, gW_47, gW_49, gW_50, gW_51, gW_53, gW_56, gW_57, gW_59, gW_60, xq_46_4_virtualc, xq_47_4_virtualc, xq_48_4_virtualc, iN_add, iN_mul, iN_sub, iN_and, iN_or, iN_clr, iN_shl, iN_shr, tb_r1, b1_z, b1_or, b1_and, b1_or0, b1_or1, b1_0or, b1_t, b1_f, iN_lt, iN_inj, reduceIte, if_true, if_false, Nat.zero_add, Nat.add_zero, Bool.false_eq_true, Bool.true_eq_false, Nat.lt_irrefl, iN_az, not_true_eq_false, not_false_eq_true, Nat.reduceEqDiff, Nat.reduceLT, Nat.reduceAdd, Nat.reduceMul, Nat.reduceSub]
    refine ⟨M', ee, fr, ?_, fun j _ => by rw [f1 51 rfl], ?_⟩
    · by_cases hc2 : wt σ (mvk (M 51) (M 13) i i) (mvk (M 51) (M 14) i i) < M 44 5 ∧ flt σ (mvk (M 51) (M 13) i i) (mvk (M 51) (M 14) i i) = 0 ∧ brk σ (mvk (M 51) (M 13) i i) (mvk (M 51) (M 14) i i) = 0
      · obtain ⟨z1, z2, z3, z4, z5⟩ := f2 hc2
        exact ⟨by rw [f1 12 rfl]; exact q1, by rw [f1 12 rfl]; exact q2, by rw [f1 13 rfl]; exact q3, by rw [f1 14 rfl]; exact q4, by omega, z4, z5⟩
      · obtain ⟨z1, z2, z3, z4⟩ := f3 hc2
        exact ⟨by rw [f1 12 rfl]; exact q1, by rw [f1 12 rfl]; exact q2, by rw [f1 13 rfl]; exact q3, by rw [f1 14 rfl]; exact q4, by rw [z1]; exact q5, by rw [z2]; exact q6, by rw [z2]; exact q7⟩
    · rw [RE, RW, rst, rst]
      by_cases hc2 : wt σ (mvk (M 51) (M 13) i i) (mvk (M 51) (M 14) i i) < M 44 5 ∧ flt σ (mvk (M 51) (M 13) i i) (mvk (M 51) (M 14) i i) = 0 ∧ brk σ (mvk (M 51) (M 13) i i) (mvk (M 51) (M 14) i i) = 0
      · obtain ⟨z1, z2, z3, z4, z5⟩ := f2 hc2
        rw [if_pos hc2, z1, z2, z3]
      · obtain ⟨z1, z2, z3, z4⟩ := f3 hc2
        rw [if_neg hc2, z1, z3, z4]
  | succ k ih =>
    intro i hi h1 M hq hg
    sorry
end Ri
