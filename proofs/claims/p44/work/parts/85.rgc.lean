/-! THE CLASS Rings: extend, moveOne -/
abbrev RT : Type := Nat × (Nat → Nat) × (Nat → Nat)
/-- a ring is weighed: the lightest so far stays or is taken over -/
def RW (σ : Nat → Nat → Nat) (s r g : Nat → Nat) (m : Nat) (st : RT) : RT := if wt σ (mvk g s m m) (mvk g r m m) < st.1 ∧ flt σ (mvk g s m m) (mvk g r m m) = 0 ∧ brk σ (mvk g s m m) (mvk g r m m) = 0 then (wt σ (mvk g s m m) (mvk g r m m), mvk g s m m, mvk g r m m) else st
/-- c steps from a on -/
def fo (F : Nat → RT → RT) : Nat → Nat → RT → RT
  | 0, _, st => st
  | c + 1, a, st => fo F c (a + 1) (F a st)
/-- all rings that begin so, in their order; k places are open -/
def RE (σ : Nat → Nat → Nat) (s r : Nat → Nat) : Nat → Nat → (Nat → Nat) → RT → RT
  | 0, i, g, st => RW σ s r g i st
  | k + 1, i, g, st => fo (fun l st => if σ 7 l = σ 7 (g 0) ∧ (al i fun j => decide (g j ≠ l)) = true then RE σ s r k (i + 1) (u1 g i l) st else st) ((σ 1 6) - (g 0 + 1)) (g 0 + 1) st
abbrev GR : List Nat := [44, 45, 46, 47, 48, 49, 50, 51]
/-- what the lightest so far is -/
def rst (M : Nat → Nat → Nat) : RT := (M 44 5, M 49, M 50)
section Ri
variable {xs : List Int32} {σ M N : Nat → Nat → Nat} {R : ab_H} {d k a b u i v n m : Nat} {f g s r : Nat → Nat} {st : RT}
set_option maxRecDepth 100000 in
theorem mvk_cg {g2 : Nat → Nat} (h : ∀ j, j < m → g2 j = g j) : ∀ k, k ≤ m → mvk g2 f m k = mvk g f m k := by
  intro k
  induction k with
  | zero => intro _; rfl
  | succ k ih =>
    intro hk
    rw [mvk, mvk, ih (by omega), h k (by omega)]
    split
    · rw [h (k + 1) (by omega)]
    · rw [h 0 (by omega)]
set_option maxRecDepth 100000 in
theorem RW_cg {g2 : Nat → Nat} (h : ∀ j, j < m → g2 j = g j) : RW σ s r g2 m st = RW σ s r g m st := by
  unfold RW
  rw [mvk_cg h m (Nat.le_refl _), mvk_cg h m (Nat.le_refl _)]
set_option maxRecDepth 100000 in
theorem fo_cg {F G : Nat → RT → RT} (h : ∀ l st, F l st = G l st) : ∀ c a st, fo F c a st = fo G c a st := by
  intro c
  induction c with
  | zero => intro a st; rfl
  | succ c ih => intro a st; rw [fo, fo, h, ih]
set_option maxRecDepth 100000 in
theorem al_cg {n : Nat} {p q : Nat → Bool} (h : ∀ i, i < n → p i = q i) : al n p = al n q := by
  induction n with
  | zero => rfl
  | succ n ih => rw [al, al, ih fun i hi => h i (by omega), h n (by omega)]
set_option maxRecDepth 100000 in
theorem RE_cg : ∀ k i, 1 ≤ i → ∀ {g g2 : Nat → Nat}, (∀ j, j < i → g2 j = g j) → ∀ st, RE σ s r k i g2 st = RE σ s r k i g st := by
  intro k
  induction k with
  | zero =>
    intro i _ g g2 h st
    exact RW_cg h
  | succ k ih =>
    intro i hi g g2 h st
    rw [RE, RE, h 0 (by omega)]
    refine fo_cg (fun l st => ?_) _ _ _
    rw [al_cg (n := i) (p := fun j => decide (g2 j ≠ l)) (q := fun j => decide (g j ≠ l)) fun j hj => by rw [h j hj]]
    split
    · refine ih (i + 1) (by omega) (fun j hj => ?_) st
      by_cases hji : j = i
      · rw [hji, u1_s, u1_s]
      · rw [u1_n hji, u1_n hji, h j (by omega)]
    · rfl
/-- the table that the rings are taken from, and bounds -/
def RQ (σ M : Nat → Nat → Nat) : Prop := M 12 0 = 1 ∧ M 12 1 = (σ 1 6) ∧ (∀ l, l < (σ 1 6) → M 13 l < (σ 1 2)) ∧ (∀ l, l < (σ 1 6) → M 14 l < (σ 1 5)) ∧ M 44 5 < 2147483648 ∧ M 48 0 = 1 ∧ M 48 1 = (σ 1 6)
set_option maxRecDepth 100000 in
theorem s_46 (O : Ok σ) (hm : m ≤ 4) : ∀ k i, i + k = m → 1 ≤ i → ∀ M : Nat → Nat → Nat, RQ σ M → (∀ j, j < i → M 51 j < (σ 1 6)) → ∃ M', ev xs (d + k + 5) 46 0 ([.ref 44, .ref 12, .int (nI i), .int (nI m), .retAddr 9], [], hc σ M R) = some (.inl none, hc σ M' R) ∧ Fr GR M M' ∧ RQ σ M' ∧ (∀ j, j < i → M' 51 j = M 51 j) ∧ rst M' = RE σ (M 13) (M 14) k i (M 51) (rst M) := by
  obtain ⟨hD1, hD2, hH1, hH2, hS, hC, hT, hR, hL, hQ⟩ := Ok_b O
  intro k
  induction k with
  | zero =>
    intro i hi h1 M hq hg
    have him : i = m := by omega
    subst him
    obtain ⟨q1, q2, q3, q4, q5, q6, q7⟩ := hq
    obtain ⟨M', e, f1, f2, f3⟩ := s_48 (xs := xs) (d := d) (M := M) (R := R) O hm hg q1 q2 q3 q4 q5
    have fr : Fr GR M M' := Fr_w f1 fun a ha => by simp at ha ⊢; omega
    have hwl : wt σ (mvk (M 51) (M 13) i i) (mvk (M 51) (M 14) i i) < 1000 := wt_lt O (mvk_b q3 hg i (Nat.le_refl _))
    have hii : ¬ i < i := by omega
    have ee : ev xs (d + 0 + 5) 46 0 ([.ref 44, .ref 12, .int (nI i), .int (nI i), .retAddr 9], [], hc σ M R) = some (.inl none, hc σ M' R) := by
      clear f1 f2 f3 q3 q4 fr hg
      simp (disch := first | assumption | omega | exact st8_a (Nat.le_of_ble_eq_true rfl)) only [hii, e, eb_46_0, eb_46_2, eb_46_3, kl_a, kl_d, kl_f, kl_i, kl_l, kl_n, kl_r, xr_1, xr_10, xr_11, xr_12, xr_13, xr_14, xr_15, xr_2, xr_27, xr_3, xr_31, xr_33, xr_34, xr_37, xr_38, xr_4, xr_40, xr_5, xr_67, af_0, af_1, xt_goto, xt_ic_ge, xt_ic_lt, xt_ic_ne, xt_if_ne, xt_nop, xt_re, gF_44_0, gF_44_4, gF_1_14, gF_1_6, gA_2, gA_3, gA_4, gA_5, gA_6, gA_7, gA_8, gA_9, gA_10, gA_11, gA_13, gA_14, gA_16, gA_17, gA_20, gA_21, gA_22, gA_23, gA_24, gA_25, gA_26, gA_27, gA_30, gA_31, gA_32, gA_33, gA_34, gA_35, gA_36, gA_38, gA_39, gA_41, gA_42, gA_46, gA_47, gA_49, gA_50, gA_51, gA_53, gA_56, gA_57, gA_59, gA_60, gW_2, gW_3, gW_4, gW_5, gW_6, gW_7, gW_8, gW_9, gW_10, gW_11, gW_13, gW_14, gW_16, gW_17, gW_20, gW_21, gW_22, gW_23, gW_24, gW_25, gW_26, gW_27, gW_30, gW_31, gW_32, gW_33, gW_34, gW_35, gW_36, gW_38, gW_39, gW_41, gW_42, gW_46, gW_47, gW_49, gW_50, gW_51, gW_53, gW_56, gW_57, gW_59, gW_60, xq_46_4_virtualc, xq_47_4_virtualc, xq_48_4_virtualc, iN_add, iN_mul, iN_sub, iN_and, iN_or, iN_clr, iN_shl, iN_shr, tb_r1, b1_z, b1_or, b1_and, b1_or0, b1_or1, b1_0or, b1_t, b1_f, iN_lt, iN_inj, reduceIte, if_true, if_false, Nat.zero_add, Nat.add_zero, Bool.false_eq_true, Bool.true_eq_false, Nat.lt_irrefl, iN_az, not_true_eq_false, not_false_eq_true, Nat.reduceEqDiff, Nat.reduceLT, Nat.reduceAdd, Nat.reduceMul, Nat.reduceSub]
    refine ⟨M', ee, fr, ?_, fun j _ => by rw [f1 51 rfl], ?_⟩
    · by_cases hc2 : wt σ (mvk (M 51) (M 13) i i) (mvk (M 51) (M 14) i i) < M 44 5 ∧ flt σ (mvk (M 51) (M 13) i i) (mvk (M 51) (M 14) i i) = 0 ∧ brk σ (mvk (M 51) (M 13) i i) (mvk (M 51) (M 14) i i) = 0
      · obtain ⟨z1, z2, z3, z4, z5⟩ := f2 hc2
        exact ⟨by rw [f1 12 rfl]; exact q1, by rw [f1 12 rfl]; exact q2, by rw [f1 13 rfl]; exact q3, by rw [f1 14 rfl]; exact q4, by omega, z4, z5⟩
      · obtain ⟨z1, z2, z3, z4⟩ := f3 hc2
        exact ⟨by rw [f1 12 rfl]; exact q1, by rw [f1 12 rfl]; exact q2, by rw [f1 13 rfl]; exact q3, by rw [f1 14 rfl]; exact q4, by rw [z1]; exact q5, by rw [z2]; exact q6, by rw [z2]; exact q7⟩
    · rw [RE, RW, rst, rst]
      by_cases hc2 : wt σ (mvk (M 51) (M 13) i i) (mvk (M 51) (M 14) i i) < M 44 5 ∧ flt σ (mvk (M 51) (M 13) i i) (mvk (M 51) (M 14) i i) = 0 ∧ brk σ (mvk (M 51) (M 13) i i) (mvk (M 51) (M 14) i i) = 0
      · obtain ⟨z1, z2, z3, z4, z5⟩ := f2 hc2
        rw [if_pos hc2, z1, z2, z3]
      · obtain ⟨z1, z2, z3, z4⟩ := f3 hc2
        rw [if_neg hc2, z1, z3, z4]
  | succ k ih =>
    intro i hi h1 M hq hg
    have hiL : ¬ m ≤ i := by omega
    have hi4 : i < 4 := by omega
    have g0 := hg 0 (by omega)
    have key : ∀ l, l ≤ (σ 1 6) → M 51 0 + 1 ≤ l → ∀ M2 : Nat → Nat → Nat, Fr GR M M2 → RQ σ M2 → (∀ j, j < i → M2 51 j = M 51 j) → ∃ M', ev xs (d + (k + 1) + 5) 46 5 ([.ref 44, .ref 12, .int (nI i), .int (nI m), .int (nI l)], [], hc σ M2 R) = some (.inl none, hc σ M' R) ∧ Fr GR M M' ∧ RQ σ M' ∧ (∀ j, j < i → M' 51 j = M 51 j) ∧ rst M' = fo (fun l st => if σ 7 l = σ 7 (M 51 0) ∧ (al i fun j => decide (M 51 j ≠ l)) = true then RE σ (M 13) (M 14) k (i + 1) (u1 (M 51) i l) st else st) ((σ 1 6) - l) l (rst M2) := by
      refine lp (σ 1 6) ?_ ?_
      · intro _ M2 f1 f2 f3
        refine ⟨M2, ?_, f1, f2, f3, ?_⟩
        · rw [eb_46_5]
          clear f1 f2 f3 hg ih hq
          simp (disch := first | assumption | omega | exact st8_a (Nat.le_of_ble_eq_true rfl)) only [eb_46_11, kl_a, kl_d, kl_f, kl_i, kl_l, kl_n, kl_r, xr_1, xr_10, xr_11, xr_12, xr_13, xr_14, xr_15, xr_2, xr_27, xr_3, xr_31, xr_33, xr_34, xr_37, xr_38, xr_4, xr_40, xr_5, xr_67, af_0, af_1, xt_goto, xt_ic_ge, xt_ic_lt, xt_ic_ne, xt_if_ne, xt_nop, xt_re, gF_44_0, gF_44_4, gF_1_14, gF_1_6, gA_2, gA_3, gA_4, gA_5, gA_6, gA_7, gA_8, gA_9, gA_10, gA_11, gA_13, gA_14, gA_16, gA_17, gA_20, gA_21, gA_22, gA_23, gA_24, gA_25, gA_26, gA_27, gA_30, gA_31, gA_32, gA_33, gA_34, gA_35, gA_36, gA_38, gA_39, gA_41, gA_42, gA_46, gA_47, gA_49, gA_50, gA_51, gA_53, gA_56, gA_57, gA_59, gA_60, gW_2, gW_3, gW_4, gW_5, gW_6, gW_7, gW_8, gW_9, gW_10, gW_11, gW_13, gW_14, gW_16, gW_17, gW_20, gW_21, gW_22, gW_23, gW_24, gW_25, gW_26, gW_27, gW_30, gW_31, gW_32, gW_33, gW_34, gW_35, gW_36, gW_38, gW_39, gW_41, gW_42, gW_46, gW_47, gW_49, gW_50, gW_51, gW_53, gW_56, gW_57, gW_59, gW_60, xq_46_4_virtualc, xq_47_4_virtualc, xq_48_4_virtualc, iN_add, iN_mul, iN_sub, iN_and, iN_or, iN_clr, iN_shl, iN_shr, tb_r1, b1_z, b1_or, b1_and, b1_or0, b1_or1, b1_0or, b1_t, b1_f, iN_lt, iN_inj, reduceIte, if_true, if_false, Nat.zero_add, Nat.add_zero, Bool.false_eq_true, Bool.true_eq_false, Nat.lt_irrefl, iN_az, not_true_eq_false, not_false_eq_true, Nat.reduceEqDiff, Nat.reduceLT, Nat.reduceAdd, Nat.reduceMul, Nat.reduceSub]
        · rw [Nat.sub_self]
          rfl
      · intro l hl ihl hl0 M2 f1 f2 f3
        have e0 : M2 51 0 = M 51 0 := f3 0 (by omega)
        have hs : (σ 1 6) - l = ((σ 1 6) - (l + 1)) + 1 := by omega
        have l1 := (Ok_l O hl).2.2
        have l2 := (Ok_l O g0).2.2
        have l2' : σ 7 (M2 51 0) = 1 ∨ σ 7 (M2 51 0) = 2 := by rw [e0]; exact l2
        obtain ⟨b, e1, x1⟩ := s_47 (xs := xs) (d := d + (k + 1) + 4) (M := M2) (R := R) (σ := σ) (i := l) (m := i) (by omega) (by omega) (fun j hj => by rw [f3 j hj]; have := hg j hj; omega)
        have hb : b = true ↔ ¬ (al i fun j => decide (M 51 j ≠ l)) = true := by
          rw [x1, al_t]
          constructor
          · rintro ⟨j, h2, h3⟩ h4
            have := h4 j h2
            rw [f3 j h2] at h3
            simp [h3] at this
          · intro h4
            have h5 : ∃ j, j < i ∧ M 51 j = l := by
              by_cases h6 : ∃ j, j < i ∧ M 51 j = l
              · exact h6
              · exact absurd (fun j hj => decide_eq_true (show M 51 j ≠ l from fun z => h6 ⟨j, hj, z⟩)) h4
            obtain ⟨j, h6, h7⟩ := h5
            exact ⟨j, h6, by rw [f3 j h6]; exact h7⟩
        by_cases h2 : σ 7 l = σ 7 (M 51 0)
        · cases b
          · have hal : (al i fun j => decide (M 51 j ≠ l)) = true := by
              by_cases h : (al i fun j => decide (M 51 j ≠ l)) = true
              · exact h
              · have := hb.mpr h
                cases this
            have hup : ∀ a, a ≠ 51 → up M2 51 i l a = M2 a := fun a ha => up_n ha
            have hr2 : RQ σ (up M2 51 i l) := by
              unfold RQ
              rw [hup 12 (by decide), hup 13 (by decide), hup 14 (by decide), hup 44 (by decide), hup 48 (by decide)]
              exact f2
            obtain ⟨M3, e3, p1, p2, p3, p4⟩ := ih (i + 1) (by omega) (by omega) (up M2 51 i l) hr2 (fun j hj => by
              rw [up_s]
              by_cases hji : j = i
              · rw [hji, u1_s]; exact hl
              · rw [u1_n hji, f3 j (by omega)]; exact hg j (by omega))
            have p3' : ∀ j, j < i → M3 51 j = M 51 j := fun j hj => by
              rw [p3 j (by omega), up_s, u1_n (by omega), f3 j hj]
            obtain ⟨M', e4, r1, r2, r3, r4⟩ := ihl (by omega) M3 (Fr_t (Fr_p f1 rfl) p1) p2 p3'
            refine ⟨M', ?_, r1, r2, r3, ?_⟩
            · have e5 : M2 51 0 < 6 := by omega
              have h2' : σ 7 l = σ 7 (M2 51 0) := by rw [e0]; exact h2
              rw [show d + k + 5 = d + (k + 1) + 4 from rfl] at e3
              rw [b1_f] at e1
              rw [eb_46_5]
              clear ih ihl r1 r2 r3 r4 p1 p2 p3 p3' p4 f1 f2 f3 hb x1 hal hr2 hup hg hq
              simp (disch := first | assumption | omega | exact st8_a (Nat.le_of_ble_eq_true rfl)) only [hl, e1, eq_true h2', e3, eb_46_6, eb_46_7, eb_46_8, eb_46_9, eb_46_10, kl_a, kl_d, kl_f, kl_i, kl_l, kl_n, kl_r, xr_1, xr_10, xr_11, xr_12, xr_13, xr_14, xr_15, xr_2, xr_27, xr_3, xr_31, xr_33, xr_34, xr_37, xr_38, xr_4, xr_40, xr_5, xr_67, af_0, af_1, xt_goto, xt_ic_ge, xt_ic_lt, xt_ic_ne, xt_if_ne, xt_nop, xt_re, gF_44_0, gF_44_4, gF_1_14, gF_1_6, gA_2, gA_3, gA_4, gA_5, gA_6, gA_7, gA_8, gA_9, gA_10, gA_11, gA_13, gA_14, gA_16, gA_17, gA_20, gA_21, gA_22, gA_23, gA_24, gA_25, gA_26, gA_27, gA_30, gA_31, gA_32, gA_33, gA_34, gA_35, gA_36, gA_38, gA_39, gA_41, gA_42, gA_46, gA_47, gA_49, gA_50, gA_51, gA_53, gA_56, gA_57, gA_59, gA_60, gW_2, gW_3, gW_4, gW_5, gW_6, gW_7, gW_8, gW_9, gW_10, gW_11, gW_13, gW_14, gW_16, gW_17, gW_20, gW_21, gW_22, gW_23, gW_24, gW_25, gW_26, gW_27, gW_30, gW_31, gW_32, gW_33, gW_34, gW_35, gW_36, gW_38, gW_39, gW_41, gW_42, gW_46, gW_47, gW_49, gW_50, gW_51, gW_53, gW_56, gW_57, gW_59, gW_60, xq_46_4_virtualc, xq_47_4_virtualc, xq_48_4_virtualc, iN_add, iN_mul, iN_sub, iN_and, iN_or, iN_clr, iN_shl, iN_shr, tb_r1, b1_z, b1_or, b1_and, b1_or0, b1_or1, b1_0or, b1_t, b1_f, iN_lt, iN_inj, reduceIte, if_true, if_false, Nat.zero_add, Nat.add_zero, Bool.false_eq_true, Bool.true_eq_false, Nat.lt_irrefl, iN_az, not_true_eq_false, not_false_eq_true, Nat.reduceEqDiff, Nat.reduceLT, Nat.reduceAdd, Nat.reduceMul, Nat.reduceSub]
              exact e4
            · rw [hs, fo, if_pos ⟨h2, hal⟩, r4, p4]
              have a13 : up M2 51 i l 13 = M 13 := by rw [hup 13 (by decide)]; exact f1 13 rfl
              have a14 : up M2 51 i l 14 = M 14 := by rw [hup 14 (by decide)]; exact f1 14 rfl
              have ars : rst (up M2 51 i l) = rst M2 := by
                unfold rst
                rw [hup 44 (by decide), hup 49 (by decide), hup 50 (by decide)]
              rw [a13, a14, ars, up_s]
              rw [RE_cg (σ := σ) k (i + 1) (by omega) (g := u1 (M 51) i l) (g2 := u1 (M2 51) i l) fun j hj => by
                by_cases hji : j = i
                · rw [hji, u1_s, u1_s]
                · rw [u1_n hji, u1_n hji, f3 j (by omega)]]
          · have hal := hb.mp rfl
            obtain ⟨M', e4, r1, r2, r3, r4⟩ := ihl (by omega) M2 f1 f2 f3
            refine ⟨M', ?_, r1, r2, r3, by rw [hs, fo, if_neg fun z => hal z.2, r4]⟩
            have e5 : M2 51 0 < 6 := by omega
            have h2' : σ 7 l = σ 7 (M2 51 0) := by rw [e0]; exact h2
            rw [b1_t] at e1
            rw [eb_46_5]
            clear ih ihl r1 r2 r3 r4 f1 f2 f3 hb x1 hal hg hq
            simp (disch := first | assumption | omega | exact st8_a (Nat.le_of_ble_eq_true rfl)) only [hl, e1, eq_true h2', eb_46_6, eb_46_7, eb_46_8, eb_46_10, kl_a, kl_d, kl_f, kl_i, kl_l, kl_n, kl_r, xr_1, xr_10, xr_11, xr_12, xr_13, xr_14, xr_15, xr_2, xr_27, xr_3, xr_31, xr_33, xr_34, xr_37, xr_38, xr_4, xr_40, xr_5, xr_67, af_0, af_1, xt_goto, xt_ic_ge, xt_ic_lt, xt_ic_ne, xt_if_ne, xt_nop, xt_re, gF_44_0, gF_44_4, gF_1_14, gF_1_6, gA_2, gA_3, gA_4, gA_5, gA_6, gA_7, gA_8, gA_9, gA_10, gA_11, gA_13, gA_14, gA_16, gA_17, gA_20, gA_21, gA_22, gA_23, gA_24, gA_25, gA_26, gA_27, gA_30, gA_31, gA_32, gA_33, gA_34, gA_35, gA_36, gA_38, gA_39, gA_41, gA_42, gA_46, gA_47, gA_49, gA_50, gA_51, gA_53, gA_56, gA_57, gA_59, gA_60, gW_2, gW_3, gW_4, gW_5, gW_6, gW_7, gW_8, gW_9, gW_10, gW_11, gW_13, gW_14, gW_16, gW_17, gW_20, gW_21, gW_22, gW_23, gW_24, gW_25, gW_26, gW_27, gW_30, gW_31, gW_32, gW_33, gW_34, gW_35, gW_36, gW_38, gW_39, gW_41, gW_42, gW_46, gW_47, gW_49, gW_50, gW_51, gW_53, gW_56, gW_57, gW_59, gW_60, xq_46_4_virtualc, xq_47_4_virtualc, xq_48_4_virtualc, iN_add, iN_mul, iN_sub, iN_and, iN_or, iN_clr, iN_shl, iN_shr, tb_r1, b1_z, b1_or, b1_and, b1_or0, b1_or1, b1_0or, b1_t, b1_f, iN_lt, iN_inj, reduceIte, if_true, if_false, Nat.zero_add, Nat.add_zero, Bool.false_eq_true, Bool.true_eq_false, Nat.lt_irrefl, iN_az, not_true_eq_false, not_false_eq_true, Nat.reduceEqDiff, Nat.reduceLT, Nat.reduceAdd, Nat.reduceMul, Nat.reduceSub]
            exact e4
        · obtain ⟨M', e4, r1, r2, r3, r4⟩ := ihl (by omega) M2 f1 f2 f3
          refine ⟨M', ?_, r1, r2, r3, by rw [hs, fo, if_neg fun z => h2 z.1, r4]⟩
          have e5 : M2 51 0 < 6 := by omega
          have h2' : ¬ σ 7 l = σ 7 (M2 51 0) := by rw [e0]; exact h2
          rw [eb_46_5]
          clear ih ihl r1 r2 r3 r4 f1 f2 f3 hb x1 hg hq
          simp (disch := first | assumption | omega | exact st8_a (Nat.le_of_ble_eq_true rfl)) only [hl, h2', eb_46_6, eb_46_10, kl_a, kl_d, kl_f, kl_i, kl_l, kl_n, kl_r, xr_1, xr_10, xr_11, xr_12, xr_13, xr_14, xr_15, xr_2, xr_27, xr_3, xr_31, xr_33, xr_34, xr_37, xr_38, xr_4, xr_40, xr_5, xr_67, af_0, af_1, xt_goto, xt_ic_ge, xt_ic_lt, xt_ic_ne, xt_if_ne, xt_nop, xt_re, gF_44_0, gF_44_4, gF_1_14, gF_1_6, gA_2, gA_3, gA_4, gA_5, gA_6, gA_7, gA_8, gA_9, gA_10, gA_11, gA_13, gA_14, gA_16, gA_17, gA_20, gA_21, gA_22, gA_23, gA_24, gA_25, gA_26, gA_27, gA_30, gA_31, gA_32, gA_33, gA_34, gA_35, gA_36, gA_38, gA_39, gA_41, gA_42, gA_46, gA_47, gA_49, gA_50, gA_51, gA_53, gA_56, gA_57, gA_59, gA_60, gW_2, gW_3, gW_4, gW_5, gW_6, gW_7, gW_8, gW_9, gW_10, gW_11, gW_13, gW_14, gW_16, gW_17, gW_20, gW_21, gW_22, gW_23, gW_24, gW_25, gW_26, gW_27, gW_30, gW_31, gW_32, gW_33, gW_34, gW_35, gW_36, gW_38, gW_39, gW_41, gW_42, gW_46, gW_47, gW_49, gW_50, gW_51, gW_53, gW_56, gW_57, gW_59, gW_60, xq_46_4_virtualc, xq_47_4_virtualc, xq_48_4_virtualc, iN_add, iN_mul, iN_sub, iN_and, iN_or, iN_clr, iN_shl, iN_shr, tb_r1, b1_z, b1_or, b1_and, b1_or0, b1_or1, b1_0or, b1_t, b1_f, iN_lt, iN_inj, reduceIte, if_true, if_false, Nat.zero_add, Nat.add_zero, Bool.false_eq_true, Bool.true_eq_false, Nat.lt_irrefl, iN_az, not_true_eq_false, not_false_eq_true, Nat.reduceEqDiff, Nat.reduceLT, Nat.reduceAdd, Nat.reduceMul, Nat.reduceSub]
          exact e4
    obtain ⟨M', e, r1, r2, r3, r4⟩ := key (M 51 0 + 1) (by omega) (Nat.le_refl _) M (Fr_r _ _) hq fun _ _ => rfl
    refine ⟨M', ?_, r1, r2, r3, by rw [RE, r4]⟩
    have hiL2 : i < m := by omega
    clear key ih r1 r2 r3 r4 hg hq
    rw [eb_46_0]
    simp (disch := first | assumption | omega | exact st8_a (Nat.le_of_ble_eq_true rfl)) only [hiL2, hi4, eb_46_1, eb_46_4, kl_a, kl_d, kl_f, kl_i, kl_l, kl_n, kl_r, xr_1, xr_10, xr_11, xr_12, xr_13, xr_14, xr_15, xr_2, xr_27, xr_3, xr_31, xr_33, xr_34, xr_37, xr_38, xr_4, xr_40, xr_5, xr_67, af_0, af_1, xt_goto, xt_ic_ge, xt_ic_lt, xt_ic_ne, xt_if_ne, xt_nop, xt_re, gF_44_0, gF_44_4, gF_1_14, gF_1_6, gA_2, gA_3, gA_4, gA_5, gA_6, gA_7, gA_8, gA_9, gA_10, gA_11, gA_13, gA_14, gA_16, gA_17, gA_20, gA_21, gA_22, gA_23, gA_24, gA_25, gA_26, gA_27, gA_30, gA_31, gA_32, gA_33, gA_34, gA_35, gA_36, gA_38, gA_39, gA_41, gA_42, gA_46, gA_47, gA_49, gA_50, gA_51, gA_53, gA_56, gA_57, gA_59, gA_60, gW_2, gW_3, gW_4, gW_5, gW_6, gW_7, gW_8, gW_9, gW_10, gW_11, gW_13, gW_14, gW_16, gW_17, gW_20, gW_21, gW_22, gW_23, gW_24, gW_25, gW_26, gW_27, gW_30, gW_31, gW_32, gW_33, gW_34, gW_35, gW_36, gW_38, gW_39, gW_41, gW_42, gW_46, gW_47, gW_49, gW_50, gW_51, gW_53, gW_56, gW_57, gW_59, gW_60, xq_46_4_virtualc, xq_47_4_virtualc, xq_48_4_virtualc, iN_add, iN_mul, iN_sub, iN_and, iN_or, iN_clr, iN_shl, iN_shr, tb_r1, b1_z, b1_or, b1_and, b1_or0, b1_or1, b1_0or, b1_t, b1_f, iN_lt, iN_inj, reduceIte, if_true, if_false, Nat.zero_add, Nat.add_zero, Bool.false_eq_true, Bool.true_eq_false, Nat.lt_irrefl, iN_az, not_true_eq_false, not_false_eq_true, Nat.reduceEqDiff, Nat.reduceLT, Nat.reduceAdd, Nat.reduceMul, Nat.reduceSub]
    exact e
end Ri
