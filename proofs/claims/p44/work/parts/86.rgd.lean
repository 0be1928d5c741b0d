/-! THE CLASS Rings: moveOne -/
/-- all rings of m lessons -/
def RM (σ : Nat → Nat → Nat) (s r : Nat → Nat) (m : Nat) (st : RT) : RT := fo (fun l st => RE σ s r (m - 1) 1 (fun _ => l) st) (σ 1 6) 0 st
/-- the lightest table that one ring gives -/
def RO (σ : Nat → Nat → Nat) (s r : Nat → Nat) : RT := RM σ s r 4 (RM σ s r 3 (RM σ s r 2 (wt σ s r, s, r)))
section Rj
variable {xs : List Int32} {σ M N : Nat → Nat → Nat} {R : ab_H} {d k a b u i v n m : Nat} {f g s r : Nat → Nat} {st : RT}
set_option maxRecDepth 100000 in
theorem s_45i (O : Ok σ) (hm2 : 2 ≤ m) (hm : m ≤ 4) {w : Nat} : ∀ l, l ≤ (σ 1 6) → ∀ M2 : Nat → Nat → Nat, Fr GR M M2 → RQ σ M2 → ∃ M3, ev xs (d + 9) 45 5 ([.ref 44, .ref 12, .int (nI w), .int (nI m), .int (nI l)], [], hc σ M2 R) = ev xs (d + 9) 45 3 ([.ref 44, .ref 12, .int (nI w), .int (nI (m + 1)), .int (nI (σ 1 6))], [], hc σ M3 R) ∧ Fr GR M M3 ∧ RQ σ M3 ∧ rst M3 = fo (fun l st => RE σ (M 13) (M 14) (m - 1) 1 (fun _ => l) st) ((σ 1 6) - l) l (rst M2) := by
  obtain ⟨hD1, hD2, hH1, hH2, hS, hC, hT, hR, hL, hQ⟩ := Ok_b O
  refine lp (σ 1 6) ?_ ?_
  · intro M2 f1 f2
    refine ⟨M2, ?_, f1, f2, ?_⟩
    · rw [eb_45_5]
      clear f1 f2
      simp (disch := first | assumption | omega | exact st8_a (Nat.le_of_ble_eq_true rfl)) only [eb_45_8, kl_a, kl_d, kl_f, kl_i, kl_l, kl_n, kl_r, xr_1, xr_10, xr_11, xr_12, xr_13, xr_14, xr_15, xr_2, xr_27, xr_3, xr_30, xr_31, xr_32, xr_33, xr_34, xr_37, xr_4, xr_40, xr_43, xr_5, xr_65, xr_67, xr_77, af_0, af_1, xt_goto, xt_ib, xt_ic, xt_ic_ge, xt_ic_gt, xt_ir, xt_nop, gF_44_0, gF_44_1, gF_44_3, gF_44_4, gF_44_5, gF_1_6, gW_2, gW_3, gW_4, gW_5, gW_6, gW_7, gW_8, gW_9, gW_10, gW_11, gW_13, gW_14, gW_16, gW_17, gW_20, gW_21, gW_22, gW_23, gW_24, gW_25, gW_26, gW_27, gW_30, gW_31, gW_32, gW_33, gW_34, gW_35, gW_36, gW_38, gW_39, gW_41, gW_42, gW_46, gW_47, gW_49, gW_50, gW_51, gW_53, gW_56, gW_57, gW_59, gW_60, gP_44_5, xq_22_2_virtualc, xq_46_4_virtualc, iN_add, iN_mul, iN_sub, iN_and, iN_or, iN_clr, iN_shl, iN_shr, tb_r1, b1_z, b1_or, b1_and, b1_or0, b1_or1, b1_0or, b1_t, b1_f, iN_lt, iN_inj, reduceIte, if_true, if_false, Nat.zero_add, Nat.add_zero, Bool.false_eq_true, Bool.true_eq_false, Nat.lt_irrefl, iN_az, not_true_eq_false, not_false_eq_true, Nat.reduceEqDiff, Nat.reduceLT, Nat.reduceAdd, Nat.reduceMul, Nat.reduceSub]
    · rw [Nat.sub_self]
      rfl
  · intro l hl ihl M2 f1 f2
    have hs : (σ 1 6) - l = ((σ 1 6) - (l + 1)) + 1 := by omega
    have hup : ∀ a, a ≠ 51 → up M2 51 0 l a = M2 a := fun a ha => up_n ha
    have hr2 : RQ σ (up M2 51 0 l) := by
      unfold RQ
      rw [hup 12 (by decide), hup 13 (by decide), hup 14 (by decide), hup 44 (by decide), hup 48 (by decide)]
      exact f2
    obtain ⟨M3, e3, p1, p2, p3, p4⟩ := s_46 (xs := xs) (d := d + (4 - m)) (R := R) (σ := σ) (m := m) O hm (m - 1) 1 (by omega) (Nat.le_refl _) (up M2 51 0 l) hr2 (fun j hj => by
      rw [up_s, show j = 0 by omega, u1_s]
      exact hl)
    rw [show d + (4 - m) + (m - 1) + 5 = d + 8 by omega] at e3
    obtain ⟨M', e4, r1, r2, r4⟩ := ihl M3 (Fr_t (Fr_p f1 rfl) p1) p2
    refine ⟨M', ?_, r1, r2, ?_⟩
    · rw [eb_45_5]
      clear ihl r1 r2 r4 p1 p2 p3 p4 f1 f2 hr2 hup
      simp (disch := first | assumption | omega | exact st8_a (Nat.le_of_ble_eq_true rfl)) only [hl, e3, eb_45_6, eb_45_7, kl_a, kl_d, kl_f, kl_i, kl_l, kl_n, kl_r, xr_1, xr_10, xr_11, xr_12, xr_13, xr_14, xr_15, xr_2, xr_27, xr_3, xr_30, xr_31, xr_32, xr_33, xr_34, xr_37, xr_4, xr_40, xr_43, xr_5, xr_65, xr_67, xr_77, af_0, af_1, xt_goto, xt_ib, xt_ic, xt_ic_ge, xt_ic_gt, xt_ir, xt_nop, gF_44_0, gF_44_1, gF_44_3, gF_44_4, gF_44_5, gF_1_6, gW_2, gW_3, gW_4, gW_5, gW_6, gW_7, gW_8, gW_9, gW_10, gW_11, gW_13, gW_14, gW_16, gW_17, gW_20, gW_21, gW_22, gW_23, gW_24, gW_25, gW_26, gW_27, gW_30, gW_31, gW_32, gW_33, gW_34, gW_35, gW_36, gW_38, gW_39, gW_41, gW_42, gW_46, gW_47, gW_49, gW_50, gW_51, gW_53, gW_56, gW_57, gW_59, gW_60, gP_44_5, xq_22_2_virtualc, xq_46_4_virtualc, iN_add, iN_mul, iN_sub, iN_and, iN_or, iN_clr, iN_shl, iN_shr, tb_r1, b1_z, b1_or, b1_and, b1_or0, b1_or1, b1_0or, b1_t, b1_f, iN_lt, iN_inj, reduceIte, if_true, if_false, Nat.zero_add, Nat.add_zero, Bool.false_eq_true, Bool.true_eq_false, Nat.lt_irrefl, iN_az, not_true_eq_false, not_false_eq_true, Nat.reduceEqDiff, Nat.reduceLT, Nat.reduceAdd, Nat.reduceMul, Nat.reduceSub]
      exact e4
    · rw [hs, fo, r4, p4]
      have a13 : up M2 51 0 l 13 = M 13 := by rw [hup 13 (by decide)]; exact f1 13 rfl
      have a14 : up M2 51 0 l 14 = M 14 := by rw [hup 14 (by decide)]; exact f1 14 rfl
      have ars : rst (up M2 51 0 l) = rst M2 := by
        unfold rst
        rw [hup 44 (by decide), hup 49 (by decide), hup 50 (by decide)]
      rw [a13, a14, ars, up_s]
      rw [RE_cg (σ := σ) (m - 1) 1 (Nat.le_refl _) (g := fun _ => l) (g2 := u1 (M2 51) 0 l) fun j hj => by
        rw [show j = 0 by omega, u1_s]]
set_option maxRecDepth 100000 in
theorem s_45 (O : Ok σ) (h0 : M 12 0 = 1) (h1 : M 12 1 = (σ 1 6)) (h13 : ∀ l, l < (σ 1 6) → M 13 l < (σ 1 2)) (h14 : ∀ l, l < (σ 1 6) → M 14 l < (σ 1 5)) : ∃ M', ev xs (d + 9) 45 0 ([.ref 44, .ref 12, .retAddr 9, .retAddr 9, .retAddr 9], [], hc σ M R) = some (.inl (some (.int (nI (wt σ (M 13) (M 14)) - nI (RO σ (M 13) (M 14)).1))), hc σ M' R) ∧ Fr (12 :: 13 :: 14 :: GR) M M' ∧ M' 12 0 = 1 ∧ M' 12 1 = (σ 1 6) ∧ M' 13 = (RO σ (M 13) (M 14)).2.1 ∧ M' 14 = (RO σ (M 13) (M 14)).2.2 := by
  obtain ⟨hD1, hD2, hH1, hH2, hS, hC, hT, hR, hL, hQ⟩ := Ok_b O
  have h12 : TT 12 := by decide
  have h48 : TT 48 := by decide
  have hwl : wt σ (M 13) (M 14) < 1000 := wt_lt O h13
  have e22 := s_22 (xs := xs) (d := d + 6) (M := M) (R := R) (t := 12) O h12 h13 h14
  have c1 := s_99 (xs := xs) (d := d + 8) (σ := σ) (M := up M 44 5 (wt σ (M 13) (M 14))) (R := R) (t := 48) (t2 := 12) h48 h12 (by decide) (by rw [up_n (by decide)]; omega)
  generalize hN : cpt (up M 44 5 (wt σ (M 13) (M 14))) 48 12 = N at *
  have frN : Fr GR M N := by rw [← hN]; exact Fr_u (Fr_u (Fr_p (Fr_p (Fr_p (Fr_r _ _) rfl) rfl) rfl) rfl) rfl
  have n44 : N 44 5 = wt σ (M 13) (M 14) := by
    rw [← hN]; unfold cpt
    rw [ur_n (by decide), ur_n (by decide), up_n (by decide), up_n (by decide), up_s, u1_s]
  have n49 : N 49 = M 13 := by
    rw [← hN]; unfold cpt
    rw [ur_n (by decide), ur_s, up_n (by decide)]
  have n50 : N 50 = M 14 := by
    rw [← hN]; unfold cpt
    rw [ur_s, up_n (by decide)]
  have n480 : N 48 0 = 1 := by
    rw [← hN]; unfold cpt
    rw [ur_n (by decide), ur_n (by decide), up_s, u1_n (by decide), up_s, u1_s, up_n (by decide)]
    exact h0
  have n481 : N 48 1 = (σ 1 6) := by
    rw [← hN]; unfold cpt
    rw [ur_n (by decide), ur_n (by decide), up_s, u1_s, up_n (by decide)]
    exact h1
  have hq : RQ σ N := ⟨by rw [frN 12 rfl]; exact h0, by rw [frN 12 rfl]; exact h1, by rw [frN 13 rfl]; exact h13, by rw [frN 14 rfl]; exact h14, by rw [n44]; omega, n480, n481⟩
  have hst : rst N = (wt σ (M 13) (M 14), M 13, M 14) := by
    unfold rst
    rw [n44, n49, n50]
  obtain ⟨N2, e2, f2, q2, r2⟩ := s_45i (xs := xs) (d := d) (M := M) (R := R) (m := 2) (w := wt σ (M 13) (M 14)) O (by decide) (by decide) 0 (Nat.zero_le _) N frN hq
  obtain ⟨N3, e3, f3, q3, r3⟩ := s_45i (xs := xs) (d := d) (M := M) (R := R) (m := 3) (w := wt σ (M 13) (M 14)) O (by decide) (by decide) 0 (Nat.zero_le _) N2 f2 q2
  obtain ⟨N4, e4, f4, q4, r4⟩ := s_45i (xs := xs) (d := d) (M := M) (R := R) (m := 4) (w := wt σ (M 13) (M 14)) O (by decide) (by decide) 0 (Nat.zero_le _) N3 f3 q3
  have hfin : rst N4 = RO σ (M 13) (M 14) := by
    rw [r4, r3, r2, hst]
    rfl
  have c2 := s_99 (xs := xs) (d := d + 8) (σ := σ) (M := N4) (R := R) (t := 12) (t2 := 48) h12 h48 (by decide) (by rw [q4.2.2.2.2.2.1]; decide)
  have g1 : N4 44 5 = (RO σ (M 13) (M 14)).1 := by rw [← hfin]; rfl
  have g2 : N4 49 = (RO σ (M 13) (M 14)).2.1 := by rw [← hfin]; rfl
  have g3 : N4 50 = (RO σ (M 13) (M 14)).2.2 := by rw [← hfin]; rfl
  refine ⟨cpt N4 12 48, ?_, ?_, ?_, ?_, ?_, ?_⟩
  rotate_left
  · exact Fr_u (Fr_u (Fr_p (Fr_p (Fr_w f4 fun a ha => by simp at ha ⊢; omega) rfl) rfl) rfl) rfl
  · unfold cpt
    rw [ur_n (by decide), ur_n (by decide), up_s, u1_n (by decide), up_s, u1_s]
    exact q4.2.2.2.2.2.1
  · unfold cpt
    rw [ur_n (by decide), ur_n (by decide), up_s, u1_s]
    exact q4.2.2.2.2.2.2
  · unfold cpt
    rw [ur_n (by decide), ur_s]
    exact g2
  · unfold cpt
    rw [ur_s]
    exact g3
  have g5 : cpt N4 12 48 44 5 = (RO σ (M 13) (M 14)).1 := by
    unfold cpt
    rw [ur_n (by decide), ur_n (by decide), up_n (by decide), up_n (by decide)]
    exact g1
  have l2 : ∀ y, ev xs (d + 9) 45 3 ([.ref 44, .ref 12, .int (nI (wt σ (M 13) (M 14))), .int (nI 5), y], [], hc σ N4 R) = some (.inl (some (.int (nI (wt σ (M 13) (M 14)) - nI (RO σ (M 13) (M 14)).1))), hc σ (cpt N4 12 48) R) := fun y => by
    rw [eb_45_3]
    clear e2 e3 e4 c1 e22 r2 r3 r4 q2 q3 q4 f2 f3 f4 hq hfin
    simp (disch := first | assumption | omega | exact st8_a (Nat.le_of_ble_eq_true rfl)) only [c2, g5, eb_45_9, eb_45_10, kl_a, kl_d, kl_f, kl_i, kl_l, kl_n, kl_r, xr_1, xr_10, xr_11, xr_12, xr_13, xr_14, xr_15, xr_2, xr_27, xr_3, xr_30, xr_31, xr_32, xr_33, xr_34, xr_37, xr_4, xr_40, xr_43, xr_5, xr_65, xr_67, xr_77, af_0, af_1, xt_goto, xt_ib, xt_ic, xt_ic_ge, xt_ic_gt, xt_ir, xt_nop, gF_44_0, gF_44_1, gF_44_3, gF_44_4, gF_44_5, gF_1_6, gW_2, gW_3, gW_4, gW_5, gW_6, gW_7, gW_8, gW_9, gW_10, gW_11, gW_13, gW_14, gW_16, gW_17, gW_20, gW_21, gW_22, gW_23, gW_24, gW_25, gW_26, gW_27, gW_30, gW_31, gW_32, gW_33, gW_34, gW_35, gW_36, gW_38, gW_39, gW_41, gW_42, gW_46, gW_47, gW_49, gW_50, gW_51, gW_53, gW_56, gW_57, gW_59, gW_60, gP_44_5, xq_22_2_virtualc, xq_46_4_virtualc, xq_99_9_virtualt h12, xq_99_9_virtualt h48, iN_add, iN_mul, iN_and, iN_or, iN_clr, iN_shl, iN_shr, tb_r1, b1_z, b1_or, b1_and, b1_or0, b1_or1, b1_0or, b1_t, b1_f, iN_lt, iN_inj, reduceIte, if_true, if_false, Nat.zero_add, Nat.add_zero, Bool.false_eq_true, Bool.true_eq_false, Nat.lt_irrefl, iN_az, not_true_eq_false, not_false_eq_true, Nat.reduceEqDiff, Nat.reduceLT, Nat.reduceAdd, Nat.reduceMul, Nat.reduceSub]
  have l3 : ∀ M2 m y, m < 5 → ev xs (d + 9) 45 3 ([.ref 44, .ref 12, .int (nI (wt σ (M 13) (M 14))), .int (nI m), y], [], hc σ M2 R) = ev xs (d + 9) 45 5 ([.ref 44, .ref 12, .int (nI (wt σ (M 13) (M 14))), .int (nI m), .int (nI 0)], [], hc σ M2 R) := fun M2 m y hm => by
    have hm2 : ¬ 4 < m := by omega
    rw [eb_45_3]
    clear e2 e3 e4 c1 e22 r2 r3 r4 q2 q3 q4 f2 f3 f4 hq hfin
    simp (disch := first | assumption | omega | exact st8_a (Nat.le_of_ble_eq_true rfl)) only [hm2, eb_45_4, kl_a, kl_d, kl_f, kl_i, kl_l, kl_n, kl_r, xr_1, xr_10, xr_11, xr_12, xr_13, xr_14, xr_15, xr_2, xr_27, xr_3, xr_30, xr_31, xr_32, xr_33, xr_34, xr_37, xr_4, xr_40, xr_43, xr_5, xr_65, xr_67, xr_77, af_0, af_1, xt_goto, xt_ib, xt_ic, xt_ic_ge, xt_ic_gt, xt_ir, xt_nop, gF_44_0, gF_44_1, gF_44_3, gF_44_4, gF_44_5, gF_1_6, gW_2, gW_3, gW_4, gW_5, gW_6, gW_7, gW_8, gW_9, gW_10, gW_11, gW_13, gW_14, gW_16, gW_17, gW_20, gW_21, gW_22, gW_23, gW_24, gW_25, gW_26, gW_27, gW_30, gW_31, gW_32, gW_33, gW_34, gW_35, gW_36, gW_38, gW_39, gW_41, gW_42, gW_46, gW_47, gW_49, gW_50, gW_51, gW_53, gW_56, gW_57, gW_59, gW_60, gP_44_5, xq_22_2_virtualc, xq_46_4_virtualc, iN_add, iN_mul, iN_sub, iN_and, iN_or, iN_clr, iN_shl, iN_shr, tb_r1, b1_z, b1_or, b1_and, b1_or0, b1_or1, b1_0or, b1_t, b1_f, iN_lt, iN_inj, reduceIte, if_true, if_false, Nat.zero_add, Nat.add_zero, Bool.false_eq_true, Bool.true_eq_false, Nat.lt_irrefl, iN_az, not_true_eq_false, not_false_eq_true, Nat.reduceEqDiff, Nat.reduceLT, Nat.reduceAdd, Nat.reduceMul, Nat.reduceSub]
  have go : ev xs (d + 9) 45 3 ([.ref 44, .ref 12, .int (nI (wt σ (M 13) (M 14))), .int (nI 2), .retAddr 9], [], hc σ N R) = some (.inl (some (.int (nI (wt σ (M 13) (M 14)) - nI (RO σ (M 13) (M 14)).1))), hc σ (cpt N4 12 48) R) := by
    rw [l3 _ _ _ (by decide), e2, l3 _ _ _ (by decide), e3, l3 _ _ _ (by decide), e4, l2]
  rw [show d + 6 + 2 = d + 8 from rfl] at e22
  clear e2 e3 e4 r2 r3 r4 q2 q3 q4 f2 f3 f4 hq hfin l2 l3 c2
  simp (disch := first | assumption | omega | exact st8_a (Nat.le_of_ble_eq_true rfl)) only [e22, c1, eb_45_0, eb_45_1, eb_45_2, kl_a, kl_d, kl_f, kl_i, kl_l, kl_n, kl_r, xr_1, xr_10, xr_11, xr_12, xr_13, xr_14, xr_15, xr_2, xr_27, xr_3, xr_30, xr_31, xr_32, xr_33, xr_34, xr_37, xr_4, xr_40, xr_43, xr_5, xr_65, xr_67, xr_77, af_0, af_1, xt_goto, xt_ib, xt_ic, xt_ic_ge, xt_ic_gt, xt_ir, xt_nop, gF_44_0, gF_44_1, gF_44_3, gF_44_4, gF_44_5, gF_1_6, gW_2, gW_3, gW_4, gW_5, gW_6, gW_7, gW_8, gW_9, gW_10, gW_11, gW_13, gW_14, gW_16, gW_17, gW_20, gW_21, gW_22, gW_23, gW_24, gW_25, gW_26, gW_27, gW_30, gW_31, gW_32, gW_33, gW_34, gW_35, gW_36, gW_38, gW_39, gW_41, gW_42, gW_46, gW_47, gW_49, gW_50, gW_51, gW_53, gW_56, gW_57, gW_59, gW_60, gP_44_5, xq_22_2_virtualc, xq_46_4_virtualc, xq_99_9_virtualt h12, xq_99_9_virtualt h48, iN_add, iN_mul, iN_sub, iN_and, iN_or, iN_clr, iN_shl, iN_shr, tb_r1, b1_z, b1_or, b1_and, b1_or0, b1_or1, b1_0or, b1_t, b1_f, iN_lt, iN_inj, reduceIte, if_true, if_false, Nat.zero_add, Nat.add_zero, Bool.false_eq_true, Bool.true_eq_false, Nat.lt_irrefl, iN_az, not_true_eq_false, not_false_eq_true, Nat.reduceEqDiff, Nat.reduceLT, Nat.reduceAdd, Nat.reduceMul, Nat.reduceSub]
  exact go
end Rj
