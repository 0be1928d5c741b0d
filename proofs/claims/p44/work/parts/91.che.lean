/-! THE CLASS Check: walk -/
section Ce
variable {xs : List Int32} {σ M N : Nat → Nat → Nat} {R : ab_H} {d k a u i n m l x y : Nat} {s r s2 r2 t v : Nat → Nat} {W : Prop} {A B : (Nat → Nat) → (Nat → Nat) → Prop}
/-- the tables ahead of a start and a room of a lesson -/
def AB (l x y : Nat) (M : Nat → Nat → Nat) (t v : Nat → Nat) : Prop := LX l t v (M 56) (M 57) ∨ (AG l t v (M 56) (M 57) ∧ (t l < x ∨ (t l = x ∧ v l < y)))
def AZ (l : Nat) (M : Nat → Nat → Nat) (t v : Nat → Nat) : Prop := LX l t v (M 56) (M 57) ∨ AG l t v (M 56) (M 57)
def WP (σ : Nat → Nat → Nat) (l : Nat) (M N : Nat → Nat → Nat) : Prop := Fr CF M N ∧ WQ σ N ∧ N 54 8 = M 54 8 ∧ N 54 9 = M 54 9 ∧ AG l (N 56) (N 57) (M 56) (M 57)
/-- a lesson's values that stand, and clash with none ahead -/
def CC (σ : Nat → Nat → Nat) (l : Nat) (s r : Nat → Nat) : Prop := std σ l (s l) (r l) = true ∧ ∀ o, o < l → pf σ s r l o = 0
set_option maxRecDepth 100000 in
theorem CC_cg (h : AG n s r s2 r2) (hl : l < n) : CC σ l s r ↔ CC σ l s2 r2 := by
  unfold CC
  rw [(h l hl).1, (h l hl).2]
  constructor
  · rintro ⟨h1, h2⟩
    exact ⟨h1, fun o ho => by rw [← pf_cg h hl (show o < n by omega)]; exact h2 o ho⟩
  · rintro ⟨h1, h2⟩
    exact ⟨h1, fun o ho => by rw [pf_cg h hl (show o < n by omega)]; exact h2 o ho⟩
set_option maxRecDepth 100000 in
theorem flt_CC (s r : Nat → Nat) : flt σ s r = 0 ↔ ∀ l, l < (σ 1 6) → CC σ l s r := by
  rw [flt_0]
  unfold CC std
  constructor
  · rintro ⟨h1, h2⟩ l hl
    rw [(h1 l hl).1, (h1 l hl).2]
    exact ⟨rfl, fun o ho => h2 l o hl (by omega) (by omega)⟩
  · intro h
    refine ⟨fun l hl => ?_, fun l o hl ho hne => ?_⟩
    · have := (h l hl).1
      rw [Bool.and_eq_true] at this
      exact this
    · by_cases h2 : o < l
      · exact (h l hl).2 o h2
      · rw [pf_c]
        exact (h o ho).2 l (by omega)
set_option maxRecDepth 100000 in
theorem Fr_i {A : List Nat} (h : Fr A M N) {b : Nat} (hb : A.contains b = false) : N b = M b := h b hb
set_option maxRecDepth 100000 in
theorem WP_t {K : Nat → Nat → Nat} (h : WP σ l M N) (h2 : WP σ l N K) : WP σ l M K := ⟨Fr_t h.1 h2.1, h2.2.1, h2.2.2.1.trans h.2.2.1, h2.2.2.2.1.trans h.2.2.2.1, AG_t h2.2.2.2.2 h.2.2.2.2⟩
set_option maxRecDepth 100000 in
theorem KI_c (hf : Fr CF M N) (h : KI σ M) : KI σ N := KI_fr (hf 1 rfl) (hf 19 rfl) (hf 24 rfl) (hf 25 rfl) (hf 32 rfl) h
set_option maxRecDepth 100000 in
theorem s_5 (O : Ok σ) : ∀ k l, l + k = (σ 1 6) → ∀ M : Nat → Nat → Nat, KI σ M → WQ σ M → (∀ j, j < l → CC σ j (M 56) (M 57)) → IV σ W (fun s r => LX l s r (M 56) (M 57)) M → ∃ M', ev xs (d + k + 5) 5 0 ([.ref 54, .int (nI l), .retAddr 9, .retAddr 9], [], hc σ M R) = some (.inl none, hc σ M' R) ∧ WP σ l M M' ∧ IV σ W (AZ l M) M' := by
  obtain ⟨hD1, hD2, hH1, hH2, hS, hC, hT, hR, hL, hQ⟩ := Ok_b O
  have h55 : TT 55 := by decide
  intro k
  induction k with
  | zero =>
    intro l hl M hK hW hC hI
    obtain rfl : l = (σ 1 6) := by omega
    obtain ⟨M', e, f, g8, g9, j⟩ := s_7 (xs := xs) (d := d) (R := R) O hK hW hI (fun _ _ h => h) ((flt_CC _ _).mpr hC)
    refine ⟨M', ?_, ⟨Fr_w f fun a ha => by simp at ha ⊢; omega, ?_, g8, g9, ?_⟩, j⟩
    · obtain ⟨w1, w2, -⟩ := hW
      clear hC hI j f hK
      rw [eb_5_0]
      simp (disch := first | assumption | omega | exact st8_a (Nat.le_of_ble_eq_true rfl)) only [e, w1, w2, eb_5_2, eb_5_3, eb_5_4, kl_a, kl_d, kl_f, kl_i, kl_l, kl_n, kl_r, xr_1, xr_10, xr_2, xr_27, xr_28, xr_3, xr_30, xr_31, xr_32, xr_37, xr_38, xr_4, xr_42, xr_43, xr_5, af_0, af_1, xt_goto, xt_ic_ge, xt_ic_lt, xt_if_eq, xt_if_ne, xt_nop, xt_re, gF_54_0, gF_54_3, gF_54_8, gF_1_2, gF_1_5, gF_1_6, gW_2, gW_3, gW_4, gW_5, gW_6, gW_7, gW_8, gW_9, gW_10, gW_11, gW_13, gW_14, gW_16, gW_17, gW_20, gW_21, gW_22, gW_23, gW_24, gW_25, gW_26, gW_27, gW_30, gW_31, gW_32, gW_33, gW_34, gW_35, gW_36, gW_38, gW_39, gW_41, gW_42, gW_46, gW_47, gW_49, gW_50, gW_51, gW_53, gW_56, gW_57, gW_59, gW_60, xq_4_0_virtualc, xq_5_0_virtualc, xq_6_0_virtualc, xq_7_0_virtualc, iN_add, iN_mul, iN_sub, iN_and, iN_or, iN_clr, iN_shl, iN_shr, tb_r1, b1_z, b1_or, b1_and, b1_or0, b1_or1, b1_0or, b1_t, b1_f, iN_lt, iN_inj, reduceIte, if_true, if_false, Nat.zero_add, Nat.add_zero, Bool.false_eq_true, Bool.true_eq_false, Nat.lt_irrefl, iN_az, not_true_eq_false, not_false_eq_true, Nat.reduceEqDiff, Nat.reduceLT, Nat.reduceAdd, Nat.reduceMul, Nat.reduceSub]
    · obtain ⟨w1, w2, w3, w4, w5, w6, w7⟩ := hW
      exact ⟨by rw [g8]; exact w1, by rw [g8]; exact w2, by rw [f 38 rfl]; exact w3, by rw [f 55 rfl]; exact w4, by rw [f 55 rfl]; exact w5, by rw [f 56 rfl]; exact w6, by rw [f 57 rfl]; exact w7⟩
    · rw [f 56 rfl, f 57 rfl]
      exact fun _ _ => ⟨rfl, rfl⟩
  | succ k ih =>
    intro l hl M hK hW hC hI
    have hlL : l < (σ 1 6) := by omega
    have w18 := hW.1
    have w28 := hW.2.1
    have hout : ∀ x, x ≤ (σ 1 2) → ∀ M2 y, WP σ l M M2 → IV σ W (AB l x 0 M) M2 → ∃ M', ev xs (d + (k + 1) + 5) 5 6 ([.ref 54, .int (nI l), .int (nI x), y], [], hc σ M2 R) = some (.inl none, hc σ M' R) ∧ WP σ l M M' ∧ IV σ W (AZ l M) M' := by
      refine lp (σ 1 2) ?_ ?_
      · intro M2 y hP hV
        refine ⟨M2, ?_, hP, IV_c hV fun t v hg => ?_⟩
        · rw [eb_5_6]
          clear hC hI ih hP hV hK hW
          simp (disch := first | assumption | omega | exact st8_a (Nat.le_of_ble_eq_true rfl)) only [eb_5_16, kl_a, kl_d, kl_f, kl_i, kl_l, kl_n, kl_r, xr_1, xr_10, xr_2, xr_27, xr_28, xr_3, xr_30, xr_31, xr_32, xr_37, xr_38, xr_4, xr_42, xr_43, xr_5, af_0, af_1, xt_goto, xt_ic_ge, xt_ic_lt, xt_if_eq, xt_if_ne, xt_nop, xt_re, gF_54_0, gF_54_3, gF_54_8, gF_1_2, gF_1_5, gF_1_6, gW_2, gW_3, gW_4, gW_5, gW_6, gW_7, gW_8, gW_9, gW_10, gW_11, gW_13, gW_14, gW_16, gW_17, gW_20, gW_21, gW_22, gW_23, gW_24, gW_25, gW_26, gW_27, gW_30, gW_31, gW_32, gW_33, gW_34, gW_35, gW_36, gW_38, gW_39, gW_41, gW_42, gW_46, gW_47, gW_49, gW_50, gW_51, gW_53, gW_56, gW_57, gW_59, gW_60, xq_4_0_virtualc, xq_5_0_virtualc, xq_6_0_virtualc, xq_7_0_virtualc, iN_add, iN_mul, iN_sub, iN_and, iN_or, iN_clr, iN_shl, iN_shr, tb_r1, b1_z, b1_or, b1_and, b1_or0, b1_or1, b1_0or, b1_t, b1_f, iN_lt, iN_inj, reduceIte, if_true, if_false, Nat.zero_add, Nat.add_zero, Bool.false_eq_true, Bool.true_eq_false, Nat.lt_irrefl, iN_az, not_true_eq_false, not_false_eq_true, Nat.reduceEqDiff, Nat.reduceLT, Nat.reduceAdd, Nat.reduceMul, Nat.reduceSub]
        · have := (hg.1 l hlL).1
          unfold AB AZ
          constructor
          · rintro (h | h)
            · exact .inl h
            · exact .inr h.1
          · rintro (h | h)
            · exact .inl h
            · exact .inr ⟨h, .inl this⟩
      · intro x hx ihx M2 y hP hV
        have hin : ∀ y, y ≤ (σ 1 5) → ∀ M2, WP σ l M M2 → IV σ W (AB l x y M) M2 → ∃ M', ev xs (d + (k + 1) + 5) 5 8 ([.ref 54, .int (nI l), .int (nI x), .int (nI y)], [], hc σ M2 R) = some (.inl none, hc σ M' R) ∧ WP σ l M M' ∧ IV σ W (AZ l M) M' := by
          refine lp (σ 1 5) ?_ ?_
          · intro M2 hP hV
            obtain ⟨M', e, h1, h2⟩ := ihx M2 (.int (nI (σ 1 5))) hP (IV_c hV fun t v hg => by
              have := (hg.1 l hlL).2
              unfold AB
              constructor
              · rintro (h | ⟨h1, h2⟩)
                · exact .inl h
                · exact .inr ⟨h1, by omega⟩
              · rintro (h | ⟨h1, h2⟩)
                · exact .inl h
                · exact .inr ⟨h1, by omega⟩)
            refine ⟨M', ?_, h1, h2⟩
            rw [eb_5_8]
            clear hC hI ih hP hV hK hW ihx h1 h2
            simp (disch := first | assumption | omega | exact st8_a (Nat.le_of_ble_eq_true rfl)) only [eb_5_15, kl_a, kl_d, kl_f, kl_i, kl_l, kl_n, kl_r, xr_1, xr_10, xr_2, xr_27, xr_28, xr_3, xr_30, xr_31, xr_32, xr_37, xr_38, xr_4, xr_42, xr_43, xr_5, af_0, af_1, xt_goto, xt_ic_ge, xt_ic_lt, xt_if_eq, xt_if_ne, xt_nop, xt_re, gF_54_0, gF_54_3, gF_54_8, gF_1_2, gF_1_5, gF_1_6, gW_2, gW_3, gW_4, gW_5, gW_6, gW_7, gW_8, gW_9, gW_10, gW_11, gW_13, gW_14, gW_16, gW_17, gW_20, gW_21, gW_22, gW_23, gW_24, gW_25, gW_26, gW_27, gW_30, gW_31, gW_32, gW_33, gW_34, gW_35, gW_36, gW_38, gW_39, gW_41, gW_42, gW_46, gW_47, gW_49, gW_50, gW_51, gW_53, gW_56, gW_57, gW_59, gW_60, xq_4_0_virtualc, xq_5_0_virtualc, xq_6_0_virtualc, xq_7_0_virtualc, iN_add, iN_mul, iN_sub, iN_and, iN_or, iN_clr, iN_shl, iN_shr, tb_r1, b1_z, b1_or, b1_and, b1_or0, b1_or1, b1_0or, b1_t, b1_f, iN_lt, iN_inj, reduceIte, if_true, if_false, Nat.zero_add, Nat.add_zero, Bool.false_eq_true, Bool.true_eq_false, Nat.lt_irrefl, iN_az, not_true_eq_false, not_false_eq_true, Nat.reduceEqDiff, Nat.reduceLT, Nat.reduceAdd, Nat.reduceMul, Nat.reduceSub]
            exact e
          · intro y hy ihy M2 hP hV
            obtain ⟨p1, p2, p3, p4, p5⟩ := hP
            obtain ⟨w1, w2, w3, w4, w5, w6, w7⟩ := p2
            obtain ⟨N, hN⟩ : ∃ N, up (up M2 56 l x) 57 l y = N := ⟨_, rfl⟩
            have n56 : N 56 = u1 (M2 56) l x := by rw [← hN, up_n (by decide), up_s]
            have n57 : N 57 = u1 (M2 57) l y := by rw [← hN, up_s, up_n (by decide)]
            have nf : ∀ b, b ≠ 56 → b ≠ 57 → N b = M2 b := fun b h1 h2 => by rw [← hN, up_n h2, up_n h1]
            have nF : Fr CF M2 N := by
              rw [← hN]
              exact Fr_p (Fr_p (Fr_r _ _) rfl) rfl
            have nW : WQ σ N := ⟨by rw [nf 54 (by decide) (by decide)]; exact w1, by rw [nf 54 (by decide) (by decide)]; exact w2, by rw [nf 38 (by decide) (by decide)]; exact w3, by rw [nf 55 (by decide) (by decide)]; exact w4, by rw [nf 55 (by decide) (by decide)]; exact w5, fun j hj => by rw [n56]; unfold u1; split; exact hx; exact w6 j hj, fun j hj => by rw [n57]; unfold u1; split; exact hy; exact w7 j hj⟩
            have nA : AG l (N 56) (N 57) (M 56) (M 57) := fun j hj => by
              rw [n56, n57, u1_n (by omega), u1_n (by omega)]
              exact p5 j hj
            have nP : WP σ l M N := ⟨Fr_t p1 nF, nW, by rw [nf 54 (by decide) (by decide)]; exact p3, by rw [nf 54 (by decide) (by decide)]; exact p4, nA⟩
            have nV : IV σ W (AB l x y M) N := IV_m hV (nf 54 (by decide) (by decide)) (nf 58 (by decide) (by decide)) (nf 59 (by decide) (by decide)) (nf 60 (by decide) (by decide))
            have nl : N 56 l = x ∧ N 57 l = y := by rw [n56, n57, u1_s, u1_s]; exact ⟨rfl, rfl⟩
            have nK : KI σ N := KI_c nP.1 hK
            have e1 := s_4 (xs := xs) (d := d + k + 3) (M := N) (R := R) O hlL hx hy
            -- no good timetable goes on so
            have skip : ¬ CC σ l (N 56) (N 57) → ∃ M', ev xs (d + (k + 1) + 5) 5 8 ([.ref 54, .int (nI l), .int (nI x), .int (nI (y + 1))], [], hc σ N R) = some (.inl none, hc σ M' R) ∧ WP σ l M M' ∧ IV σ W (AZ l M) M' := by
              intro hno
              refine ihy N nP (IV_c nV fun t v hg => ?_)
              unfold AB
              constructor
              · rintro (h | ⟨h1, h2⟩)
                · exact .inl h
                · exact .inr ⟨h1, by omega⟩
              · rintro (h | ⟨h1, h2⟩)
                · exact .inl h
                · by_cases e : t l = x ∧ v l = y
                  · refine absurd ?_ hno
                    have h3 : AG (l + 1) t v (N 56) (N 57) := fun j hj => by
                      by_cases ej : j = l
                      · rw [ej, nl.1, nl.2]; exact e
                      · exact ⟨(h1 j (by omega)).1.trans (nA j (by omega)).1.symm, (h1 j (by omega)).2.trans (nA j (by omega)).2.symm⟩
                    exact (CC_cg h3 (Nat.lt_succ_self l)).mp ((flt_CC _ _).mp hg.2.1 l hlL)
                  · exact .inr ⟨h1, by omega⟩
            cases hs : std σ l x y
            · obtain ⟨M', e2, h1, h2⟩ := skip (fun h => by
                have := h.1
                rw [nl.1, nl.2, hs] at this
                cases this)
              refine ⟨M', ?_, h1, h2⟩
              rw [hs] at e1
              rw [eb_5_8]
              clear hC hI ih hV hK hW ihx ihy h1 h2 skip nV nP nK nF p1 w3 p5 nf nA w6 w7 nW
              rw [show d + (k + 1) + 5 = d + k + 5 + 1 from rfl] at e2 ⊢
              simp (disch := first | assumption | omega | exact st8_a (Nat.le_of_ble_eq_true rfl)) only [hy, hN, e1, eb_5_9, eb_5_10, eb_5_14, kl_a, kl_d, kl_f, kl_i, kl_l, kl_n, kl_r, xr_1, xr_10, xr_2, xr_27, xr_28, xr_3, xr_30, xr_31, xr_32, xr_37, xr_38, xr_4, xr_42, xr_43, xr_5, af_0, af_1, xt_goto, xt_ic_ge, xt_ic_lt, xt_if_eq, xt_if_ne, xt_nop, xt_re, gF_54_0, gF_54_3, gF_54_8, gF_1_2, gF_1_5, gF_1_6, gW_2, gW_3, gW_4, gW_5, gW_6, gW_7, gW_8, gW_9, gW_10, gW_11, gW_13, gW_14, gW_16, gW_17, gW_20, gW_21, gW_22, gW_23, gW_24, gW_25, gW_26, gW_27, gW_30, gW_31, gW_32, gW_33, gW_34, gW_35, gW_36, gW_38, gW_39, gW_41, gW_42, gW_46, gW_47, gW_49, gW_50, gW_51, gW_53, gW_56, gW_57, gW_59, gW_60, tF_0 h55, tF_1 h55, tF_2 h55, tF_3 h55, tA_1 h55, tA_2 h55, tW_1 h55, tW_2 h55, tP_0 h55, tP_1 h55, xq_4_0_virtualc, xq_5_0_virtualc, xq_6_0_virtualc, xq_7_0_virtualc, iN_add, iN_mul, iN_sub, iN_and, iN_or, iN_clr, iN_shl, iN_shr, tb_r1, b1_z, b1_or, b1_and, b1_or0, b1_or1, b1_0or, b1_t, b1_f, iN_lt, iN_inj, reduceIte, if_true, if_false, Nat.zero_add, Nat.add_zero, Bool.false_eq_true, Bool.true_eq_false, Nat.lt_irrefl, iN_az, not_true_eq_false, not_false_eq_true, Nat.reduceEqDiff, Nat.reduceLT, Nat.reduceAdd, Nat.reduceMul, Nat.reduceSub]
              exact e2
            · obtain ⟨b, e3, hb⟩ := s_6 (xs := xs) (d := d + k + 3) (R := R) O hlL nW.2.2.2.2.2.1 nW.2.2.2.2.2.2
              rw [hs] at e1
              cases b
              · obtain ⟨M', e2, h1, h2⟩ := skip (fun h => by
                  have := hb.mpr h.2
                  cases this)
                refine ⟨M', ?_, h1, h2⟩
                rw [eb_5_8]
                clear hC hI ih hV hK hW ihx ihy h1 h2 skip nV nP nK nF p1 w3 p5 nf nA w6 w7 nW hb
                rw [show d + (k + 1) + 5 = d + k + 5 + 1 from rfl] at e2 ⊢
                simp (disch := first | assumption | omega | exact st8_a (Nat.le_of_ble_eq_true rfl)) only [hy, hN, e1, e3, eb_5_9, eb_5_10, eb_5_11, eb_5_12, eb_5_14, kl_a, kl_d, kl_f, kl_i, kl_l, kl_n, kl_r, xr_1, xr_10, xr_2, xr_27, xr_28, xr_3, xr_30, xr_31, xr_32, xr_37, xr_38, xr_4, xr_42, xr_43, xr_5, af_0, af_1, xt_goto, xt_ic_ge, xt_ic_lt, xt_if_eq, xt_if_ne, xt_nop, xt_re, gF_54_0, gF_54_3, gF_54_8, gF_1_2, gF_1_5, gF_1_6, gW_2, gW_3, gW_4, gW_5, gW_6, gW_7, gW_8, gW_9, gW_10, gW_11, gW_13, gW_14, gW_16, gW_17, gW_20, gW_21, gW_22, gW_23, gW_24, gW_25, gW_26, gW_27, gW_30, gW_31, gW_32, gW_33, gW_34, gW_35, gW_36, gW_38, gW_39, gW_41, gW_42, gW_46, gW_47, gW_49, gW_50, gW_51, gW_53, gW_56, gW_57, gW_59, gW_60, tF_0 h55, tF_1 h55, tF_2 h55, tF_3 h55, tA_1 h55, tA_2 h55, tW_1 h55, tW_2 h55, tP_0 h55, tP_1 h55, xq_4_0_virtualc, xq_5_0_virtualc, xq_6_0_virtualc, xq_7_0_virtualc, iN_add, iN_mul, iN_sub, iN_and, iN_or, iN_clr, iN_shl, iN_shr, tb_r1, b1_z, b1_or, b1_and, b1_or0, b1_or1, b1_0or, b1_t, b1_f, iN_lt, iN_inj, reduceIte, if_true, if_false, Nat.zero_add, Nat.add_zero, Bool.false_eq_true, Bool.true_eq_false, Nat.lt_irrefl, iN_az, not_true_eq_false, not_false_eq_true, Nat.reduceEqDiff, Nat.reduceLT, Nat.reduceAdd, Nat.reduceMul, Nat.reduceSub]
                exact e2
              · have hcc : CC σ l (N 56) (N 57) := ⟨by rw [nl.1, nl.2]; exact hs, hb.mp rfl⟩
                obtain ⟨M4, e4, q, j4⟩ := ih (l + 1) (by omega) N nK nW (fun j hj => by
                  by_cases ej : j = l
                  · rw [ej]; exact hcc
                  · exact (CC_cg nA (show j < l by omega)).mpr (hC j (by omega))) (IV_c nV fun t v hg => by
                    unfold AB
                    rw [LX_s, nl.1, nl.2]
                    constructor
                    · rintro (h | ⟨h1, h2⟩)
                      · exact .inl (LX_c2 (AG_s nA) h)
                      · exact .inr ⟨AG_t h1 (AG_s nA), h2⟩
                    · rintro (h | ⟨h1, h2⟩)
                      · exact .inl (LX_c2 nA h)
                      · exact .inr ⟨AG_t h1 nA, h2⟩)
                obtain ⟨q1, q2, q3, q4, q5⟩ := q
                have mP : WP σ l M M4 := ⟨Fr_t nP.1 q1, q2, q3.trans nP.2.2.1, q4.trans nP.2.2.2.1, fun j hj => ⟨(q5 j (by omega)).1.trans (nA j hj).1, (q5 j (by omega)).2.trans (nA j hj).2⟩⟩
                obtain ⟨M', e2, h1, h2⟩ := ihy M4 mP (IV_c j4 fun t v hg => by
                  unfold AB AZ
                  rw [LX_s, nl.1, nl.2]
                  constructor
                  · rintro ((h | ⟨h1, h2⟩) | h)
                    · exact .inl (LX_c2 nA h)
                    · exact .inr ⟨AG_t h1 nA, by omega⟩
                    · refine .inr ⟨fun j hj => ⟨(h j (by omega)).1.trans (nA j hj).1, (h j (by omega)).2.trans (nA j hj).2⟩, ?_⟩
                      have := h l (Nat.lt_succ_self l)
                      rw [nl.1, nl.2] at this
                      omega
                  · rintro (h | ⟨h1, h2⟩)
                    · exact .inl (.inl (LX_c2 (AG_s nA) h))
                    · by_cases e : t l = x ∧ v l = y
                      · refine .inr fun j hj => ?_
                        by_cases ej : j = l
                        · rw [ej, nl.1, nl.2]; exact e
                        · exact ⟨(h1 j (by omega)).1.trans (nA j (by omega)).1.symm, (h1 j (by omega)).2.trans (nA j (by omega)).2.symm⟩
                      · exact .inl (.inr ⟨AG_t h1 (AG_s nA), by omega⟩))
                refine ⟨M', ?_, h1, h2⟩
                rw [eb_5_8]
                clear hC hI ih hV hK hW ihx ihy h1 h2 skip nV nP nK nF p1 w3 p5 nf nA w6 w7 nW hb hcc q1 q2 j4 q5 mP
                rw [show d + (k + 1) + 5 = d + k + 5 + 1 from rfl] at e2 ⊢
                simp (disch := first | assumption | omega | exact st8_a (Nat.le_of_ble_eq_true rfl)) only [hy, hN, e1, e3, e4, eb_5_9, eb_5_10, eb_5_11, eb_5_12, eb_5_13, eb_5_14, kl_a, kl_d, kl_f, kl_i, kl_l, kl_n, kl_r, xr_1, xr_10, xr_2, xr_27, xr_28, xr_3, xr_30, xr_31, xr_32, xr_37, xr_38, xr_4, xr_42, xr_43, xr_5, af_0, af_1, xt_goto, xt_ic_ge, xt_ic_lt, xt_if_eq, xt_if_ne, xt_nop, xt_re, gF_54_0, gF_54_3, gF_54_8, gF_1_2, gF_1_5, gF_1_6, gW_2, gW_3, gW_4, gW_5, gW_6, gW_7, gW_8, gW_9, gW_10, gW_11, gW_13, gW_14, gW_16, gW_17, gW_20, gW_21, gW_22, gW_23, gW_24, gW_25, gW_26, gW_27, gW_30, gW_31, gW_32, gW_33, gW_34, gW_35, gW_36, gW_38, gW_39, gW_41, gW_42, gW_46, gW_47, gW_49, gW_50, gW_51, gW_53, gW_56, gW_57, gW_59, gW_60, tF_0 h55, tF_1 h55, tF_2 h55, tF_3 h55, tA_1 h55, tA_2 h55, tW_1 h55, tW_2 h55, tP_0 h55, tP_1 h55, xq_4_0_virtualc, xq_5_0_virtualc, xq_6_0_virtualc, xq_7_0_virtualc, iN_add, iN_mul, iN_sub, iN_and, iN_or, iN_clr, iN_shl, iN_shr, tb_r1, b1_z, b1_or, b1_and, b1_or0, b1_or1, b1_0or, b1_t, b1_f, iN_lt, iN_inj, reduceIte, if_true, if_false, Nat.zero_add, Nat.add_zero, Bool.false_eq_true, Bool.true_eq_false, Nat.lt_irrefl, iN_az, not_true_eq_false, not_false_eq_true, Nat.reduceEqDiff, Nat.reduceLT, Nat.reduceAdd, Nat.reduceMul, Nat.reduceSub]
                exact e2
        obtain ⟨M', e, h1, h2⟩ := hin 0 (Nat.zero_le _) M2 hP hV
        refine ⟨M', ?_, h1, h2⟩
        rw [eb_5_6]
        clear hC hI ih hP hV hK hW ihx h1 h2 hin
        simp (disch := first | assumption | omega | exact st8_a (Nat.le_of_ble_eq_true rfl)) only [hx, eb_5_7, kl_a, kl_d, kl_f, kl_i, kl_l, kl_n, kl_r, xr_1, xr_10, xr_2, xr_27, xr_28, xr_3, xr_30, xr_31, xr_32, xr_37, xr_38, xr_4, xr_42, xr_43, xr_5, af_0, af_1, xt_goto, xt_ic_ge, xt_ic_lt, xt_if_eq, xt_if_ne, xt_nop, xt_re, gF_54_0, gF_54_3, gF_54_8, gF_1_2, gF_1_5, gF_1_6, gW_2, gW_3, gW_4, gW_5, gW_6, gW_7, gW_8, gW_9, gW_10, gW_11, gW_13, gW_14, gW_16, gW_17, gW_20, gW_21, gW_22, gW_23, gW_24, gW_25, gW_26, gW_27, gW_30, gW_31, gW_32, gW_33, gW_34, gW_35, gW_36, gW_38, gW_39, gW_41, gW_42, gW_46, gW_47, gW_49, gW_50, gW_51, gW_53, gW_56, gW_57, gW_59, gW_60, xq_4_0_virtualc, xq_5_0_virtualc, xq_6_0_virtualc, xq_7_0_virtualc, iN_add, iN_mul, iN_sub, iN_and, iN_or, iN_clr, iN_shl, iN_shr, tb_r1, b1_z, b1_or, b1_and, b1_or0, b1_or1, b1_0or, b1_t, b1_f, iN_lt, iN_inj, reduceIte, if_true, if_false, Nat.zero_add, Nat.add_zero, Bool.false_eq_true, Bool.true_eq_false, Nat.lt_irrefl, iN_az, not_true_eq_false, not_false_eq_true, Nat.reduceEqDiff, Nat.reduceLT, Nat.reduceAdd, Nat.reduceMul, Nat.reduceSub]
        exact e
    obtain ⟨M', e, h1, h2⟩ := hout 0 (Nat.zero_le _) M (.retAddr 9) ⟨Fr_r _ _, hW, rfl, rfl, fun _ _ => ⟨rfl, rfl⟩⟩ (IV_c hI fun t v hg => by
      unfold AB
      constructor
      · exact .inl
      · rintro (h | ⟨h1, h2⟩)
        · exact h
        · omega)
    refine ⟨M', ?_, h1, h2⟩
    rw [eb_5_0]
    clear hC hI ih hK hW hout h1 h2
    simp (disch := first | assumption | omega | exact st8_a (Nat.le_of_ble_eq_true rfl)) only [w18, w28, hlL, eb_5_2, eb_5_5, kl_a, kl_d, kl_f, kl_i, kl_l, kl_n, kl_r, xr_1, xr_10, xr_2, xr_27, xr_28, xr_3, xr_30, xr_31, xr_32, xr_37, xr_38, xr_4, xr_42, xr_43, xr_5, af_0, af_1, xt_goto, xt_ic_ge, xt_ic_lt, xt_if_eq, xt_if_ne, xt_nop, xt_re, gF_54_0, gF_54_3, gF_54_8, gF_1_2, gF_1_5, gF_1_6, gW_2, gW_3, gW_4, gW_5, gW_6, gW_7, gW_8, gW_9, gW_10, gW_11, gW_13, gW_14, gW_16, gW_17, gW_20, gW_21, gW_22, gW_23, gW_24, gW_25, gW_26, gW_27, gW_30, gW_31, gW_32, gW_33, gW_34, gW_35, gW_36, gW_38, gW_39, gW_41, gW_42, gW_46, gW_47, gW_49, gW_50, gW_51, gW_53, gW_56, gW_57, gW_59, gW_60, xq_4_0_virtualc, xq_5_0_virtualc, xq_6_0_virtualc, xq_7_0_virtualc, iN_add, iN_mul, iN_sub, iN_and, iN_or, iN_clr, iN_shl, iN_shr, tb_r1, b1_z, b1_or, b1_and, b1_or0, b1_or1, b1_0or, b1_t, b1_f, iN_lt, iN_inj, reduceIte, if_true, if_false, Nat.zero_add, Nat.add_zero, Bool.false_eq_true, Bool.true_eq_false, Nat.lt_irrefl, iN_az, not_true_eq_false, not_false_eq_true, Nat.reduceEqDiff, Nat.reduceLT, Nat.reduceAdd, Nat.reduceMul, Nat.reduceSub]
    exact e
end Ce
