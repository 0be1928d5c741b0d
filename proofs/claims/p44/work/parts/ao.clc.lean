/-! THE CLASS ITSELF: searches, sets of rules, exams -/
section Clc
variable {xs : List Int32} {σ M N K M' : Nat → Nat → Nat} {R : ab_H} {d e k a b c u i n m l x y v set g t : Nat} {s r s0 r0 : Nat → Nat} {G : (Nat → Nat) → (Nat → Nat) → Prop} {cst : (Nat → Nat) → (Nat → Nat) → Nat}
set_option maxRecDepth 100000 in
theorem OUT_c (h : OUT σ N M' v G cst) (h12 : N 12 = M 12) (h13 : N 13 = M 13) (h14 : N 14 = M 14) : OUT σ M M' v G cst := by
  rcases h with ⟨h1, h2, h3, h4, h5⟩ | h
  · exact .inl ⟨h1, h2.trans h12, h3.trans h13, h4.trans h14, h5⟩
  · exact .inr h
abbrev TQS : List Nat := 12 :: 13 :: 14 :: QS
set_option maxRecDepth 100000 in
theorem CIv_f (h : CIv σ M) (hK : KI σ N) (f : Fr TQS M N) : CIv σ N := CIv_m h hK (f 1 rfl) (f 37 rfl) (f 38 rfl) (f 40 rfl) (f 41 rfl) (f 54 rfl) (f 53 rfl)
set_option maxRecDepth 100000 in
theorem CIv_v (h : CIv σ M) (hV : VI σ N) (f : Fr (37 :: 38 :: 39 :: QQ) M N) : CIv σ N := by
  obtain ⟨c1, c2, c3, c4⟩ := h
  unfold CIv RV at *
  rw [f 1 rfl, f 40 rfl, f 41 rfl, f 54 rfl, f 53 rfl]
  exact ⟨hV, ⟨hV.1, c2.2⟩, c3, c4⟩
set_option maxRecDepth 100000 in
theorem CIv_r (h : CIv σ M) (hV : RV σ N) (f : Fr RF M N) : CIv σ N := by
  obtain ⟨c1, c2, c3, c4⟩ := h
  unfold CIv VI at *
  rw [f 1 rfl, f 37 rfl, f 38 rfl, f 54 rfl, f 53 rfl]
  exact ⟨⟨hV.1, c1.2⟩, hV, c3, c4⟩
set_option maxRecDepth 100000 in
theorem ea_r : (1 <<< (σ 1 7)) - 1 = alr σ := rfl
-- first
set_option maxRecDepth 100000 in
theorem s_131 (O : Ok σ) (hC' : CIv σ M) : ∃ M' v, ev xs (d + 22) 131 0 ([.ref 0], [], hc σ M R) = some (.inl (some (.int (nI (b1 (decide (v ≠ 4294967295)))))), hc σ M' R) ∧ PB0 M M' ∧ CIv σ M' ∧ OUT σ M M' v (Gd σ (alr σ)) (fun _ _ => 0) := by
  have e9 := s_56 (xs := xs) (d := d + 21) (M := M) (R := R) O
  rw [ea_r] at e9
  obtain ⟨N, e0, f1, f2, f3, f4, f5, f6, -⟩ := ask_ok (xs := xs) (e := d + 17) (R := R) O (alr_lt O) hC'.1.1
  obtain ⟨K, M', v, e1, e2, g1, g2, g3⟩ := s_take (xs := xs) (e := d) (R := R) (cst := fun _ _ => 0) O f3 f2 f4 (fun s r _ => QC_0 f5 f6 s r) fun _ _ _ => Nat.zero_le _
  have e2 := e2 (d + 20)
  have fr : Fr TQS M M' := Fr_t (Fr_w f1 fun a ha => by simp at ha ⊢; omega) (Fr_w g1 fun a ha => by simp at ha ⊢; omega)
  refine ⟨M', v, ?_, Fr_PB0 fr rfl, CIv_f hC' g2 fr, OUT_c g3 (f1 12 rfl) (f1 13 rfl) (f1 14 rfl)⟩
  clear hC' f1 f2 f3 f4 f5 f6 g1 g2 g3 fr
  simp (disch := first | assumption | omega | exact st8_a (Nat.le_of_ble_eq_true rfl)) only [e9, e0, e1, e2, eb_131_0, eb_131_1, eb_131_2, eb_131_3, eb_131_4, xr_1, xr_2, xr_3, xr_4, xr_5, af_0, af_1, xt_ib, xt_ic, xt_ir, gF_0_0, gF_0_4, gF_0_5, xq_163_11_virtualc, xq_26_3_virtualc, xq_56_6_virtualc, xq_75_7_virtualc, iN_add, iN_mul, iN_sub, iN_and, iN_or, iN_clr, iN_shl, iN_shr, tb_r1, b1_z, b1_or, b1_and, b1_or0, b1_or1, b1_0or, iN_lt, iN_inj, reduceIte, if_true, if_false, Nat.zero_add, Nat.add_zero, Bool.false_eq_true, Bool.true_eq_false, Nat.lt_irrefl, iN_az, not_true_eq_false, not_false_eq_true, Nat.reduceEqDiff, Nat.reduceLT, Nat.reduceAdd, Nat.reduceMul, Nat.reduceSub]
-- best
set_option maxRecDepth 100000 in
theorem s_149 (O : Ok σ) (hC' : CIv σ M) : ∃ M' v, ev xs (d + 22) 149 0 ([.ref 0, .retAddr 9], [], hc σ M R) = some (.inl (some (.int (nI (v)))), hc σ M' R) ∧ PB0 M M' ∧ CIv σ M' ∧ OUT σ M M' v (Gd σ (alr σ)) (wt σ) := by
  have e9 := s_56 (xs := xs) (d := d + 21) (M := M) (R := R) O
  rw [ea_r] at e9
  obtain ⟨N, e0, f1, f2, f3, f4, f5, f6, -⟩ := ask_ok (xs := xs) (e := d + 17) (R := R) O (alr_lt O) hC'.1.1
  obtain ⟨P, ec, c1, c2, c3, c4⟩ := s_40 (xs := xs) (d := d + 19) (M := N) (R := R) O (fun l hl => QW_21 O f3 hl) fun j => by rw [f6 j]; decide
  have qw := QW_cost f3 c1 c2 (.inl rfl) c3 c4
  have p10 : P 19 10 = 1 := by rw [c2, u1_s]
  have kp : KI σ P := ⟨by rw [c1 1 rfl]; exact f2.1, by rw [c2, u1_n (by decide), c1 1 rfl]; exact f2.2.1, fun z => by
    have := f2.2.2.1 (by rw [c2, u1_n (by decide), c1 1 rfl] at z; exact z)
    unfold GO at this ⊢
    rw [c2, u1_n (by decide), c1 24 rfl, c1 25 rfl]
    exact this, by rw [c1 32 rfl]; exact f2.2.2.2⟩
  obtain ⟨K, M', v, e1, e2, g1, g2, g3⟩ := s_take (xs := xs) (e := d) (R := R) (N := P) (G := Gd σ (alr σ)) (cst := wt σ) O qw kp (fun s r => (QA_c2 (c1 20 rfl) (c1 21 rfl) (c1 22 rfl) (c1 23 rfl)).trans (f4 s r)) (fun s r h => by rw [QC_cost p10 (.inl rfl) c4 h.1, if_pos rfl, wt_ml]) fun s r h => by
    have := wt_lt O (r := r) fun l hl => (h.1 l hl).1
    omega
  have e2 := e2 (d + 20)
  have fr : Fr TQS M M' := Fr_t (Fr_w f1 fun a ha => by simp at ha ⊢; omega) (Fr_t (Fr_w c1 fun a ha => by simp at ha ⊢; omega) (Fr_w g1 fun a ha => by simp at ha ⊢; omega))
  refine ⟨M', v, ?_, Fr_PB0 fr rfl, CIv_f hC' g2 fr, OUT_c g3 ((c1 12 rfl).trans (f1 12 rfl)) ((c1 13 rfl).trans (f1 13 rfl)) ((c1 14 rfl).trans (f1 14 rfl))⟩
  clear hC' f1 f2 f3 f4 f5 f6 g1 g2 g3 fr c1 c2 c3 c4 qw kp
  simp (disch := first | assumption | omega | exact st8_a (Nat.le_of_ble_eq_true rfl)) only [e9, e0, ec, e1, e2, eb_149_0, eb_149_1, eb_149_2, eb_149_3, eb_149_4, eb_149_5, kl_a, kl_d, kl_f, kl_i, kl_l, kl_n, kl_r, xr_1, xr_2, xr_28, xr_29, xr_3, xr_4, xr_5, xr_53, xr_54, af_0, af_1, xt_ib, xt_ic, xt_ir, gF_0_0, gF_0_4, gF_0_5, xq_163_11_virtualc, xq_26_3_virtualc, xq_40_3_virtualc, xq_56_6_virtualc, xq_75_7_virtualc, iN_add, iN_mul, iN_sub, iN_and, iN_or, iN_clr, iN_shl, iN_shr, tb_r1, b1_z, b1_or, b1_and, b1_or0, b1_or1, b1_0or, iN_lt, iN_inj, reduceIte, if_true, if_false, Nat.zero_add, Nat.add_zero, Bool.false_eq_true, Bool.true_eq_false, Nat.lt_irrefl, iN_az, not_true_eq_false, not_false_eq_true, Nat.reduceEqDiff, Nat.reduceLT, Nat.reduceAdd, Nat.reduceMul, Nat.reduceSub]
-- fairest
set_option maxRecDepth 100000 in
theorem s_154 (O : Ok σ) (hC' : CIv σ M) : ∃ M' v, ev xs (d + 22) 154 0 ([.ref 0], [], hc σ M R) = some (.inl (some (.int (nI (b1 (decide (v ≠ 4294967295)))))), hc σ M' R) ∧ PB0 M M' ∧ CIv σ M' ∧ OUT σ M M' v (Gd σ (alr σ)) (fun s _ => sm (σ 1 4) fun t => 5 ^ shr σ s t) := by
  obtain ⟨hD1, hD2, hH1, hH2, hS, hC, hT, hR, hL, hQ⟩ := Ok_b O
  have e9 := s_56 (xs := xs) (d := d + 21) (M := M) (R := R) O
  rw [ea_r] at e9
  obtain ⟨N, e0, f1, f2, f3, f4, f5, f6, -⟩ := ask_ok (xs := xs) (e := d + 17) (R := R) O (alr_lt O) hC'.1.1
  have ec := s_42 (xs := xs) (d := d + 21) (σ := σ) (M := N) (R := R)
  have c1 : Fr [19] N (up N 19 10 3) := Fr_p (Fr_r _ _) rfl
  have p10 : up N 19 10 3 19 10 = 3 := by rw [up_s, u1_s]
  have pn : ∀ j, j ≠ 10 → up N 19 10 3 19 j = N 19 j := fun j hj => by rw [up_s, u1_n hj]
  have qw : QW σ (up N 19 10 3) := by
    obtain ⟨w1, w2, w3, w4, w5, w6, w7, w8, w9, w10⟩ := f3
    unfold QW SC at *
    rw [p10, pn 9 (by decide), up_n (show (20 : Nat) ≠ 19 by decide), up_n (show (21 : Nat) ≠ 19 by decide), up_n (show (22 : Nat) ≠ 19 by decide), up_n (show (23 : Nat) ≠ 19 by decide), up_n (show (25 : Nat) ≠ 19 by decide), up_n (show (26 : Nat) ≠ 19 by decide), up_n (show (27 : Nat) ≠ 19 by decide)]
    exact ⟨w1, w2, w3, w4, w5, w6, by decide, w8, w9, fun _ => f6⟩
  have kp : KI σ (up N 19 10 3) := ⟨by rw [c1 1 rfl]; exact f2.1, by rw [pn 11 (by decide), c1 1 rfl]; exact f2.2.1, fun z => by
    have := f2.2.2.1 (by rw [pn 11 (by decide), c1 1 rfl] at z; exact z)
    unfold GO at this ⊢
    rw [pn 9 (by decide), c1 24 rfl, c1 25 rfl]
    exact this, by rw [c1 32 rfl]; exact f2.2.2.2⟩
  obtain ⟨K, M', v, e1, e2, g1, g2, g3⟩ := s_take (xs := xs) (e := d) (R := R) (N := up N 19 10 3) (G := Gd σ (alr σ)) (cst := fun s _ => sm (σ 1 4) fun t => 5 ^ shr σ s t) O qw kp (fun s r => (QA_c2 (c1 20 rfl) (c1 21 rfl) (c1 22 rfl) (c1 23 rfl)).trans (f4 s r)) (fun s r h => by
    unfold QC gco
    rw [p10, c1 26 rfl, sm_z.mpr fun l _ => f6 _, if_neg (by decide), if_pos rfl, Nat.zero_add]) fun s r h => by
    have := shr_p (σ := σ) (s := s) hL hT
    show (sm (σ 1 4) fun t => 5 ^ shr σ s t) ≤ 100000
    omega
  have e2 := e2 (d + 20)
  have fr : Fr TQS M M' := Fr_t (Fr_w f1 fun a ha => by simp at ha ⊢; omega) (Fr_t (Fr_w c1 fun a ha => by simp at ha ⊢; omega) (Fr_w g1 fun a ha => by simp at ha ⊢; omega))
  refine ⟨M', v, ?_, Fr_PB0 fr rfl, CIv_f hC' g2 fr, OUT_c g3 ((c1 12 rfl).trans (f1 12 rfl)) ((c1 13 rfl).trans (f1 13 rfl)) ((c1 14 rfl).trans (f1 14 rfl))⟩
  clear hC' f1 f2 f3 f4 f5 f6 g1 g2 g3 fr c1 p10 pn qw kp
  simp (disch := first | assumption | omega | exact st8_a (Nat.le_of_ble_eq_true rfl)) only [e9, e0, ec, e1, e2, eb_154_0, eb_154_1, eb_154_2, eb_154_3, eb_154_4, eb_154_5, xr_1, xr_2, xr_3, xr_4, xr_5, af_0, af_1, xt_ib, xt_ic, xt_ir, gF_0_0, gF_0_4, gF_0_5, xq_163_11_virtualc, xq_26_3_virtualc, xq_42_3_virtualc, xq_56_6_virtualc, xq_75_7_virtualc, iN_add, iN_mul, iN_sub, iN_and, iN_or, iN_clr, iN_shl, iN_shr, tb_r1, b1_z, b1_or, b1_and, b1_or0, b1_or1, b1_0or, iN_lt, iN_inj, reduceIte, if_true, if_false, Nat.zero_add, Nat.add_zero, Bool.false_eq_true, Bool.true_eq_false, Nat.lt_irrefl, iN_az, not_true_eq_false, not_false_eq_true, Nat.reduceEqDiff, Nat.reduceLT, Nat.reduceAdd, Nat.reduceMul, Nat.reduceSub]
-- away
set_option maxRecDepth 100000 in
theorem s_152 (O : Ok σ) (hC' : CIv σ M) (ht : t < (σ 1 4)) (hy : y < (σ 1 0)) (h12 : M 12 0 = 1) (hb : ∀ l, l < (σ 1 6) → M 13 l < (σ 1 2) ∧ M 14 l < (σ 1 5)) : ∃ M' v, ev xs (d + 22) 152 0 ([.ref 0, .int (nI t), .int (nI y), .retAddr 9], [], hc σ M R) = some (.inl (some (.int (nI (v)))), hc σ M' R) ∧ PB0 M M' ∧ CIv σ M' ∧ OUT σ M M' v (fun s r => Gd σ (alr σ) s r ∧ NB σ t y s) (fun s r => dif (σ 1 6) s r (M 13) (M 14)) := by
  obtain ⟨hD1, hD2, hH1, hH2, hS, hC, hT, hR, hL, hQ⟩ := Ok_b O
  have h12t : TT 12 := by decide
  have a1 := (s_167 (xs := xs) (d := d + 21) (M := M) (R := R) O (show t < 4294967296 by omega)).1 ht
  have a2 := (s_170 (xs := xs) (d := d + 21) (M := M) (R := R) O (show y < 4294967296 by omega)).1 hy
  have a3 := (s_165 (xs := xs) (d := d + 21) (σ := σ) (M := M) (R := R) (by rw [h12]; decide)).1 h12
  have e9 := s_56 (xs := xs) (d := d + 21) (M := M) (R := R) O
  rw [ea_r] at e9
  obtain ⟨N, e0, f1, f2, f3, f4, f5, f6, -⟩ := ask_ok (xs := xs) (e := d + 17) (R := R) O (alr_lt O) hC'.1.1
  have e8 := s_60 (xs := xs) (d := d + 21) (M := N) (R := R) O hy
  have hdm := dm_lt O hy
  obtain ⟨g, e3, hg⟩ := s_38 (xs := xs) (d := d + 20) (M := N) (R := R) (u := t) (n := dm σ y) O (by omega) f3.2.2.2.2.1
  have hsub : ∀ l, l < (σ 1 6) → ∀ i, (g l).testBit i = true → (N 20 l).testBit i = true := fun l hl i hi => by
    rw [hg l hl, Bool.and_eq_true] at hi
    exact hi.1
  have f3b := QW_bar f3 hsub
  have f2b : KI σ (ur N 20 g) := KI_fr (M := N) (ur_n (by decide)) (ur_n (by decide)) (ur_n (by decide)) (ur_n (by decide)) (ur_n (by decide)) f2
  have n12 : ∀ b, b ≠ 20 → ur N 20 g b = N b := fun b hb => ur_n hb
  obtain ⟨P, ec, c1, c2, c3, c4⟩ := s_41 (xs := xs) (d := d + 19) (M := ur N 20 g) (R := R) (t := 12) O h12t (fun l hl => by
    rw [n12 13 (by decide), n12 14 (by decide), f1 13 rfl, f1 14 rfl]
    have := hb l hl
    omega) (fun l hl => QW_21 O f3b hl) fun j => by rw [n12 26 (by decide), f6 j]; decide
  rw [show (12 : Nat) + 1 = 13 from rfl, show (12 : Nat) + 2 = 14 from rfl, n12 13 (by decide), n12 14 (by decide), f1 13 rfl, f1 14 rfl] at c4
  have qw := QW_cost f3b c1 c2 (.inr rfl) c3 c4
  have p10 : P 19 10 = 2 := by rw [c2, u1_s]
  have kp : KI σ P := ⟨by rw [c1 1 rfl]; exact f2b.1, by rw [c2, u1_n (by decide), c1 1 rfl]; exact f2b.2.1, fun z => by
    have := f2b.2.2.1 (by rw [c2, u1_n (by decide), c1 1 rfl] at z; exact z)
    unfold GO at this ⊢
    rw [c2, u1_n (by decide), c1 24 rfl, c1 25 rfl]
    exact this, by rw [c1 32 rfl]; exact f2b.2.2.2⟩
  obtain ⟨K, M', v, e1, e2, g1, g2, g3⟩ := s_take (xs := xs) (e := d) (R := R) (N := P) (G := fun s r => Gd σ (alr σ) s r ∧ NB σ t y s) (cst := fun s r => dif (σ 1 6) s r (M 13) (M 14)) O qw kp (fun s r => by
    rw [QA_c2 (c1 20 rfl) (c1 21 rfl) (c1 22 rfl) (c1 23 rfl), QA_bar O f3 hg, f4 s r]
    exact and_congr_right fun _ => ⟨fun h => Or.inr h, fun h => h.resolve_left (by omega)⟩) (fun s r h => by
    rw [QC_cost p10 (.inr rfl) c4 h.1.1, if_neg (by decide), Nat.add_zero, dif_wch]) fun s r h => by
    have := sm_le (n := (σ 1 6)) (c := 1) (f := fun l => b1 (decide (s l ≠ M 13 l) || decide (r l ≠ M 14 l))) fun i _ => Nat.le_of_lt_succ (b1_lt _)
    show dif (σ 1 6) s r (M 13) (M 14) ≤ 100000
    unfold dif
    omega
  have e2 := e2 (d + 20)
  have fr : Fr TQS M M' := Fr_t (Fr_w f1 fun a ha => by simp at ha ⊢; omega) (Fr_t (Fr_u (Fr_r _ _) rfl) (Fr_t (Fr_w c1 fun a ha => by simp at ha ⊢; omega) (Fr_w g1 fun a ha => by simp at ha ⊢; omega)))
  refine ⟨M', v, ?_, Fr_PB0 fr rfl, CIv_f hC' g2 fr, OUT_c g3 ((c1 12 rfl).trans (f1 12 rfl)) ((c1 13 rfl).trans (f1 13 rfl)) ((c1 14 rfl).trans (f1 14 rfl))⟩
  clear hC' f1 f2 f3 f4 f5 f6 g1 g2 g3 fr c1 c2 c3 c4 qw kp f3b f2b hg hsub hb
  simp (disch := first | assumption | omega | exact st8_a (Nat.le_of_ble_eq_true rfl)) only [a1, a2, a3, e9, e0, e8, e3, ec, e1, e2, eb_152_0, eb_152_1, eb_152_2, eb_152_3, eb_152_4, eb_152_5, eb_152_6, eb_152_7, eb_152_8, eb_152_9, eb_152_10, kl_a, kl_d, kl_f, kl_i, kl_l, kl_n, kl_r, xr_1, xr_2, xr_28, xr_3, xr_31, xr_32, xr_37, xr_4, xr_5, xr_53, xr_54, af_0, af_1, xt_ib, xt_ic, xt_ir, gF_0_0, gF_0_1, gF_0_4, gF_0_5, xq_163_11_virtualc, xq_165_11_virtualc, xq_167_11_virtualc, xq_170_11_virtualc, xq_26_3_virtualc, xq_38_3_virtualc, xq_41_3_virtualc, xq_56_6_virtualc, xq_60_6_virtualc, xq_75_7_virtualc, iN_add, iN_mul, iN_sub, iN_and, iN_or, iN_clr, iN_shl, iN_shr, tb_r1, b1_z, b1_or, b1_and, b1_or0, b1_or1, b1_0or, iN_lt, iN_inj, reduceIte, if_true, if_false, Nat.zero_add, Nat.add_zero, Bool.false_eq_true, Bool.true_eq_false, Nat.lt_irrefl, iN_az, not_true_eq_false, not_false_eq_true, Nat.reduceEqDiff, Nat.reduceLT, Nat.reduceAdd, Nat.reduceMul, Nat.reduceSub]
-- next
set_option maxRecDepth 100000 in
theorem s_132 (O : Ok σ) (hC' : CIv σ M) (h12 : M 12 0 = 1) (hb : ∀ l, l < (σ 1 6) → M 13 l < (σ 1 2) ∧ M 14 l < (σ 1 5)) : ∃ M', ∃ b : Bool, ev xs (d + 25) 132 0 ([.ref 0], [], hc σ M R) = some (.inl (some (.int (nI (b1 b)))), hc σ M' R) ∧ PB0 M M' ∧ CIv σ M' ∧ (b = false → M' 12 = M 12 ∧ M' 13 = M 13 ∧ M' 14 = M 14 ∧ ∀ s r, Gd σ (alr σ) s r → ¬ LX (σ 1 6) (M 13) (M 14) s r) ∧ (b = true → M' 12 0 = 1 ∧ M' 12 1 = (σ 1 6) ∧ Gd σ (alr σ) (M' 13) (M' 14) ∧ LX (σ 1 6) (M 13) (M 14) (M' 13) (M' 14) ∧ ∀ s r, Gd σ (alr σ) s r → LX (σ 1 6) (M 13) (M 14) s r → ¬ LX (σ 1 6) s r (M' 13) (M' 14)) := by
  have a3 := (s_165 (xs := xs) (d := d + 24) (σ := σ) (M := M) (R := R) (by rw [h12]; decide)).1 h12
  obtain ⟨K, b, e1, f1, f2, f3, f4⟩ := s_76 (xs := xs) (e := d) (R := R) O hC'.1.1 (fun l hl => (hb l hl).1) fun l hl => (hb l hl).2
  cases b
  · have e2 := s_163n (xs := xs) (d := d + 23) (σ := σ) (M := K) (R := R)
    have fr : Fr TQS M K := Fr_w f1 fun a ha => by simp at ha ⊢; omega
    obtain ⟨-, -, -, q⟩ := f3 rfl
    refine ⟨K, false, ?_, Fr_PB0 fr rfl, CIv_f hC' f2 fr, fun _ => ⟨f1 12 rfl, f1 13 rfl, f1 14 rfl, q⟩, fun z => (by cases z)⟩
    clear hC' f1 f2 f3 f4 fr q hb
    simp (disch := first | assumption | omega | exact st8_a (Nat.le_of_ble_eq_true rfl)) only [a3, e1, e2, eb_132_0, eb_132_1, eb_132_2, eb_132_3, eb_132_4, eb_132_5, eb_132_6, xr_1, xr_10, xr_2, xr_3, xr_4, xr_5, xr_64, af_0, af_1, xt_goto, xt_ib, xt_ic, xt_if_eq, xt_ir, xt_nop, gF_0_1, gF_0_5, xq_163_11_virtualc, xq_165_11_virtualc, xq_76_7_virtualc, iN_add, iN_mul, iN_sub, iN_and, iN_or, iN_clr, iN_shl, iN_shr, tb_r1, b1_z, b1_or, b1_and, b1_or0, b1_or1, b1_0or, b1_t, b1_f, iN_lt, iN_inj, reduceIte, if_true, if_false, Nat.zero_add, Nat.add_zero, Bool.false_eq_true, Bool.true_eq_false, Nat.lt_irrefl, iN_az, not_true_eq_false, not_false_eq_true, Nat.reduceEqDiff, Nat.reduceLT, Nat.reduceAdd, Nat.reduceMul, Nat.reduceSub]
  · obtain ⟨z4, z5, q1, q2, q3⟩ := f4 rfl
    have e2 := s_163 (xs := xs) (d := d + 23) (σ := σ) (M := K) (R := R) (v := 0) (by decide) (by rw [z4]; decide)
    have c13 : cpt K 12 29 13 = K 30 := by
      unfold cpt
      rw [ur_n (by decide), ur_s]
    have c14 : cpt K 12 29 14 = K 31 := by
      unfold cpt
      rw [ur_s]
    have c120 : cpt K 12 29 12 0 = 1 := by
      unfold cpt
      rw [ur_n (by decide), ur_n (by decide), up_s, u1_n (by decide), up_s, u1_s]
      exact z4
    have c121 : cpt K 12 29 12 1 = (σ 1 6) := by
      unfold cpt
      rw [ur_n (by decide), ur_n (by decide), up_s, u1_s]
      exact z5
    have cf : ∀ b, b ≠ 12 → b ≠ 13 → b ≠ 14 → cpt K 12 29 b = K b := fun b h1 h2 h3 => by
      unfold cpt
      rw [ur_n h3, ur_n h2, up_n h1, up_n h1]
    have fr : Fr TQS M (cpt K 12 29) := Fr_t (Fr_w f1 fun a ha => by simp at ha ⊢; omega) (fun b hb => cf b (fun z => by rw [z] at hb; cases hb) (fun z => by rw [z] at hb; cases hb) (fun z => by rw [z] at hb; cases hb))
    refine ⟨cpt K 12 29, true, ?_, Fr_PB0 fr rfl, CIv_f hC' (KI_fr (cf 1 (by decide) (by decide) (by decide)) (cf 19 (by decide) (by decide) (by decide)) (cf 24 (by decide) (by decide) (by decide)) (cf 25 (by decide) (by decide) (by decide)) (cf 32 (by decide) (by decide) (by decide)) f2) fr, fun z => (by cases z), fun _ => ⟨c120, c121, by rw [c13, c14]; exact q1, by rw [c13, c14]; exact q2, by rw [c13, c14]; exact q3⟩⟩
    clear hC' f1 f2 f3 f4 fr q1 q2 q3 hb c13 c14 c120 c121 cf z4 z5
    simp (disch := first | assumption | omega | exact st8_a (Nat.le_of_ble_eq_true rfl)) only [a3, e1, e2, eb_132_0, eb_132_1, eb_132_2, eb_132_3, eb_132_4, eb_132_5, eb_132_6, xr_1, xr_10, xr_2, xr_3, xr_4, xr_5, xr_64, af_0, af_1, xt_goto, xt_ib, xt_ic, xt_if_eq, xt_ir, xt_nop, gF_0_1, gF_0_5, xq_163_11_virtualc, xq_165_11_virtualc, xq_76_7_virtualc, iN_add, iN_mul, iN_sub, iN_and, iN_or, iN_clr, iN_shl, iN_shr, tb_r1, b1_z, b1_or, b1_and, b1_or0, b1_or1, b1_0or, b1_t, b1_f, iN_lt, iN_inj, reduceIte, if_true, if_false, Nat.zero_add, Nat.add_zero, Bool.false_eq_true, Bool.true_eq_false, Nat.lt_irrefl, iN_az, not_true_eq_false, not_false_eq_true, Nat.reduceEqDiff, Nat.reduceLT, Nat.reduceAdd, Nat.reduceMul, Nat.reduceSub]
end Clc
