/-! THE LAW: the tables, to the end; the sets of rules -/
section Pf
variable {xs : List Int32} {d : Nat} {σ M M0 M1 N W : Nat → Nat → Nat} {ρ : Int32} {n : Nat} {B w : Nat → Nat} {E : ab_H} {l o u v q t i x p k c a b e j g la fa p6 : Nat} {s r s2 r2 Y : Nat → Nat} {x3 x4 x5 : Int32} {y2 y7 y8 y9 y10 : Value} {G : (Nat → Nat) → (Nat → Nat) → Prop} {cst : (Nat → Nat) → (Nat → Nat) → Nat}
set_option maxRecDepth 100000 in
theorem IC_o (h : IC σ M0 M) (h1 : PB0 M N) (h2 : CIv σ N) (h3 : OUT σ M N v G cst) (hG : ∀ s r, G s r → Gd σ (alr σ) s r) : IC σ M0 N := ⟨h2, PB0_t h.2.1 h1, PT_o h3 hG h.2.2⟩
set_option maxRecDepth 100000 in
theorem TA_no (O : Ok σ) (hTA : TA σ n W B) (h : ∀ i, i < n → B i ≠ 0) : ∀ s r, ¬ Gd σ (alr σ) s r := fun s r hg => by
  obtain ⟨k, hk, hb, -⟩ := TA_i O hTA hg
  exact h k hk hb
set_option maxRecDepth 100000 in
theorem OUT_no (h : OUT σ M N v G cst) (hn : ∀ s r, ¬ G s r) : v = 4294967295 := by
  rcases h with h | ⟨-, -, -, h, -⟩
  · exact h.1
  · exact absurd h (hn _ _)
-- no table is good
set_option maxRecDepth 100000 in
theorem t_57 (O : Ok σ) (hTA : TA σ n W B) (hno : ∀ i, i < n → B i ≠ 0) (hI : IC σ M0 M) : ∃ N, IC σ M0 N ∧ ev xs (d + 40) 295 56 ([.ref 0, .ref 63, .int (nI 1), .int (nI 0), .int x4, .int x5, .ref p6, y7, y8, y9, y10], [], HE σ M ρ n B w W E) = some (.inl (some (.int (nI (1)))), HE σ N ρ n B w W E) := by
  have hG := TA_no O hTA hno
  obtain ⟨N1, v1, e1, p1, p2, p3⟩ := s_131 (xs := xs) (d := d + 17) (M := M) (R := LR ρ σ n (TSS n) B ((oI (ar (σ 1 6) w) :: RWS σ n W) ++ E)) O hI.1
  have i1 := IC_o hI p1 p2 p3 fun _ _ h => h
  obtain ⟨N2, v2, e2, q1, q2, q3⟩ := s_149 (xs := xs) (d := d + 17) (M := N1) (R := LR ρ σ n (TSS n) B ((oI (ar (σ 1 6) w) :: RWS σ n W) ++ E)) O i1.1
  have i2 := IC_o i1 q1 q2 q3 fun _ _ h => h
  obtain ⟨N3, v3, e3, r1, r2, r3⟩ := s_154 (xs := xs) (d := d + 17) (M := N2) (R := LR ρ σ n (TSS n) B ((oI (ar (σ 1 6) w) :: RWS σ n W) ++ E)) O i2.1
  have i3 := IC_o i2 r1 r2 r3 fun _ _ h => h
  have z1 := OUT_no p3 hG
  have z2 := OUT_no q3 hG
  have z3 := OUT_no r3 hG
  refine ⟨N3, i3, ?_⟩
  rw [z1, show decide ((4294967295 : Nat) ≠ 4294967295) = false from by decide] at e1
  rw [z2] at e2
  rw [z3, show decide ((4294967295 : Nat) ≠ 4294967295) = false from by decide] at e3
  clear hTA hno hI hG p1 p2 p3 q1 q2 q3 r1 r2 r3 i1 i2 i3 z1 z2 z3
  simp (disch := first | assumption | omega | exact st8_a (Nat.le_of_ble_eq_true rfl)) only [e1, e2, e3, eb_295_56, eb_295_57, eb_295_58, eb_295_59, eb_295_60, eb_295_61, eb_295_62, eb_295_63, eb_295_64, eb_295_66, kl_a, kl_d, kl_f, kl_i, kl_l, kl_n, kl_r, xr_1, xr_10, xr_11, xr_12, xr_13, xr_14, xr_15, xr_185, xr_186, xr_187, xr_188, xr_189, xr_2, xr_254, xr_255, xr_256, xr_257, xr_27, xr_3, xr_30, xr_31, xr_32, xr_33, xr_34, xr_35, xr_36, xr_37, xr_4, xr_43, xr_5, xr_61, xr_62, xr_64, xr_77, xr_91, xr_92, xr_93, xr_94, xr_95, xr_96, xr_98, af_0, af_1, xt_goto, xt_ib, xt_ic, xt_ic_ge, xt_ic_gt, xt_ic_le, xt_ic_ne, xt_if_eq, xt_if_lt, xt_if_ne, xt_ir, xt_nop, lA_74, lF_17, lF_18, lF_19, lF_8, lA_64, lA_65, lA_66, lA_67, lA_68, lA_69, lA_70, lA_71, lA_72, lA_73, lA_75, lA_62, xq_129_11_virtualc, xq_130_11_virtualc, xq_131_11_virtualc, xq_132_11_virtualc, xq_135_11_virtualc, xq_136_11_virtualc, xq_148_11_virtualc, xq_149_11_virtualc, xq_150_11_virtualc, xq_154_11_virtualc, xq_290_12_virtualm, xq_291_12_virtualm, xq_294_200_static, iN_add, iN_mul, iN_sub, iN_and, iN_or, iN_clr, iN_shl, iN_shr, tb_r1, b1_z, b1_or, b1_and, b1_or0, b1_or1, b1_0or, b1_t, b1_f, iN_lt, iN_inj, reduceIte, if_true, if_false, Nat.zero_add, Nat.add_zero, Bool.false_eq_true, Bool.true_eq_false, Nat.lt_irrefl, iN_az, not_true_eq_false, not_false_eq_true, Nat.reduceEqDiff, Nat.reduceLT, Nat.reduceAdd, Nat.reduceMul, Nat.reduceSub]
-- behind the last good one none comes
set_option maxRecDepth 100000 in
theorem t_67 (O : Ok σ) (hTA : TA σ n W B) (hI : IC σ M0 M) (hg : g ≤ n) (h12 : g ≤ 12 → ∃ j, j < n ∧ B j = 0 ∧ (∀ i, j < i → i < n → B i ≠ 0) ∧ PK σ M W j) : ∃ N, IC σ M0 N ∧ ev xs (d + 40) 295 67 ([.ref 0, .ref 63, .int (nI 1), .int (nI g), .int x4, .int x5, .ref p6, y7, y8, y9, y10], [], HE σ M ρ n B w W E) = ev xs (d + 40) 295 73 ([.ref 0, .ref 63, .int (nI 1), .int (nI g), .int x4, .int x5, .ref p6, y7, y8, y9, y10], [.int (nI 1)], HE σ N ρ n B w W E) := by
  have hn := TA_n hTA
  by_cases c : 12 < g
  · refine ⟨M, hI, ?_⟩
    clear hTA hI h12
    simp (disch := first | assumption | omega | exact st8_a (Nat.le_of_ble_eq_true rfl)) only [c, eb_295_67, eb_295_68, eb_295_71, kl_a, kl_d, kl_f, kl_i, kl_l, kl_n, kl_r, xr_1, xr_10, xr_11, xr_12, xr_13, xr_14, xr_15, xr_185, xr_186, xr_187, xr_188, xr_189, xr_2, xr_254, xr_255, xr_256, xr_257, xr_27, xr_3, xr_30, xr_31, xr_32, xr_33, xr_34, xr_35, xr_36, xr_37, xr_4, xr_43, xr_5, xr_61, xr_62, xr_64, xr_77, xr_91, xr_92, xr_93, xr_94, xr_95, xr_96, xr_98, af_0, af_1, xt_goto, xt_ib, xt_ic, xt_ic_ge, xt_ic_gt, xt_ic_le, xt_ic_ne, xt_if_eq, xt_if_lt, xt_if_ne, xt_ir, xt_nop, lA_74, lF_17, lF_18, lF_19, lF_8, lA_64, lA_65, lA_66, lA_67, lA_68, lA_69, lA_70, lA_71, lA_72, lA_73, lA_75, lA_62, xq_129_11_virtualc, xq_130_11_virtualc, xq_131_11_virtualc, xq_132_11_virtualc, xq_135_11_virtualc, xq_136_11_virtualc, xq_148_11_virtualc, xq_149_11_virtualc, xq_150_11_virtualc, xq_154_11_virtualc, xq_290_12_virtualm, xq_291_12_virtualm, xq_294_200_static, iN_add, iN_mul, iN_sub, iN_and, iN_or, iN_clr, iN_shl, iN_shr, tb_r1, b1_z, b1_or, b1_and, b1_or0, b1_or1, b1_0or, b1_t, b1_f, iN_lt, iN_inj, reduceIte, if_true, if_false, Nat.zero_add, Nat.add_zero, Bool.false_eq_true, Bool.true_eq_false, Nat.lt_irrefl, iN_az, not_true_eq_false, not_false_eq_true, Nat.reduceEqDiff, Nat.reduceLT, Nat.reduceAdd, Nat.reduceMul, Nat.reduceSub]
  · obtain ⟨j, j1, j2, j3, j4⟩ := h12 (by omega)
    have hb := PK_w hTA j1 j4
    obtain ⟨N, b, e1, p1, p2, p3, p4⟩ := s_132 (xs := xs) (d := d + 14) (M := M) (R := LR ρ σ n (TSS n) B ((oI (ar (σ 1 6) w) :: RWS σ n W) ++ E)) O hI.1 j4.1 hb
    cases b
    · obtain ⟨a1, a2, a3, -⟩ := p3 rfl
      refine ⟨N, IC_b hI ⟨p1, a1, a2, a3⟩ p2, ?_⟩
      clear hTA hI h12 p1 p2 p3 p4 j3 j4 hb
      simp (disch := first | assumption | omega | exact st8_a (Nat.le_of_ble_eq_true rfl)) only [c, e1, eb_295_67, eb_295_68, eb_295_69, eb_295_70, eb_295_71, kl_a, kl_d, kl_f, kl_i, kl_l, kl_n, kl_r, xr_1, xr_10, xr_11, xr_12, xr_13, xr_14, xr_15, xr_185, xr_186, xr_187, xr_188, xr_189, xr_2, xr_254, xr_255, xr_256, xr_257, xr_27, xr_3, xr_30, xr_31, xr_32, xr_33, xr_34, xr_35, xr_36, xr_37, xr_4, xr_43, xr_5, xr_61, xr_62, xr_64, xr_77, xr_91, xr_92, xr_93, xr_94, xr_95, xr_96, xr_98, af_0, af_1, xt_goto, xt_ib, xt_ic, xt_ic_ge, xt_ic_gt, xt_ic_le, xt_ic_ne, xt_if_eq, xt_if_lt, xt_if_ne, xt_ir, xt_nop, lA_74, lF_17, lF_18, lF_19, lF_8, lA_64, lA_65, lA_66, lA_67, lA_68, lA_69, lA_70, lA_71, lA_72, lA_73, lA_75, lA_62, xq_129_11_virtualc, xq_130_11_virtualc, xq_131_11_virtualc, xq_132_11_virtualc, xq_135_11_virtualc, xq_136_11_virtualc, xq_148_11_virtualc, xq_149_11_virtualc, xq_150_11_virtualc, xq_154_11_virtualc, xq_290_12_virtualm, xq_291_12_virtualm, xq_294_200_static, iN_add, iN_mul, iN_sub, iN_and, iN_or, iN_clr, iN_shl, iN_shr, tb_r1, b1_z, b1_or, b1_and, b1_or0, b1_or1, b1_0or, b1_t, b1_f, iN_lt, iN_inj, reduceIte, if_true, if_false, Nat.zero_add, Nat.add_zero, Bool.false_eq_true, Bool.true_eq_false, Nat.lt_irrefl, iN_az, not_true_eq_false, not_false_eq_true, Nat.reduceEqDiff, Nat.reduceLT, Nat.reduceAdd, Nat.reduceMul, Nat.reduceSub]
    · obtain ⟨a1, a2, a3, a4, a5⟩ := p4 rfl
      obtain ⟨i, hi, bi, ha⟩ := TA_i O hTA a3
      have hx : LX (σ 1 6) (tsl (W j)) (trm (W j)) (tsl (W i)) (trm (W i)) := LX_c1 j4.2.2 (LX_c2 ha a4)
      by_cases c1 : j < i
      · exact absurd bi (j3 i c1 hi)
      · by_cases c2 : i = j
        · rw [c2] at hx
          exact absurd hx (LX_as hx)
        · exact absurd (TA_lx hTA (show i < j by omega) j1) (LX_as hx)
set_option maxRecDepth 100000 in
theorem lwt_wv (hs : (Y l).testBit (u * 3 + v) = true) (h1 : u < (σ 1 2)) (h2 : v < (σ 1 5)) : lwt σ Y l ≤ wv σ l u v := by
  have e1 : lwt σ Y l ≤ lwq σ Y l u := mno_le h1
  have e2 : lwq σ Y l u ≤ lwr σ Y l u v := mno_le h2
  unfold lwr at e2
  rw [if_pos hs] at e2
  exact Nat.le_trans e1 e2
-- the bound is not greater than a good table's weight
set_option maxRecDepth 100000 in
theorem t_bnd (O : Ok σ) (hTA : TA σ n W B) (hk : k < n) (hB : B k = 0) (hI : IC σ M0 M) {R : ab_H} : ∃ N v, IC σ M0 N ∧ PB M N ∧ v ≤ GK σ W k ∧ ev xs (d + 39) 150 0 ([.ref 0], [], hc σ M R) = some (.inl (some (.int (nI (v)))), hc σ N R) := by
  obtain ⟨N, v, e1, p1, p2, p3, p4⟩ := s_150 (xs := xs) (d := d + 32) (M := M) (R := R) O hI.1
  refine ⟨N, v, IC_b hI p1 p2, p1, ?_, e1⟩
  have hb : ∀ l, l < (σ 1 6) → (N 38 l).testBit (W k l / 10 * 3 + W k l % 10) = true := fun l hl => t_v O hTA hk hB p2 p3 hl
  rcases p4 with ⟨⟨l, hl, h0⟩, -⟩ | ⟨-, h⟩
  · have := hb l hl
    rw [h0, Nat.zero_testBit] at this
    cases this
  · rw [h]
    have h1 : sm (σ 1 6) (lwt σ (N 38)) ≤ sm (σ 1 6) fun l => wv σ l (tsl (W k) l) (trm (W k) l) := sm_mono fun l hl => lwt_wv (hb l hl) (TA_w hTA hk l hl).1 (TA_w hTA hk l hl).2
    show _ ≤ wt σ _ _
    unfold wt
    omega
-- the lightest one
set_option maxRecDepth 100000 in
theorem t_73 (O : Ok σ) (hTA : TA σ n W B) (hI : IC σ M0 M) (hk : la < n) (hB : B la = 0) (hm : ∀ i, i < n → B i = 0 → GK σ W la ≤ GK σ W i) (hf : ∀ i, i < la → B i = 0 → GK σ W la < GK σ W i) : ∃ N y, IC σ M0 N ∧ ev xs (d + 40) 295 73 ([.ref 0, .ref 63, .int (nI 1), .int x3, .int (nI la), .int x5, .ref p6, y7, y8, y9, y10], [.int (nI 1)], HE σ M ρ n B w W E) = ev xs (d + 40) 295 85 ([.ref 0, .ref 63, .int (nI 1), .int x3, .int (nI la), .int x5, .ref p6, y, y8, y9, y10], [.int (nI 1)], HE σ N ρ n B w W E) := by
  have hn := TA_n hTA
  obtain ⟨N1, v1, e1, p1, p2, p3⟩ := s_149 (xs := xs) (d := d + 17) (M := M) (R := LR ρ σ n (TSS n) B ((oI (ar (σ 1 6) w) :: RWS σ n W) ++ E)) O hI.1
  have i1 := IC_o hI p1 p2 p3 fun _ _ h => h
  rcases p3 with ⟨-, -, -, -, h6⟩ | ⟨v2, v3, v4, v5, v6, v7, v8⟩
  · exact absurd (TA_g hTA hk hB) (h6 _ _)
  · have hv : GK σ W la = v1 := by
      obtain ⟨i, hi, bi, ha⟩ := TA_i O hTA v5
      have h1 := v7 _ _ (TA_g hTA hk hB)
      have h2 := hm i hi bi
      have h3 : GK σ W i = v1 := (wt_cg ha).symm.trans v6
      have h4 : v1 ≤ GK σ W la := h1
      omega
    have hA := TA_m O hTA (P := fun s r => wt σ s r = v1) (fun s r s2 r2 ha h => (wt_cg ha).symm.trans h) v5 v6 v8 hk hB hv fun i hi hb h => by
      have h1 := hf i hi hb
      have h2 : GK σ W i = v1 := h
      omega
    have hPK : PK σ N1 W la := ⟨v3, v4, hA⟩
    have hb := PK_w hTA hk hPK
    have e2 := p_290e (xs := xs) (d := d + 36) (M := N1) (ρ := ρ) (B := B) (w := w) (E := E) O hk (TA_w hTA hk)
    have e3 := p_294 (xs := xs) (d := d + 37) (M := N1) (ρ := ρ) (B := B) (w := w) (E := E) O v3 hb hn hk (TA_w hTA hk)
    rw [isT hA] at e3
    obtain ⟨N2, v9, i2, -, g2, e4⟩ := t_bnd (xs := xs) (d := d) (R := LR ρ σ n (TSS n) B ((oI (ar (σ 1 6) w) :: RWS σ n W) ++ E)) O hTA hk hB i1
    obtain ⟨N3, v10, i3, -, g3, e5⟩ := t_bnd (xs := xs) (d := d) (R := LR ρ σ n (TSS n) B ((oI (ar (σ 1 6) w) :: RWS σ n W) ++ E)) O hTA hk hB i2
    have w1 : GK σ W la < 1000 := wt_lt O fun l hl => (TA_w hTA hk l hl).1
    have hk2 : la < 2000 := by omega
    refine ⟨N3, .int (nI (GK σ W la)), i3, ?_⟩
    rw [← hv] at e1
    have c1 : ¬ GK σ W la < v10 := by omega
    have b9 : v9 < 1000 := by omega
    have b10 : v10 < 1000 := by omega
    clear hTA hI hm hf p1 p2 i1 v5 v6 v7 v8 hA hPK hb i2 i3 hv g2 g3
    simp (disch := first | assumption | omega | exact st8_a (Nat.le_of_ble_eq_true rfl)) only [Nat.not_lt_zero, e1, lA_74 (TSS_get hk hk2), e2, e3, e4, e5, c1, eb_295_73, eb_295_74, eb_295_75, eb_295_76, eb_295_77, eb_295_78, eb_295_79, eb_295_80, eb_295_81, eb_295_82, eb_295_83, kl_a, kl_d, kl_f, kl_i, kl_l, kl_n, kl_r, xr_1, xr_10, xr_11, xr_12, xr_13, xr_14, xr_15, xr_185, xr_186, xr_187, xr_188, xr_189, xr_2, xr_254, xr_255, xr_256, xr_257, xr_27, xr_3, xr_30, xr_31, xr_32, xr_33, xr_34, xr_35, xr_36, xr_37, xr_4, xr_43, xr_5, xr_61, xr_62, xr_64, xr_77, xr_91, xr_92, xr_93, xr_94, xr_95, xr_96, xr_98, af_0, af_1, xt_goto, xt_ib, xt_ic, xt_ic_ge, xt_ic_gt, xt_ic_le, xt_ic_ne, xt_if_eq, xt_if_lt, xt_if_ne, xt_ir, xt_nop, lA_74, lF_17, lF_18, lF_19, lF_8, lA_64, lA_65, lA_66, lA_67, lA_68, lA_69, lA_70, lA_71, lA_72, lA_73, lA_75, lA_62, xq_129_11_virtualc, xq_130_11_virtualc, xq_131_11_virtualc, xq_132_11_virtualc, xq_135_11_virtualc, xq_136_11_virtualc, xq_148_11_virtualc, xq_149_11_virtualc, xq_150_11_virtualc, xq_154_11_virtualc, xq_290_12_virtualm, xq_291_12_virtualm, xq_294_200_static, iN_add, iN_mul, iN_sub, iN_and, iN_or, iN_clr, iN_shl, iN_shr, tb_r1, b1_z, b1_or, b1_and, b1_or0, b1_or1, b1_0or, b1_t, b1_f, iN_lt, iN_inj, reduceIte, if_true, if_false, Nat.zero_add, Nat.add_zero, Bool.false_eq_true, Bool.true_eq_false, Nat.lt_irrefl, iN_az, not_true_eq_false, not_false_eq_true, Nat.reduceEqDiff, Nat.reduceLT, Nat.reduceAdd, Nat.reduceMul, Nat.reduceSub]
-- the fairest one
set_option maxRecDepth 100000 in
theorem t_85 (O : Ok σ) (hL4 : (σ 1 6) ≤ 4) (hT3 : (σ 1 4) ≤ 3) (hTA : TA σ n W B) (hI : IC σ M0 M) (hk : fa < n) (hB : B fa = 0) (hm : ∀ i, i < n → B i = 0 → SK σ W fa ≤ SK σ W i) (hf : ∀ i, i < fa → B i = 0 → SK σ W fa < SK σ W i) : ∃ N, IC σ M0 N ∧ ev xs (d + 40) 295 85 ([.ref 0, .ref 63, .int (nI 1), .int x3, .int x4, .int (nI fa), .ref p6, y7, y8, y9, y10], [.int (nI 1)], HE σ M ρ n B w W E) = some (.inl (some (.int (nI (1)))), HE σ N ρ n B w W E) := by
  have hn := TA_n hTA
  have ord : ∀ i j, SK σ W i < SK σ W j ↔ s5 (σ 1 4) (shr σ (tsl (W i))) < s5 (σ 1 4) (shr σ (tsl (W j))) := fun i j => sho_ord hT3 (fun t => Nat.lt_succ_of_le (Nat.le_trans (shr_le _ _) hL4)) (fun t => Nat.lt_succ_of_le (Nat.le_trans (shr_le _ _) hL4))
  have cg : ∀ {s r s2 r2 : Nat → Nat}, AG (σ 1 6) s r s2 r2 → s5 (σ 1 4) (shr σ s) = s5 (σ 1 4) (shr σ s2) := fun ha => sm_cg fun t _ => by rw [shr_cg fun l hl => (ha l hl).1]
  obtain ⟨N1, v1, e1, p1, p2, p3⟩ := s_154 (xs := xs) (d := d + 17) (M := M) (R := LR ρ σ n (TSS n) B ((oI (ar (σ 1 6) w) :: RWS σ n W) ++ E)) O hI.1
  have i1 := IC_o hI p1 p2 p3 fun _ _ h => h
  rcases p3 with ⟨-, -, -, -, h6⟩ | ⟨v2, v3, v4, v5, v6, v7, v8⟩
  · exact absurd (TA_g hTA hk hB) (h6 _ _)
  · have hv : s5 (σ 1 4) (shr σ (tsl (W fa))) = v1 := by
      obtain ⟨i, hi, bi, ha⟩ := TA_i O hTA v5
      have h1 := v7 _ _ (TA_g hTA hk hB)
      have h2 : ¬ SK σ W i < SK σ W fa := by
        have := hm i hi bi
        omega
      rw [ord] at h2
      have h3 : s5 (σ 1 4) (shr σ (tsl (W i))) = v1 := (cg ha).symm.trans v6
      have h4 : v1 ≤ s5 (σ 1 4) (shr σ (tsl (W fa))) := h1
      omega
    have hA := TA_m O hTA (P := fun s r => s5 (σ 1 4) (shr σ s) = v1) (fun s r s2 r2 ha h => (cg ha).symm.trans h) v5 v6 v8 hk hB hv fun i hi hb h => by
      have h1 := (ord _ _).mp (hf i hi hb)
      have h2 : s5 (σ 1 4) (shr σ (tsl (W i))) = v1 := h
      omega
    have hPK : PK σ N1 W fa := ⟨v3, v4, hA⟩
    have hb := PK_w hTA hk hPK
    have e3 := p_294 (xs := xs) (d := d + 37) (M := N1) (ρ := ρ) (B := B) (w := w) (E := E) O v3 hb hn hk (TA_w hTA hk)
    rw [isT hA] at e3
    refine ⟨N1, i1, ?_⟩
    rw [show decide (v1 ≠ 4294967295) = true from decide_eq_true (by omega)] at e1
    clear hTA hI hm hf p1 p2 i1 v5 v6 v7 v8 hA hPK hb hv ord cg
    simp (disch := first | assumption | omega | exact st8_a (Nat.le_of_ble_eq_true rfl)) only [e1, e3, eb_295_85, eb_295_86, eb_295_87, eb_295_88, eb_295_89, eb_295_90, eb_295_92, kl_a, kl_d, kl_f, kl_i, kl_l, kl_n, kl_r, xr_1, xr_10, xr_11, xr_12, xr_13, xr_14, xr_15, xr_185, xr_186, xr_187, xr_188, xr_189, xr_2, xr_254, xr_255, xr_256, xr_257, xr_27, xr_3, xr_30, xr_31, xr_32, xr_33, xr_34, xr_35, xr_36, xr_37, xr_4, xr_43, xr_5, xr_61, xr_62, xr_64, xr_77, xr_91, xr_92, xr_93, xr_94, xr_95, xr_96, xr_98, af_0, af_1, xt_goto, xt_ib, xt_ic, xt_ic_ge, xt_ic_gt, xt_ic_le, xt_ic_ne, xt_if_eq, xt_if_lt, xt_if_ne, xt_ir, xt_nop, lA_74, lF_17, lF_18, lF_19, lF_8, lA_64, lA_65, lA_66, lA_67, lA_68, lA_69, lA_70, lA_71, lA_72, lA_73, lA_75, lA_62, xq_129_11_virtualc, xq_130_11_virtualc, xq_131_11_virtualc, xq_132_11_virtualc, xq_135_11_virtualc, xq_136_11_virtualc, xq_148_11_virtualc, xq_149_11_virtualc, xq_150_11_virtualc, xq_154_11_virtualc, xq_290_12_virtualm, xq_291_12_virtualm, xq_294_200_static, iN_add, iN_mul, iN_sub, iN_and, iN_or, iN_clr, iN_shl, iN_shr, tb_r1, b1_z, b1_or, b1_and, b1_or0, b1_or1, b1_0or, b1_t, b1_f, iN_lt, iN_inj, reduceIte, if_true, if_false, Nat.zero_add, Nat.add_zero, Bool.false_eq_true, Bool.true_eq_false, Nat.lt_irrefl, iN_az, not_true_eq_false, not_false_eq_true, Nat.reduceEqDiff, Nat.reduceLT, Nat.reduceAdd, Nat.reduceMul, Nat.reduceSub]
set_option maxRecDepth 100000 in
theorem t_all (O : Ok σ) (hL4 : (σ 1 6) ≤ 4) (hT3 : (σ 1 4) ≤ 3) (hTA : TA σ n W B) : ∀ k, k ≤ n → ∀ M g la fa E y8 y9 y10, IC σ M0 M → TQ σ M W n B k g la fa → SZ E k → g ≤ k → ∃ N E2, IC σ M0 N ∧ SZ E2 n ∧ ev xs (d + 40) 295 1 ([.ref 0, .ref 63, .int (nI 1), .int (nI g), .int (nI la), .int (nI fa), .ref p6, .int (nI k), y8, y9, y10], [], HE σ M ρ n B w W E) = some (.inl (some (.int (nI (1)))), HE σ N ρ n B w W E2) := by
  have hn := TA_n hTA
  refine lp n ?_ ?_
  · intro M g la fa E y8 y9 y10 hI hQ2 hE hg
    have st : ev xs (d + 40) 295 1 ([.ref 0, .ref 63, .int (nI 1), .int (nI g), .int (nI la), .int (nI fa), .ref p6, .int (nI n), y8, y9, y10], [], HE σ M ρ n B w W E) = ev xs (d + 40) 295 56 ([.ref 0, .ref 63, .int (nI 1), .int (nI g), .int (nI la), .int (nI fa), .ref p6, .int (nI n), y8, y9, y10], [], HE σ M ρ n B w W E) := by
      rw [eb_295_1]
      clear hTA hI hQ2
      simp (disch := first | assumption | omega | exact st8_a (Nat.le_of_ble_eq_true rfl)) only [kl_a, kl_d, kl_f, kl_i, kl_l, kl_n, kl_r, xr_1, xr_10, xr_11, xr_12, xr_13, xr_14, xr_15, xr_185, xr_186, xr_187, xr_188, xr_189, xr_2, xr_254, xr_255, xr_256, xr_257, xr_27, xr_3, xr_30, xr_31, xr_32, xr_33, xr_34, xr_35, xr_36, xr_37, xr_4, xr_43, xr_5, xr_61, xr_62, xr_64, xr_77, xr_91, xr_92, xr_93, xr_94, xr_95, xr_96, xr_98, af_0, af_1, xt_goto, xt_ib, xt_ic, xt_ic_ge, xt_ic_gt, xt_ic_le, xt_ic_ne, xt_if_eq, xt_if_lt, xt_if_ne, xt_ir, xt_nop, lA_74, lF_17, lF_18, lF_19, lF_8, lA_64, lA_65, lA_66, lA_67, lA_68, lA_69, lA_70, lA_71, lA_72, lA_73, lA_75, lA_62, xq_129_11_virtualc, xq_130_11_virtualc, xq_131_11_virtualc, xq_132_11_virtualc, xq_135_11_virtualc, xq_136_11_virtualc, xq_148_11_virtualc, xq_149_11_virtualc, xq_150_11_virtualc, xq_154_11_virtualc, xq_290_12_virtualm, xq_291_12_virtualm, xq_294_200_static, iN_add, iN_mul, iN_sub, iN_and, iN_or, iN_clr, iN_shl, iN_shr, tb_r1, b1_z, b1_or, b1_and, b1_or0, b1_or1, b1_0or, b1_t, b1_f, iN_lt, iN_inj, reduceIte, if_true, if_false, Nat.zero_add, Nat.add_zero, Bool.false_eq_true, Bool.true_eq_false, Nat.lt_irrefl, iN_az, not_true_eq_false, not_false_eq_true, Nat.reduceEqDiff, Nat.reduceLT, Nat.reduceAdd, Nat.reduceMul, Nat.reduceSub]
    rw [st]
    rcases hQ2 with ⟨h1, h2, -, -⟩ | ⟨h1, -, ⟨l1, l2, l3, l4⟩, ⟨f1, f2, f3, f4⟩, h5⟩
    · obtain ⟨N, i1, e⟩ := t_57 (xs := xs) (d := d) (ρ := ρ) (w := w) (E := E) (x4 := nI la) (x5 := nI fa) (p6 := p6) (y7 := .int (nI n)) (y8 := y8) (y9 := y9) (y10 := y10) O hTA h2 hI
      rw [h1]
      exact ⟨N, E, i1, hE, e⟩
    · obtain ⟨N, i1, e1⟩ := t_67 (xs := xs) (d := d) (ρ := ρ) (w := w) (E := E) (x4 := nI la) (x5 := nI fa) (p6 := p6) (y7 := .int (nI n)) (y8 := y8) (y9 := y9) (y10 := y10) O hTA hI hg h5
      obtain ⟨N2, y, i2, e2⟩ := t_73 (xs := xs) (d := d) (ρ := ρ) (w := w) (E := E) (x3 := nI g) (x5 := nI fa) (p6 := p6) (y7 := .int (nI n)) (y8 := y8) (y9 := y9) (y10 := y10) O hTA i1 l1 l2 l3 l4
      obtain ⟨N3, i3, e3⟩ := t_85 (xs := xs) (d := d) (ρ := ρ) (w := w) (E := E) (x3 := nI g) (x4 := nI la) (p6 := p6) (y7 := y) (y8 := y8) (y9 := y9) (y10 := y10) O hL4 hT3 hTA i2 f1 f2 f3 f4
      refine ⟨N3, E, i3, hE, ?_⟩
      rw [← e3, ← e2, ← e1]
      have hg0 : ¬ g = 0 := by omega
      clear hTA hI hE i1 i2 i3 e1 e2 e3 l3 l4 f3 f4 h5 st
      simp (disch := first | assumption | omega | exact st8_a (Nat.le_of_ble_eq_true rfl)) only [hg0, eb_295_56, kl_a, kl_d, kl_f, kl_i, kl_l, kl_n, kl_r, xr_1, xr_10, xr_11, xr_12, xr_13, xr_14, xr_15, xr_185, xr_186, xr_187, xr_188, xr_189, xr_2, xr_254, xr_255, xr_256, xr_257, xr_27, xr_3, xr_30, xr_31, xr_32, xr_33, xr_34, xr_35, xr_36, xr_37, xr_4, xr_43, xr_5, xr_61, xr_62, xr_64, xr_77, xr_91, xr_92, xr_93, xr_94, xr_95, xr_96, xr_98, af_0, af_1, xt_goto, xt_ib, xt_ic, xt_ic_ge, xt_ic_gt, xt_ic_le, xt_ic_ne, xt_if_eq, xt_if_lt, xt_if_ne, xt_ir, xt_nop, lA_74, lF_17, lF_18, lF_19, lF_8, lA_64, lA_65, lA_66, lA_67, lA_68, lA_69, lA_70, lA_71, lA_72, lA_73, lA_75, lA_62, xq_129_11_virtualc, xq_130_11_virtualc, xq_131_11_virtualc, xq_132_11_virtualc, xq_135_11_virtualc, xq_136_11_virtualc, xq_148_11_virtualc, xq_149_11_virtualc, xq_150_11_virtualc, xq_154_11_virtualc, xq_290_12_virtualm, xq_291_12_virtualm, xq_294_200_static, iN_add, iN_mul, iN_sub, iN_and, iN_or, iN_clr, iN_shl, iN_shr, tb_r1, b1_z, b1_or, b1_and, b1_or0, b1_or1, b1_0or, b1_t, b1_f, iN_lt, iN_inj, reduceIte, if_true, if_false, Nat.zero_add, Nat.add_zero, Bool.false_eq_true, Bool.true_eq_false, Nat.lt_irrefl, iN_az, not_true_eq_false, not_false_eq_true, Nat.reduceEqDiff, Nat.reduceLT, Nat.reduceAdd, Nat.reduceMul, Nat.reduceSub]
  · intro k hk ih M g la fa E y8 y9 y10 hI hQ2 hE hg
    obtain ⟨N, g2, la2, fa2, E2, x8, x9, x10, i1, q1, hE2, hg2, e1⟩ := t_1 (xs := xs) (d := d) (M0 := M0) (ρ := ρ) (w := w) (p6 := p6) (y8 := y8) (y9 := y9) (y10 := y10) O hL4 hT3 hTA hk hI hQ2 hE hg
    obtain ⟨N2, E3, i2, hE3, e2⟩ := ih N g2 la2 fa2 E2 x8 x9 x10 i1 q1 hE2 hg2
    exact ⟨N2, E3, i2, hE3, e1.trans e2⟩
set_option maxRecDepth 100000 in
theorem p_295 (O : Ok σ) (hL4 : (σ 1 6) ≤ 4) (hT3 : (σ 1 4) ≤ 3) (hTA : TA σ n W B) (hI : IC σ M0 M) : ∃ N E, IC σ M0 N ∧ SZ E n ∧ ev xs (d + 40) 295 0 ([.ref 0, .ref 63, .retAddr 9, .retAddr 9, .retAddr 9, .retAddr 9, .retAddr 9, .retAddr 9, .retAddr 9, .retAddr 9, .retAddr 9], [], HE σ M ρ n B w W []) = some (.inl (some (.int (nI (1)))), HE σ N ρ n B w W E) := by
  have hE : SZ [oI (ar (σ 1 6) fun _ => 0)] 0 := by
    refine ⟨Nat.le_refl _, ?_⟩
    rw [hsz_c, hsz_I]
    show (σ 1 6) + 0 ≤ _
    omega
  obtain ⟨N, E, i1, h1, e⟩ := t_all (xs := xs) (d := d) (M0 := M0) (ρ := ρ) (w := w) (p6 := 76 + (n + 1)) O hL4 hT3 hTA 0 (Nat.zero_le _) M 0 4294967295 4294967295 [oI (ar (σ 1 6) fun _ => 0)] (.retAddr 9) (.retAddr 9) (.retAddr 9) hI (.inl ⟨rfl, fun i hi => absurd hi (Nat.not_lt_zero _), rfl, rfl⟩) hE (Nat.le_refl _)
  refine ⟨N, E, i1, h1, ?_⟩
  have e0 : (oI (ar (σ 1 6) w) :: RWS σ n W) ++ [] = oI (ar (σ 1 6) w) :: RWS σ n W := List.append_nil _
  have e2 : (hc σ M (LR ρ σ n (TSS n) B (oI (ar (σ 1 6) w) :: RWS σ n W))).length = 76 + (n + 1) := by
    rw [LR_len2]
    omega
  have h6 : (σ 1 6) ≤ 100000 := by omega
  show ev xs (d + 40) 295 0 (_, _, hc σ M (LR ρ σ n (TSS n) B ((oI (ar (σ 1 6) w) :: RWS σ n W) ++ []))) = _
  rw [e0]
  clear hTA hI i1 h1 hE
  simp (disch := first | assumption | omega | exact st8_a (Nat.le_of_ble_eq_true rfl)) only [xr_49, e2, LR_app, eb_295_0, kl_a, kl_d, kl_f, kl_i, kl_l, kl_n, kl_r, xr_1, xr_10, xr_11, xr_12, xr_13, xr_14, xr_15, xr_185, xr_186, xr_187, xr_188, xr_189, xr_2, xr_254, xr_255, xr_256, xr_257, xr_27, xr_3, xr_30, xr_31, xr_32, xr_33, xr_34, xr_35, xr_36, xr_37, xr_4, xr_43, xr_5, xr_61, xr_62, xr_64, xr_77, xr_91, xr_92, xr_93, xr_94, xr_95, xr_96, xr_98, af_0, af_1, xt_goto, xt_ib, xt_ic, xt_ic_ge, xt_ic_gt, xt_ic_le, xt_ic_ne, xt_if_eq, xt_if_lt, xt_if_ne, xt_ir, xt_nop, lA_74, lF_17, lF_18, lF_19, lF_8, lA_64, lA_65, lA_66, lA_67, lA_68, lA_69, lA_70, lA_71, lA_72, lA_73, lA_75, lA_62, xq_129_11_virtualc, xq_130_11_virtualc, xq_131_11_virtualc, xq_132_11_virtualc, xq_135_11_virtualc, xq_136_11_virtualc, xq_148_11_virtualc, xq_149_11_virtualc, xq_150_11_virtualc, xq_154_11_virtualc, xq_290_12_virtualm, xq_291_12_virtualm, xq_294_200_static, iN_add, iN_mul, iN_sub, iN_and, iN_or, iN_clr, iN_shl, iN_shr, tb_r1, b1_z, b1_or, b1_and, b1_or0, b1_or1, b1_0or, b1_t, b1_f, iN_lt, iN_inj, reduceIte, if_true, if_false, Nat.zero_add, Nat.add_zero, Bool.false_eq_true, Bool.true_eq_false, Nat.lt_irrefl, iN_az, not_true_eq_false, not_false_eq_true, Nat.reduceEqDiff, Nat.reduceLT, Nat.reduceAdd, Nat.reduceMul, Nat.reduceSub]
  exact e
end Pf
