/-! THE LAW: isTable; the tables -/
abbrev HE (σ M : Nat → Nat → Nat) (ρ : Int32) (n : Nat) (B w : Nat → Nat) (W : Nat → Nat → Nat) (E : ab_H) : ab_H := hc σ M (LR ρ σ n (TSS n) B ((oI (ar (σ 1 6) w) :: RWS σ n W) ++ E))
/-- the present timetable: none, or one of slots and rooms that exist -/
def PT (σ M : Nat → Nat → Nat) : Prop := M 12 0 = 0 ∨ (M 12 0 = 1 ∧ M 12 1 = (σ 1 6) ∧ ∀ l, l < (σ 1 6) → M 13 l < (σ 1 2) ∧ M 14 l < (σ 1 5))
/-- the class's inside, as M0 but for the present timetable -/
def IC (σ M0 M : Nat → Nat → Nat) : Prop := CIv σ M ∧ PB0 M0 M ∧ PT σ M
/-- the listed tables -/
def TA (σ : Nat → Nat → Nat) (n : Nat) (W : Nat → Nat → Nat) (B : Nat → Nat) : Prop := LI σ (fun _ _ => True) n W B
abbrev GK (σ : Nat → Nat → Nat) (W : Nat → Nat → Nat) (k : Nat) : Nat := wt σ (tsl (W k)) (trm (W k))
abbrev SK (σ : Nat → Nat → Nat) (W : Nat → Nat → Nat) (k : Nat) : Nat := sho (σ 1 4) (fun t => shr σ (tsl (W k)) t) 7
section Pe
variable {xs : List Int32} {d : Nat} {σ M M0 M1 N W : Nat → Nat → Nat} {ρ : Int32} {n : Nat} {B w : Nat → Nat} {E : ab_H} {l o u v q t i x p k c a b e j g la fa : Nat} {s r s2 r2 : Nat → Nat} {x3 x4 : Int32} {p6 : Nat} {y2 y5 y7 y8 y9 y10 : Value}
set_option maxRecDepth 100000 in
theorem PB0_t (h : PB0 M N) (h2 : PB0 N M1) : PB0 M M1 := fun b hb => (h2 b hb).trans (h b hb)
set_option maxRecDepth 100000 in
theorem TBr (hk : k < n) : (HE σ M ρ n B w W E)[77 + k]? = some (oI (ar (σ 1 6) (W k))) := by
  have h1 : (hc σ M (LR ρ σ n (TSS n) B (oI (ar (σ 1 6) w) :: RWS σ n W)))[77 + k]? = some (oI (ar (σ 1 6) (W k))) := by
    rw [LR_r]
    exact RWS_get hk
  exact LR_ga h1
set_option maxRecDepth 100000 in
theorem TA_n (hTA : TA σ n W B) : n ≤ 2000 := hTA.2.1
set_option maxRecDepth 100000 in
theorem TA_w (hTA : TA σ n W B) (hk : k < n) : WB σ (σ 1 6) (W k) := fun l hl => (hTA.1.1 k hk).1.1 l hl
set_option maxRecDepth 100000 in
theorem TA_st (hTA : TA σ n W B) (hk : k < n) : ∀ l, l < (σ 1 6) → sty σ l (W k l / 10) = true := fun l hl => ((flt_0 _ _).mp (hTA.1.1 k hk).1.2.1).1 l hl |>.1
set_option maxRecDepth 100000 in
theorem TA_g (hTA : TA σ n W B) (hk : k < n) (hB : B k = 0) : Gd σ (alr σ) (tsl (W k)) (trm (W k)) := by
  refine ⟨(hTA.1.1 k hk).1.1, (hTA.1.1 k hk).1.2.1, brk_and ?_⟩
  rw [← hTA.2.2.1 k hk, hB, Nat.zero_and]
set_option maxRecDepth 100000 in
theorem Gd_brk (O : Ok σ) (h : Gd σ (alr σ) s r) : brk σ s r = 0 := z_tb.mpr fun q => by
  rw [← Bool.not_eq_true, brk_tb]
  rintro ⟨hq, h2⟩
  have h3 := h.2.2 q hq (by unfold alr; rw [ones_tb]; exact decide_eq_true hq)
  rw [h2] at h3
  cases h3
set_option maxRecDepth 100000 in
theorem TA_i (O : Ok σ) (hTA : TA σ n W B) (h : Gd σ (alr σ) s r) : ∃ k, k < n ∧ B k = 0 ∧ AG (σ 1 6) s r (tsl (W k)) (trm (W k)) := by
  obtain ⟨k, hk, ha⟩ := hTA.1.2.2 s r ⟨h.1, h.2.1, fun q _ hq => by simp at hq⟩ trivial
  refine ⟨k, hk, ?_, ha⟩
  rw [hTA.2.2.1 k hk, ← brk_cg O ha]
  exact Gd_brk O h
set_option maxRecDepth 100000 in
theorem TA_lx (hTA : TA σ n W B) (h : j < k) (hk : k < n) : LX (σ 1 6) (tsl (W j)) (trm (W j)) (tsl (W k)) (trm (W k)) := hTA.1.2.1 j k h hk
-- the least good table with a quality is the first one of the list
set_option maxRecDepth 100000 in
theorem TA_m (O : Ok σ) (hTA : TA σ n W B) {P : (Nat → Nat) → (Nat → Nat) → Prop} (hP : ∀ s r s2 r2, AG (σ 1 6) s r s2 r2 → P s r → P s2 r2) (hg : Gd σ (alr σ) s r) (hp : P s r) (hm : ∀ s2 r2, Gd σ (alr σ) s2 r2 → P s2 r2 → ¬ LX (σ 1 6) s2 r2 s r) (hk : k < n) (bk : B k = 0) (pk : P (tsl (W k)) (trm (W k))) (hf : ∀ i, i < k → B i = 0 → ¬ P (tsl (W i)) (trm (W i))) : AG (σ 1 6) s r (tsl (W k)) (trm (W k)) := by
  obtain ⟨j, hj, bj, ha⟩ := TA_i O hTA hg
  have pj := hP _ _ _ _ ha hp
  by_cases h1 : j < k
  · exact absurd pj (hf j h1 bj)
  · by_cases h2 : k < j
    · exact absurd (LX_c2 (AG_s ha) (TA_lx hTA h2 hj)) (hm _ _ (TA_g hTA hk bk) pk)
    · obtain rfl : j = k := by omega
      exact ha
set_option maxRecDepth 100000 in
theorem p_294 (O : Ok σ) (h12 : M 12 0 = 1) (hb : ∀ l, l < (σ 1 6) → M 13 l < (σ 1 2) ∧ M 14 l < (σ 1 5)) (hn : n ≤ 2000) (hk : k < n) (hw : WB σ (σ 1 6) (W k)) : ev xs (d + 2) 294 0 ([.ref 0, .ref 63, .int (nI k), .retAddr 9, .retAddr 9], [], HE σ M ρ n B w W E) = some (.inl (some (.int (nI (b1 (al (σ 1 6) fun l => decide (10 * M 13 l + M 14 l = W k l)))))), HE σ M ρ n B w W E) := by
  obtain ⟨hD1, hD2, hH1, hH2, hS, hC, hT, hR, hL, hQ⟩ := Ok_b O
  have hk2 : k < 2000 := by omega
  have key : ∀ j, j ≤ (σ 1 6) → ev xs (d + 2) 294 1 ([.ref 0, .ref 63, .int (nI k), .int (nI (b1 (al j fun l => decide (10 * M 13 l + M 14 l = W k l)))), .int (nI j)], [], HE σ M ρ n B w W E) = some (.inl (some (.int (nI (b1 (al (σ 1 6) fun l => decide (10 * M 13 l + M 14 l = W k l)))))), HE σ M ρ n B w W E) := by
    refine lp (σ 1 6) ?_ ?_
    · rw [eb_294_1]
      clear hb hw
      simp (disch := first | assumption | omega | exact st8_a (Nat.le_of_ble_eq_true rfl)) only [eb_294_8, kl_a, kl_d, kl_f, kl_i, kl_l, kl_n, kl_r, xr_1, xr_10, xr_11, xr_12, xr_13, xr_14, xr_15, xr_2, xr_27, xr_3, xr_31, xr_32, xr_33, xr_34, xr_37, xr_4, xr_40, xr_5, af_0, af_1, xt_goto, xt_ib, xt_ic, xt_ic_ge, xt_ic_ne, xt_if_eq, xt_ir, xt_nop, lA_74, lF_17, lF_8, lA_64, lA_65, lA_66, lA_67, lA_68, lA_69, lA_70, lA_71, lA_72, lA_73, lA_75, lA_62, xq_134_11_virtualc, iN_add, iN_mul, iN_sub, iN_and, iN_or, iN_clr, iN_shl, iN_shr, tb_r1, b1_z, b1_or, b1_and, b1_or0, b1_or1, b1_0or, b1_t, b1_f, iN_lt, iN_inj, reduceIte, if_true, if_false, Nat.zero_add, Nat.add_zero, Bool.false_eq_true, Bool.true_eq_false, Nat.lt_irrefl, iN_az, not_true_eq_false, not_false_eq_true, Nat.reduceEqDiff, Nat.reduceLT, Nat.reduceAdd, Nat.reduceMul, Nat.reduceSub]
    · intro j hj ih
      have e1 := s_134 (xs := xs) (d := d) (σ := σ) (M := M) (R := LR ρ σ n (TSS n) B ((oI (ar (σ 1 6) w) :: RWS σ n W) ++ E)) O hj h12
      have v1 := WB_v O hw hj
      obtain ⟨b1', b2'⟩ := hb j hj
      have v2 : 10 * M 13 j + M 14 j < 1000 := by omega
      rw [eb_294_1]
      rw [al] at ih
      clear hb hw
      cases h3 : al j fun l => decide (10 * M 13 l + M 14 l = W k l)
      · rw [h3, Bool.false_and] at ih
        simp (disch := first | assumption | omega | exact st8_a (Nat.le_of_ble_eq_true rfl)) only [hj, h3, eb_294_2, eb_294_6, eb_294_7, kl_a, kl_d, kl_f, kl_i, kl_l, kl_n, kl_r, xr_1, xr_10, xr_11, xr_12, xr_13, xr_14, xr_15, xr_2, xr_27, xr_3, xr_31, xr_32, xr_33, xr_34, xr_37, xr_4, xr_40, xr_5, af_0, af_1, xt_goto, xt_ib, xt_ic, xt_ic_ge, xt_ic_ne, xt_if_eq, xt_ir, xt_nop, lA_74, lF_17, lF_8, lA_64, lA_65, lA_66, lA_67, lA_68, lA_69, lA_70, lA_71, lA_72, lA_73, lA_75, lA_62, xq_134_11_virtualc, iN_add, iN_mul, iN_sub, iN_and, iN_or, iN_clr, iN_shl, iN_shr, tb_r1, b1_z, b1_or, b1_and, b1_or0, b1_or1, b1_0or, b1_t, b1_f, iN_lt, iN_inj, reduceIte, if_true, if_false, Nat.zero_add, Nat.add_zero, Bool.false_eq_true, Bool.true_eq_false, Nat.lt_irrefl, iN_az, not_true_eq_false, not_false_eq_true, Nat.reduceEqDiff, Nat.reduceLT, Nat.reduceAdd, Nat.reduceMul, Nat.reduceSub]
        exact ih
      · rw [h3, Bool.true_and] at ih
        by_cases h4 : 10 * M 13 j + M 14 j = W k j
        · rw [decide_eq_true h4] at ih
          simp (disch := first | assumption | omega | exact st8_a (Nat.le_of_ble_eq_true rfl)) only [hj, h3, e1, lA_74 (TSS_get hk hk2), q_ia (TBr hk), eq_true h4, eb_294_2, eb_294_3, eb_294_4, eb_294_5, eb_294_7, kl_a, kl_d, kl_f, kl_i, kl_l, kl_n, kl_r, xr_1, xr_10, xr_11, xr_12, xr_13, xr_14, xr_15, xr_2, xr_27, xr_3, xr_31, xr_32, xr_33, xr_34, xr_37, xr_4, xr_40, xr_5, af_0, af_1, xt_goto, xt_ib, xt_ic, xt_ic_ge, xt_ic_ne, xt_if_eq, xt_ir, xt_nop, lA_74, lF_17, lF_8, lA_64, lA_65, lA_66, lA_67, lA_68, lA_69, lA_70, lA_71, lA_72, lA_73, lA_75, lA_62, xq_134_11_virtualc, iN_add, iN_mul, iN_sub, iN_and, iN_or, iN_clr, iN_shl, iN_shr, tb_r1, b1_z, b1_or, b1_and, b1_or0, b1_or1, b1_0or, b1_t, b1_f, iN_lt, iN_inj, reduceIte, if_true, if_false, Nat.zero_add, Nat.add_zero, Bool.false_eq_true, Bool.true_eq_false, Nat.lt_irrefl, iN_az, not_true_eq_false, not_false_eq_true, Nat.reduceEqDiff, Nat.reduceLT, Nat.reduceAdd, Nat.reduceMul, Nat.reduceSub]
          exact ih
        · rw [decide_eq_false h4] at ih
          simp (disch := first | assumption | omega | exact st8_a (Nat.le_of_ble_eq_true rfl)) only [hj, h3, e1, lA_74 (TSS_get hk hk2), q_ia (TBr hk), h4, eb_294_2, eb_294_3, eb_294_4, eb_294_6, eb_294_7, kl_a, kl_d, kl_f, kl_i, kl_l, kl_n, kl_r, xr_1, xr_10, xr_11, xr_12, xr_13, xr_14, xr_15, xr_2, xr_27, xr_3, xr_31, xr_32, xr_33, xr_34, xr_37, xr_4, xr_40, xr_5, af_0, af_1, xt_goto, xt_ib, xt_ic, xt_ic_ge, xt_ic_ne, xt_if_eq, xt_ir, xt_nop, lA_74, lF_17, lF_8, lA_64, lA_65, lA_66, lA_67, lA_68, lA_69, lA_70, lA_71, lA_72, lA_73, lA_75, lA_62, xq_134_11_virtualc, iN_add, iN_mul, iN_sub, iN_and, iN_or, iN_clr, iN_shl, iN_shr, tb_r1, b1_z, b1_or, b1_and, b1_or0, b1_or1, b1_0or, b1_t, b1_f, iN_lt, iN_inj, reduceIte, if_true, if_false, Nat.zero_add, Nat.add_zero, Bool.false_eq_true, Bool.true_eq_false, Nat.lt_irrefl, iN_az, not_true_eq_false, not_false_eq_true, Nat.reduceEqDiff, Nat.reduceLT, Nat.reduceAdd, Nat.reduceMul, Nat.reduceSub]
          exact ih
  have e := key 0 (Nat.zero_le _)
  clear key hb hw
  simp (disch := first | assumption | omega | exact st8_a (Nat.le_of_ble_eq_true rfl)) only [eb_294_0, kl_a, kl_d, kl_f, kl_i, kl_l, kl_n, kl_r, xr_1, xr_10, xr_11, xr_12, xr_13, xr_14, xr_15, xr_2, xr_27, xr_3, xr_31, xr_32, xr_33, xr_34, xr_37, xr_4, xr_40, xr_5, af_0, af_1, xt_goto, xt_ib, xt_ic, xt_ic_ge, xt_ic_ne, xt_if_eq, xt_ir, xt_nop, lA_74, lF_17, lF_8, lA_64, lA_65, lA_66, lA_67, lA_68, lA_69, lA_70, lA_71, lA_72, lA_73, lA_75, lA_62, xq_134_11_virtualc, iN_add, iN_mul, iN_sub, iN_and, iN_or, iN_clr, iN_shl, iN_shr, tb_r1, b1_z, b1_or, b1_and, b1_or0, b1_or1, b1_0or, b1_t, b1_f, iN_lt, iN_inj, reduceIte, if_true, if_false, Nat.zero_add, Nat.add_zero, Bool.false_eq_true, Bool.true_eq_false, Nat.lt_irrefl, iN_az, not_true_eq_false, not_false_eq_true, Nat.reduceEqDiff, Nat.reduceLT, Nat.reduceAdd, Nat.reduceMul, Nat.reduceSub]
  exact e
set_option maxRecDepth 100000 in
theorem isT (hA : AG (σ 1 6) (M 13) (M 14) (tsl (W k)) (trm (W k))) : (al (σ 1 6) fun l => decide (10 * M 13 l + M 14 l = W k l)) = true := al_t.mpr fun l hl => decide_eq_true (by
  have h1 : M 13 l = W k l / 10 := (hA l hl).1
  have h2 : M 14 l = W k l % 10 := (hA l hl).2
  omega)
set_option maxRecDepth 100000 in
theorem p_291e (O : Ok σ) (hn : n ≤ 2000) (hk : k < n) (hw : WB σ (σ 1 6) (W k)) (hst : ∀ l, l < (σ 1 6) → sty σ l (W k l / 10) = true) : ∃ f, ev xs (d + 3) 291 0 ([.ref 63, .ref (77 + k), .retAddr 9, .retAddr 9, .retAddr 9, .retAddr 9], [], HE σ M ρ n B w W E) = some (.inl (some (.int (nI (SK σ W k)))), HE σ M ρ n B w W (E ++ [oI (ar (σ 1 4) f)])) := by
  obtain ⟨hD1, hD2, hH1, hH2, hS, hC, hT, hR, hL, hQ⟩ := Ok_b O
  obtain ⟨f, e⟩ := p_291 (xs := xs) (d := d) (σ := σ) (M := M) (ρ := ρ) (N := n) (Ts := TSS n) (B := B) (Q := (oI (ar (σ 1 6) w) :: RWS σ n W) ++ E) (p := 77 + k) (n := (σ 1 6)) (w := W k) O (TBr hk) hL (Nat.le_refl _) hw hst
  refine ⟨f, ?_⟩
  rw [List.append_assoc] at e
  exact e
set_option maxRecDepth 100000 in
theorem p_290e (O : Ok σ) (hk : k < n) (hw : WB σ (σ 1 6) (W k)) : ev xs (d + 3) 290 0 ([.ref 63, .ref (77 + k), .retAddr 9, .retAddr 9, .retAddr 9], [], HE σ M ρ n B w W E) = some (.inl (some (.int (nI (GK σ W k)))), HE σ M ρ n B w W E) := by
  obtain ⟨hD1, hD2, hH1, hH2, hS, hC, hT, hR, hL, hQ⟩ := Ok_b O
  exact p_290 (xs := xs) (d := d) (σ := σ) (M := M) (ρ := ρ) (N := n) (Ts := TSS n) (B := B) (Q := (oI (ar (σ 1 6) w) :: RWS σ n W) ++ E) (p := 77 + k) (n := (σ 1 6)) (w := W k) O (TBr hk) hL (Nat.le_refl _) hw
set_option maxRecDepth 100000 in
theorem ng_1 : (nI 4294967295 < nI 0) = True := eq_true (by decide)
-- the lightest so far
set_option maxRecDepth 100000 in
theorem t_4 (O : Ok σ) (hTA : TA σ n W B) (hk : k < n) (hla : la = 4294967295 ∨ la < n) : ∃ la2, la2 = (if la = 4294967295 ∨ GK σ W k < GK σ W la then k else la) ∧ ev xs (d + 40) 295 4 ([.ref 0, .ref 63, y2, .int x3, .int (nI la), y5, .ref p6, .int (nI k), y8, y9, y10], [], HE σ M ρ n B w W E) = ev xs (d + 40) 295 10 ([.ref 0, .ref 63, y2, .int x3, .int (nI la), y5, .ref p6, .int (nI k), y8, y9, y10], [.int (nI la2)], HE σ M ρ n B w W E) := by
  have hn := TA_n hTA
  have e1 := p_290e (xs := xs) (d := d + 36) (M := M) (ρ := ρ) (B := B) (w := w) (E := E) O hk (TA_w hTA hk)
  rcases hla with hla | hla
  · refine ⟨k, by rw [if_pos (.inl hla)], ?_⟩
    rw [hla]
    clear hTA
    simp (disch := first | assumption | omega | exact st8_a (Nat.le_of_ble_eq_true rfl)) only [ng_1, eb_295_4, eb_295_8, kl_a, kl_d, kl_f, kl_i, kl_l, kl_n, kl_r, xr_1, xr_10, xr_11, xr_12, xr_13, xr_14, xr_15, xr_185, xr_186, xr_187, xr_188, xr_189, xr_2, xr_254, xr_255, xr_256, xr_257, xr_27, xr_3, xr_30, xr_31, xr_32, xr_33, xr_34, xr_35, xr_36, xr_37, xr_4, xr_43, xr_5, xr_61, xr_62, xr_64, xr_77, xr_91, xr_92, xr_93, xr_94, xr_95, xr_96, xr_98, af_0, af_1, xt_goto, xt_ib, xt_ic, xt_ic_ge, xt_ic_gt, xt_ic_le, xt_ic_ne, xt_if_eq, xt_if_lt, xt_if_ne, xt_ir, xt_nop, lA_74, lF_17, lF_18, lF_19, lF_8, lA_64, lA_65, lA_66, lA_67, lA_68, lA_69, lA_70, lA_71, lA_72, lA_73, lA_75, lA_62, xq_129_11_virtualc, xq_130_11_virtualc, xq_131_11_virtualc, xq_132_11_virtualc, xq_135_11_virtualc, xq_136_11_virtualc, xq_148_11_virtualc, xq_149_11_virtualc, xq_150_11_virtualc, xq_154_11_virtualc, xq_290_12_virtualm, xq_291_12_virtualm, xq_294_200_static, iN_add, iN_mul, iN_sub, iN_and, iN_or, iN_clr, iN_shl, iN_shr, tb_r1, b1_z, b1_or, b1_and, b1_or0, b1_or1, b1_0or, b1_t, b1_f, iN_lt, iN_inj, reduceIte, if_true, if_false, Nat.zero_add, Nat.add_zero, Bool.false_eq_true, Bool.true_eq_false, Nat.lt_irrefl, iN_az, not_true_eq_false, not_false_eq_true, Nat.reduceEqDiff, Nat.reduceLT, Nat.reduceAdd, Nat.reduceMul, Nat.reduceSub]
  · have e2 := p_290e (xs := xs) (d := d + 36) (M := M) (ρ := ρ) (B := B) (w := w) (E := E) O hla (TA_w hTA hla)
    have w1 : GK σ W k < 1000 := wt_lt O fun l hl => (TA_w hTA hk l hl).1
    have w2 : GK σ W la < 1000 := wt_lt O fun l hl => (TA_w hTA hla l hl).1
    have hk2 : k < 2000 := by omega
    have hla2 : la < 2000 := by omega
    clear hTA
    by_cases c : GK σ W k < GK σ W la
    · refine ⟨k, by rw [if_pos (.inr c)], ?_⟩
      simp (disch := first | assumption | omega | exact st8_a (Nat.le_of_ble_eq_true rfl)) only [Nat.not_lt_zero, lA_74 (TSS_get hk hk2), lA_74 (TSS_get hla hla2), e1, e2, c, eb_295_4, eb_295_5, eb_295_6, eb_295_7, eb_295_8, kl_a, kl_d, kl_f, kl_i, kl_l, kl_n, kl_r, xr_1, xr_10, xr_11, xr_12, xr_13, xr_14, xr_15, xr_185, xr_186, xr_187, xr_188, xr_189, xr_2, xr_254, xr_255, xr_256, xr_257, xr_27, xr_3, xr_30, xr_31, xr_32, xr_33, xr_34, xr_35, xr_36, xr_37, xr_4, xr_43, xr_5, xr_61, xr_62, xr_64, xr_77, xr_91, xr_92, xr_93, xr_94, xr_95, xr_96, xr_98, af_0, af_1, xt_goto, xt_ib, xt_ic, xt_ic_ge, xt_ic_gt, xt_ic_le, xt_ic_ne, xt_if_eq, xt_if_lt, xt_if_ne, xt_ir, xt_nop, lA_74, lF_17, lF_18, lF_19, lF_8, lA_64, lA_65, lA_66, lA_67, lA_68, lA_69, lA_70, lA_71, lA_72, lA_73, lA_75, lA_62, xq_129_11_virtualc, xq_130_11_virtualc, xq_131_11_virtualc, xq_132_11_virtualc, xq_135_11_virtualc, xq_136_11_virtualc, xq_148_11_virtualc, xq_149_11_virtualc, xq_150_11_virtualc, xq_154_11_virtualc, xq_290_12_virtualm, xq_291_12_virtualm, xq_294_200_static, iN_add, iN_mul, iN_sub, iN_and, iN_or, iN_clr, iN_shl, iN_shr, tb_r1, b1_z, b1_or, b1_and, b1_or0, b1_or1, b1_0or, b1_t, b1_f, iN_lt, iN_inj, reduceIte, if_true, if_false, Nat.zero_add, Nat.add_zero, Bool.false_eq_true, Bool.true_eq_false, Nat.lt_irrefl, iN_az, not_true_eq_false, not_false_eq_true, Nat.reduceEqDiff, Nat.reduceLT, Nat.reduceAdd, Nat.reduceMul, Nat.reduceSub]
    · refine ⟨la, by rw [if_neg (by omega)], ?_⟩
      simp (disch := first | assumption | omega | exact st8_a (Nat.le_of_ble_eq_true rfl)) only [Nat.not_lt_zero, lA_74 (TSS_get hk hk2), lA_74 (TSS_get hla hla2), e1, e2, c, eb_295_4, eb_295_5, eb_295_6, eb_295_7, eb_295_9, kl_a, kl_d, kl_f, kl_i, kl_l, kl_n, kl_r, xr_1, xr_10, xr_11, xr_12, xr_13, xr_14, xr_15, xr_185, xr_186, xr_187, xr_188, xr_189, xr_2, xr_254, xr_255, xr_256, xr_257, xr_27, xr_3, xr_30, xr_31, xr_32, xr_33, xr_34, xr_35, xr_36, xr_37, xr_4, xr_43, xr_5, xr_61, xr_62, xr_64, xr_77, xr_91, xr_92, xr_93, xr_94, xr_95, xr_96, xr_98, af_0, af_1, xt_goto, xt_ib, xt_ic, xt_ic_ge, xt_ic_gt, xt_ic_le, xt_ic_ne, xt_if_eq, xt_if_lt, xt_if_ne, xt_ir, xt_nop, lA_74, lF_17, lF_18, lF_19, lF_8, lA_64, lA_65, lA_66, lA_67, lA_68, lA_69, lA_70, lA_71, lA_72, lA_73, lA_75, lA_62, xq_129_11_virtualc, xq_130_11_virtualc, xq_131_11_virtualc, xq_132_11_virtualc, xq_135_11_virtualc, xq_136_11_virtualc, xq_148_11_virtualc, xq_149_11_virtualc, xq_150_11_virtualc, xq_154_11_virtualc, xq_290_12_virtualm, xq_291_12_virtualm, xq_294_200_static, iN_add, iN_mul, iN_sub, iN_and, iN_or, iN_clr, iN_shl, iN_shr, tb_r1, b1_z, b1_or, b1_and, b1_or0, b1_or1, b1_0or, b1_t, b1_f, iN_lt, iN_inj, reduceIte, if_true, if_false, Nat.zero_add, Nat.add_zero, Bool.false_eq_true, Bool.true_eq_false, Nat.lt_irrefl, iN_az, not_true_eq_false, not_false_eq_true, Nat.reduceEqDiff, Nat.reduceLT, Nat.reduceAdd, Nat.reduceMul, Nat.reduceSub]
set_option maxRecDepth 100000 in
theorem sho_b (O : Ok σ) (hL4 : (σ 1 6) ≤ 4) (hT3 : (σ 1 4) ≤ 3) (s : Nat → Nat) : sho (σ 1 4) (fun t => shr σ s t) 7 < 1000 := by
  have e1 := tri_of (f := fun t => shr σ s t) hT3
  rw [sho_cg e1]
  have h := fun t => Nat.le_trans (shr_le (σ := σ) s t) hL4
  exact sho_lt _ _ _ _ hT3 (Nat.lt_succ_of_le (h 0)) (Nat.lt_succ_of_le (h 1)) (Nat.lt_succ_of_le (h 2)) 7 (Nat.le_refl _)
/-- what the law's own rows take more, from E on -/
def SZ (E : ab_H) (k : Nat) : Prop := E.length ≤ 1 + 2 * k ∧ ab_hsz E ≤ 6 + 6 * k
set_option maxRecDepth 100000 in
theorem SZ_m (h : SZ E k) (hk : k ≤ j) : SZ E j := ⟨by have := h.1; omega, by have := h.2; omega⟩
set_option maxRecDepth 100000 in
theorem SZ_2 (h : SZ E k) {f f2 : Nat → Nat} {m : Nat} (hm : m ≤ 3) : SZ ((E ++ [oI (ar m f)]) ++ [oI (ar m f2)]) (k + 1) := by
  obtain ⟨h1, h2⟩ := h
  refine ⟨?_, ?_⟩
  · rw [List.length_append, List.length_append]
    show E.length + 1 + 1 ≤ _
    omega
  · rw [ab_hsz_app, ab_hsz_app, hsz_c, hsz_I, hsz_c, hsz_I]
    show _ + (m + 0) + (m + 0) ≤ _
    omega
-- the fairest so far
set_option maxRecDepth 100000 in
theorem t_10 (O : Ok σ) (hL4 : (σ 1 6) ≤ 4) (hT3 : (σ 1 4) ≤ 3) (hTA : TA σ n W B) (hk : k < n) (hfa : fa = 4294967295 ∨ fa < n) (hE : SZ E k) : ∃ fa2 E2, fa2 = (if fa = 4294967295 ∨ SK σ W k < SK σ W fa then k else fa) ∧ SZ E2 (k + 1) ∧ ev xs (d + 40) 295 10 ([.ref 0, .ref 63, y2, .int x3, .int x4, .int (nI fa), .ref p6, .int (nI k), y8, y9, y10], [.int (nI la)], HE σ M ρ n B w W E) = ev xs (d + 40) 295 16 ([.ref 0, .ref 63, y2, .int x3, .int (nI la), .int (nI fa), .ref p6, .int (nI k), y8, y9, y10], [.int (nI fa2)], HE σ M ρ n B w W E2) := by
  have hn := TA_n hTA
  rcases hfa with hfa | hfa
  · refine ⟨k, E, by rw [if_pos (.inl hfa)], SZ_m hE (Nat.le_succ _), ?_⟩
    rw [hfa]
    clear hTA
    simp (disch := first | assumption | omega | exact st8_a (Nat.le_of_ble_eq_true rfl)) only [ng_1, eb_295_10, eb_295_14, kl_a, kl_d, kl_f, kl_i, kl_l, kl_n, kl_r, xr_1, xr_10, xr_11, xr_12, xr_13, xr_14, xr_15, xr_185, xr_186, xr_187, xr_188, xr_189, xr_2, xr_254, xr_255, xr_256, xr_257, xr_27, xr_3, xr_30, xr_31, xr_32, xr_33, xr_34, xr_35, xr_36, xr_37, xr_4, xr_43, xr_5, xr_61, xr_62, xr_64, xr_77, xr_91, xr_92, xr_93, xr_94, xr_95, xr_96, xr_98, af_0, af_1, xt_goto, xt_ib, xt_ic, xt_ic_ge, xt_ic_gt, xt_ic_le, xt_ic_ne, xt_if_eq, xt_if_lt, xt_if_ne, xt_ir, xt_nop, lA_74, lF_17, lF_18, lF_19, lF_8, lA_64, lA_65, lA_66, lA_67, lA_68, lA_69, lA_70, lA_71, lA_72, lA_73, lA_75, lA_62, xq_129_11_virtualc, xq_130_11_virtualc, xq_131_11_virtualc, xq_132_11_virtualc, xq_135_11_virtualc, xq_136_11_virtualc, xq_148_11_virtualc, xq_149_11_virtualc, xq_150_11_virtualc, xq_154_11_virtualc, xq_290_12_virtualm, xq_291_12_virtualm, xq_294_200_static, iN_add, iN_mul, iN_sub, iN_and, iN_or, iN_clr, iN_shl, iN_shr, tb_r1, b1_z, b1_or, b1_and, b1_or0, b1_or1, b1_0or, b1_t, b1_f, iN_lt, iN_inj, reduceIte, if_true, if_false, Nat.zero_add, Nat.add_zero, Bool.false_eq_true, Bool.true_eq_false, Nat.lt_irrefl, iN_az, not_true_eq_false, not_false_eq_true, Nat.reduceEqDiff, Nat.reduceLT, Nat.reduceAdd, Nat.reduceMul, Nat.reduceSub]
  · obtain ⟨f, e1⟩ := p_291e (xs := xs) (d := d + 36) (M := M) (ρ := ρ) (B := B) (w := w) (E := E) O hn hk (TA_w hTA hk) (TA_st hTA hk)
    obtain ⟨f2, e2⟩ := p_291e (xs := xs) (d := d + 36) (M := M) (ρ := ρ) (B := B) (w := w) (E := E ++ [oI (ar (σ 1 4) f)]) O hn hfa (TA_w hTA hfa) (TA_st hTA hfa)
    have w1 : SK σ W k < 1000 := sho_b O hL4 hT3 _
    have w2 : SK σ W fa < 1000 := sho_b O hL4 hT3 _
    have hk2 : k < 2000 := by omega
    have hfa2 : fa < 2000 := by omega
    clear hTA
    by_cases c : SK σ W k < SK σ W fa
    · refine ⟨k, _, by rw [if_pos (.inr c)], SZ_2 (f := f) (f2 := f2) hE hT3, ?_⟩
      simp (disch := first | assumption | omega | exact st8_a (Nat.le_of_ble_eq_true rfl)) only [Nat.not_lt_zero, lA_74 (TSS_get hk hk2), lA_74 (TSS_get hfa hfa2), e1, e2, c, eb_295_10, eb_295_11, eb_295_12, eb_295_13, eb_295_14, kl_a, kl_d, kl_f, kl_i, kl_l, kl_n, kl_r, xr_1, xr_10, xr_11, xr_12, xr_13, xr_14, xr_15, xr_185, xr_186, xr_187, xr_188, xr_189, xr_2, xr_254, xr_255, xr_256, xr_257, xr_27, xr_3, xr_30, xr_31, xr_32, xr_33, xr_34, xr_35, xr_36, xr_37, xr_4, xr_43, xr_5, xr_61, xr_62, xr_64, xr_77, xr_91, xr_92, xr_93, xr_94, xr_95, xr_96, xr_98, af_0, af_1, xt_goto, xt_ib, xt_ic, xt_ic_ge, xt_ic_gt, xt_ic_le, xt_ic_ne, xt_if_eq, xt_if_lt, xt_if_ne, xt_ir, xt_nop, lA_74, lF_17, lF_18, lF_19, lF_8, lA_64, lA_65, lA_66, lA_67, lA_68, lA_69, lA_70, lA_71, lA_72, lA_73, lA_75, lA_62, xq_129_11_virtualc, xq_130_11_virtualc, xq_131_11_virtualc, xq_132_11_virtualc, xq_135_11_virtualc, xq_136_11_virtualc, xq_148_11_virtualc, xq_149_11_virtualc, xq_150_11_virtualc, xq_154_11_virtualc, xq_290_12_virtualm, xq_291_12_virtualm, xq_294_200_static, iN_add, iN_mul, iN_sub, iN_and, iN_or, iN_clr, iN_shl, iN_shr, tb_r1, b1_z, b1_or, b1_and, b1_or0, b1_or1, b1_0or, b1_t, b1_f, iN_lt, iN_inj, reduceIte, if_true, if_false, Nat.zero_add, Nat.add_zero, Bool.false_eq_true, Bool.true_eq_false, Nat.lt_irrefl, iN_az, not_true_eq_false, not_false_eq_true, Nat.reduceEqDiff, Nat.reduceLT, Nat.reduceAdd, Nat.reduceMul, Nat.reduceSub]
    · refine ⟨fa, _, by rw [if_neg (by omega)], SZ_2 (f := f) (f2 := f2) hE hT3, ?_⟩
      simp (disch := first | assumption | omega | exact st8_a (Nat.le_of_ble_eq_true rfl)) only [Nat.not_lt_zero, lA_74 (TSS_get hk hk2), lA_74 (TSS_get hfa hfa2), e1, e2, c, eb_295_10, eb_295_11, eb_295_12, eb_295_13, eb_295_15, kl_a, kl_d, kl_f, kl_i, kl_l, kl_n, kl_r, xr_1, xr_10, xr_11, xr_12, xr_13, xr_14, xr_15, xr_185, xr_186, xr_187, xr_188, xr_189, xr_2, xr_254, xr_255, xr_256, xr_257, xr_27, xr_3, xr_30, xr_31, xr_32, xr_33, xr_34, xr_35, xr_36, xr_37, xr_4, xr_43, xr_5, xr_61, xr_62, xr_64, xr_77, xr_91, xr_92, xr_93, xr_94, xr_95, xr_96, xr_98, af_0, af_1, xt_goto, xt_ib, xt_ic, xt_ic_ge, xt_ic_gt, xt_ic_le, xt_ic_ne, xt_if_eq, xt_if_lt, xt_if_ne, xt_ir, xt_nop, lA_74, lF_17, lF_18, lF_19, lF_8, lA_64, lA_65, lA_66, lA_67, lA_68, lA_69, lA_70, lA_71, lA_72, lA_73, lA_75, lA_62, xq_129_11_virtualc, xq_130_11_virtualc, xq_131_11_virtualc, xq_132_11_virtualc, xq_135_11_virtualc, xq_136_11_virtualc, xq_148_11_virtualc, xq_149_11_virtualc, xq_150_11_virtualc, xq_154_11_virtualc, xq_290_12_virtualm, xq_291_12_virtualm, xq_294_200_static, iN_add, iN_mul, iN_sub, iN_and, iN_or, iN_clr, iN_shl, iN_shr, tb_r1, b1_z, b1_or, b1_and, b1_or0, b1_or1, b1_0or, b1_t, b1_f, iN_lt, iN_inj, reduceIte, if_true, if_false, Nat.zero_add, Nat.add_zero, Bool.false_eq_true, Bool.true_eq_false, Nat.lt_irrefl, iN_az, not_true_eq_false, not_false_eq_true, Nat.reduceEqDiff, Nat.reduceLT, Nat.reduceAdd, Nat.reduceMul, Nat.reduceSub]
set_option maxRecDepth 100000 in
theorem PT_o {G : (Nat → Nat) → (Nat → Nat) → Prop} {cst : (Nat → Nat) → (Nat → Nat) → Nat} (h : OUT σ M N v G cst) (hG : ∀ s r, G s r → Gd σ (alr σ) s r) (hP : PT σ M) : PT σ N := by
  rcases h with ⟨h1, h2, h3, h4, h5⟩ | ⟨h1, h2, h3, h4, -⟩
  · unfold PT
    rw [h2, h3, h4]
    exact hP
  · exact .inr ⟨h2, h3, (hG _ _ h4).1⟩
set_option maxRecDepth 100000 in
theorem PT_b (h : PB M N) (hP : PT σ M) : PT σ N := by
  unfold PT
  rw [h.2.1, h.2.2.1, h.2.2.2]
  exact hP
set_option maxRecDepth 100000 in
theorem IC_b (h : IC σ M0 M) (hb : PB M N) (hC' : CIv σ N) : IC σ M0 N := ⟨hC', PB0_t h.2.1 hb.1, PT_b hb h.2.2⟩
/-- the present timetable is the k-th one of the list -/
def PK (σ M W : Nat → Nat → Nat) (k : Nat) : Prop := M 12 0 = 1 ∧ M 12 1 = (σ 1 6) ∧ AG (σ 1 6) (M 13) (M 14) (tsl (W k)) (trm (W k))
set_option maxRecDepth 100000 in
theorem PK_b (h : PB M N) (hP : PK σ M W k) : PK σ N W k := by
  unfold PK
  rw [h.2.1, h.2.2.1, h.2.2.2]
  exact hP
set_option maxRecDepth 100000 in
theorem PK_w (hTA : TA σ n W B) (hk : k < n) (hP : PK σ M W k) : ∀ l, l < (σ 1 6) → M 13 l < (σ 1 2) ∧ M 14 l < (σ 1 5) := fun l hl => by
  rw [(hP.2.2 l hl).1, (hP.2.2 l hl).2]
  exact (hTA.1.1 k hk).1.1 l hl
-- what first() or next() has found is the k-th table: the law's question is answered so
set_option maxRecDepth 100000 in
theorem t_24 (O : Ok σ) (hTA : TA σ n W B) (hk : k < n) (hB : B k = 0) (hP : PK σ M W k) : ev xs (d + 40) 295 24 ([.ref 0, .ref 63, y2, .int x3, .int x4, y5, .ref p6, .int (nI k), y8, y9, y10], [], HE σ M ρ n B w W E) = ev xs (d + 40) 295 36 ([.ref 0, .ref 63, .int (nI 1), .int x3, .int x4, y5, .ref p6, .int (nI k), y8, y9, y10], [], HE σ M ρ n B w W E) := by
  have hn := TA_n hTA
  have hb := PK_w hTA hk hP
  have e1 := p_294 (xs := xs) (d := d + 37) (ρ := ρ) (B := B) (w := w) (E := E) O hP.1 hb hn hk (TA_w hTA hk)
  rw [isT hP.2.2] at e1
  have e2 := s_148 (xs := xs) (d := d + 36) (σ := σ) (M := M) (R := LR ρ σ n (TSS n) B ((oI (ar (σ 1 6) w) :: RWS σ n W) ++ E)) O hP.1 hb
  rw [wt_cg hP.2.2] at e2
  have e3 := p_290e (xs := xs) (d := d + 36) (M := M) (ρ := ρ) (B := B) (w := w) (E := E) O hk (TA_w hTA hk)
  have e4 := s_135 (xs := xs) (d := d + 35) (σ := σ) (M := M) (R := LR ρ σ n (TSS n) B ((oI (ar (σ 1 6) w) :: RWS σ n W) ++ E)) O hP.1 hb
  rw [brk_cg O hP.2.2, Gd_brk O (TA_g hTA hk hB)] at e4
  have e5 := s_136 (xs := xs) (d := d + 36) (σ := σ) (M := M) (R := LR ρ σ n (TSS n) B ((oI (ar (σ 1 6) w) :: RWS σ n W) ++ E)) O hP.1 hb
  rw [flt_cg hP.2.2, (TA_g hTA hk hB).2.1] at e5
  have w1 : wt σ (tsl (W k)) (trm (W k)) < 1000 := wt_lt O fun l hl => (TA_w hTA hk l hl).1
  have hk2 : k < 2000 := by omega
  clear hTA hb hP hB
  simp (disch := first | assumption | omega | exact st8_a (Nat.le_of_ble_eq_true rfl)) only [lA_74 (TSS_get hk hk2), e1, e2, e3, e4, e5, eb_295_24, eb_295_25, eb_295_26, eb_295_27, eb_295_28, eb_295_29, eb_295_30, eb_295_31, eb_295_32, eb_295_33, eb_295_35, kl_a, kl_d, kl_f, kl_i, kl_l, kl_n, kl_r, xr_1, xr_10, xr_11, xr_12, xr_13, xr_14, xr_15, xr_185, xr_186, xr_187, xr_188, xr_189, xr_2, xr_254, xr_255, xr_256, xr_257, xr_27, xr_3, xr_30, xr_31, xr_32, xr_33, xr_34, xr_35, xr_36, xr_37, xr_4, xr_43, xr_5, xr_61, xr_62, xr_64, xr_77, xr_91, xr_92, xr_93, xr_94, xr_95, xr_96, xr_98, af_0, af_1, xt_goto, xt_ib, xt_ic, xt_ic_ge, xt_ic_gt, xt_ic_le, xt_ic_ne, xt_if_eq, xt_if_lt, xt_if_ne, xt_ir, xt_nop, lA_74, lF_17, lF_18, lF_19, lF_8, lA_64, lA_65, lA_66, lA_67, lA_68, lA_69, lA_70, lA_71, lA_72, lA_73, lA_75, lA_62, xq_129_11_virtualc, xq_130_11_virtualc, xq_131_11_virtualc, xq_132_11_virtualc, xq_135_11_virtualc, xq_136_11_virtualc, xq_148_11_virtualc, xq_149_11_virtualc, xq_150_11_virtualc, xq_154_11_virtualc, xq_290_12_virtualm, xq_291_12_virtualm, xq_294_200_static, iN_add, iN_mul, iN_sub, iN_and, iN_or, iN_clr, iN_shl, iN_shr, tb_r1, b1_z, b1_or, b1_and, b1_or0, b1_or1, b1_0or, b1_t, b1_f, iN_lt, iN_inj, reduceIte, if_true, if_false, Nat.zero_add, Nat.add_zero, Bool.false_eq_true, Bool.true_eq_false, Nat.lt_irrefl, iN_az, not_true_eq_false, not_false_eq_true, Nat.reduceEqDiff, Nat.reduceLT, Nat.reduceAdd, Nat.reduceMul, Nat.reduceSub]
/-- what is known of the tables before the k-th -/
def TQ (σ M W : Nat → Nat → Nat) (n : Nat) (B : Nat → Nat) (k g la fa : Nat) : Prop := (g = 0 ∧ (∀ i, i < k → B i ≠ 0) ∧ la = 4294967295 ∧ fa = 4294967295) ∨ (0 < g ∧ g ≤ k ∧ (la < k ∧ B la = 0 ∧ (∀ i, i < k → B i = 0 → GK σ W la ≤ GK σ W i) ∧ ∀ i, i < la → B i = 0 → GK σ W la < GK σ W i) ∧ (fa < k ∧ B fa = 0 ∧ (∀ i, i < k → B i = 0 → SK σ W fa ≤ SK σ W i) ∧ ∀ i, i < fa → B i = 0 → SK σ W fa < SK σ W i) ∧ (g ≤ 12 → ∃ j, j < k ∧ B j = 0 ∧ (∀ i, j < i → i < k → B i ≠ 0) ∧ PK σ M W j))
set_option maxRecDepth 100000 in
theorem TQ_s (h : TQ σ M W n B k g la fa) (hB : B k ≠ 0) : TQ σ M W n B (k + 1) g la fa := by
  have ex : ∀ {P : Nat → Prop}, (∀ i, i < k → B i = 0 → P i) → ∀ i, i < k + 1 → B i = 0 → P i := fun h i hi hb => by
    by_cases e : i = k
    · rw [e] at hb
      exact absurd hb hB
    · exact h i (by omega) hb
  rcases h with ⟨h1, h2, h3, h4⟩ | ⟨h1, h2, ⟨l1, l2, l3, l4⟩, ⟨f1, f2, f3, f4⟩, h5⟩
  · refine .inl ⟨h1, fun i hi => ?_, h3, h4⟩
    by_cases e : i = k
    · rw [e]
      exact hB
    · exact h2 i (by omega)
  · refine .inr ⟨h1, by omega, ⟨by omega, l2, ex l3, l4⟩, ⟨by omega, f2, ex f3, f4⟩, fun hg => ?_⟩
    obtain ⟨j, j1, j2, j3, j4⟩ := h5 hg
    refine ⟨j, by omega, j2, fun i hi hi2 => ?_, j4⟩
    by_cases e : i = k
    · rw [e]
      exact hB
    · exact j3 i hi (by omega)
set_option maxRecDepth 100000 in
theorem TQ_m (h : TQ σ M W n B k g la fa) (hp : PB M N) : TQ σ N W n B k g la fa := by
  rcases h with h | ⟨h1, h2, h3, h4, h5⟩
  · exact .inl h
  · refine .inr ⟨h1, h2, h3, h4, fun hg => ?_⟩
    obtain ⟨j, j1, j2, j3, j4⟩ := h5 hg
    exact ⟨j, j1, j2, j3, PK_b hp j4⟩
-- first() or next() at the k-th table, a good one
set_option maxRecDepth 100000 in
theorem t_16 (O : Ok σ) (hTA : TA σ n W B) (hk : k < n) (hB : B k = 0) (hI : IC σ M0 M) (hQ2 : TQ σ M W n B k g la fa) {fb : Nat} : ∃ N, IC σ M0 N ∧ (g < 12 → PK σ N W k) ∧ ev xs (d + 40) 295 16 ([.ref 0, .ref 63, .int (nI 1), .int (nI g), .int x4, y5, .ref p6, .int (nI k), y8, y9, y10], [.int (nI fb)], HE σ M ρ n B w W E) = ev xs (d + 40) 295 36 ([.ref 0, .ref 63, .int (nI 1), .int (nI g), .int x4, .int (nI fb), .ref p6, .int (nI k), y8, y9, y10], [], HE σ N ρ n B w W E) := by
  have hn := TA_n hTA
  obtain ⟨hI1, hI2, hI3⟩ := hI
  rcases hQ2 with ⟨h1, h2, -, -⟩ | ⟨h1, h2, -, -, h5⟩
  · obtain ⟨N, v, e1, p1, p2, p3⟩ := s_131 (xs := xs) (d := d + 17) (M := M) (R := LR ρ σ n (TSS n) B ((oI (ar (σ 1 6) w) :: RWS σ n W) ++ E)) O hI1
    have hPT := PT_o p3 (fun _ _ h => h) hI3
    rcases p3 with ⟨-, -, -, -, h6⟩ | ⟨v1, v2, v3, v4, v5, v6, v7⟩
    · exact absurd (TA_g hTA hk hB) (h6 _ _)
    · have hA := TA_m O hTA (P := fun _ _ => True) (fun _ _ _ _ _ _ => trivial) v4 trivial (fun s2 r2 hg _ => v7 s2 r2 hg v5) hk hB trivial fun i hi hb => absurd hb (h2 i hi)
      have hPK : PK σ N W k := ⟨v2, v3, hA⟩
      refine ⟨N, ⟨p2, PB0_t hI2 p1, hPT⟩, fun _ => hPK, ?_⟩
      rw [← t_24 (xs := xs) (d := d) (ρ := ρ) (w := w) (E := E) (y2 := .int (nI 1)) (x3 := nI g) (x4 := x4) (y5 := .int (nI fb)) (p6 := p6) (y8 := y8) (y9 := y9) (y10 := y10) O hTA hk hB hPK]
      have hv : decide (v ≠ 4294967295) = true := decide_eq_true (by omega)
      rw [hv] at e1
      clear hTA hI1 hI2 hI3 p1 p2 h2 v7 v6 hA hPK hPT
      rw [h1]
      simp (disch := first | assumption | omega | exact st8_a (Nat.le_of_ble_eq_true rfl)) only [e1, eb_295_16, eb_295_17, eb_295_18, eb_295_19, eb_295_20, eb_295_21, kl_a, kl_d, kl_f, kl_i, kl_l, kl_n, kl_r, xr_1, xr_10, xr_11, xr_12, xr_13, xr_14, xr_15, xr_185, xr_186, xr_187, xr_188, xr_189, xr_2, xr_254, xr_255, xr_256, xr_257, xr_27, xr_3, xr_30, xr_31, xr_32, xr_33, xr_34, xr_35, xr_36, xr_37, xr_4, xr_43, xr_5, xr_61, xr_62, xr_64, xr_77, xr_91, xr_92, xr_93, xr_94, xr_95, xr_96, xr_98, af_0, af_1, xt_goto, xt_ib, xt_ic, xt_ic_ge, xt_ic_gt, xt_ic_le, xt_ic_ne, xt_if_eq, xt_if_lt, xt_if_ne, xt_ir, xt_nop, lA_74, lF_17, lF_18, lF_19, lF_8, lA_64, lA_65, lA_66, lA_67, lA_68, lA_69, lA_70, lA_71, lA_72, lA_73, lA_75, lA_62, xq_129_11_virtualc, xq_130_11_virtualc, xq_131_11_virtualc, xq_132_11_virtualc, xq_135_11_virtualc, xq_136_11_virtualc, xq_148_11_virtualc, xq_149_11_virtualc, xq_150_11_virtualc, xq_154_11_virtualc, xq_290_12_virtualm, xq_291_12_virtualm, xq_294_200_static, iN_add, iN_mul, iN_sub, iN_and, iN_or, iN_clr, iN_shl, iN_shr, tb_r1, b1_z, b1_or, b1_and, b1_or0, b1_or1, b1_0or, b1_t, b1_f, iN_lt, iN_inj, reduceIte, if_true, if_false, Nat.zero_add, Nat.add_zero, Bool.false_eq_true, Bool.true_eq_false, Nat.lt_irrefl, iN_az, not_true_eq_false, not_false_eq_true, Nat.reduceEqDiff, Nat.reduceLT, Nat.reduceAdd, Nat.reduceMul, Nat.reduceSub]
  · by_cases h12 : g < 12
    · obtain ⟨j, j1, j2, j3, j4⟩ := h5 (by omega)
      have hb := PK_w hTA (by omega) j4
      obtain ⟨N, b, e1, p1, p2, p3, p4⟩ := s_132 (xs := xs) (d := d + 14) (M := M) (R := LR ρ σ n (TSS n) B ((oI (ar (σ 1 6) w) :: RWS σ n W) ++ E)) O hI1 j4.1 hb
      have hlx : LX (σ 1 6) (M 13) (M 14) (tsl (W k)) (trm (W k)) := LX_c1 (AG_s j4.2.2) (TA_lx hTA j1 hk)
      cases b
      · exact absurd hlx ((p3 rfl).2.2.2 _ _ (TA_g hTA hk hB))
      · obtain ⟨v2, v3, v4, v5, v6⟩ := p4 rfl
        have hA := TA_m O hTA (P := fun s r => LX (σ 1 6) (M 13) (M 14) s r) (fun s r s2 r2 ha h => LX_c2 ha h) v4 v5 v6 hk hB hlx (fun i hi hb2 h => by
          by_cases hji : j < i
          · exact j3 i hji hi hb2
          · by_cases e : i = j
            · rw [e] at h
              exact LX_as (LX_c1 j4.2.2 h) (LX_c1 j4.2.2 h)
            · exact LX_as (LX_c1 j4.2.2 h) (TA_lx hTA (show i < j by omega) (by omega)))
        have hPK : PK σ N W k := ⟨v2, v3, hA⟩
        refine ⟨N, ⟨p2, PB0_t hI2 p1, .inr ⟨v2, v3, v4.1⟩⟩, fun _ => hPK, ?_⟩
        rw [← t_24 (xs := xs) (d := d) (ρ := ρ) (w := w) (E := E) (y2 := .int (nI 1)) (x3 := nI g) (x4 := x4) (y5 := .int (nI fb)) (p6 := p6) (y8 := y8) (y9 := y9) (y10 := y10) O hTA hk hB hPK]
        have hg0 : ¬ g = 0 := by omega
        clear hTA hI1 hI2 hI3 p1 p2 p3 p4 v6 hA hPK hlx j3 j4 hb h5 v4 v5
        simp (disch := first | assumption | omega | exact st8_a (Nat.le_of_ble_eq_true rfl)) only [e1, h12, hg0, eb_295_16, eb_295_17, eb_295_18, eb_295_22, eb_295_23, kl_a, kl_d, kl_f, kl_i, kl_l, kl_n, kl_r, xr_1, xr_10, xr_11, xr_12, xr_13, xr_14, xr_15, xr_185, xr_186, xr_187, xr_188, xr_189, xr_2, xr_254, xr_255, xr_256, xr_257, xr_27, xr_3, xr_30, xr_31, xr_32, xr_33, xr_34, xr_35, xr_36, xr_37, xr_4, xr_43, xr_5, xr_61, xr_62, xr_64, xr_77, xr_91, xr_92, xr_93, xr_94, xr_95, xr_96, xr_98, af_0, af_1, xt_goto, xt_ib, xt_ic, xt_ic_ge, xt_ic_gt, xt_ic_le, xt_ic_ne, xt_if_eq, xt_if_lt, xt_if_ne, xt_ir, xt_nop, lA_74, lF_17, lF_18, lF_19, lF_8, lA_64, lA_65, lA_66, lA_67, lA_68, lA_69, lA_70, lA_71, lA_72, lA_73, lA_75, lA_62, xq_129_11_virtualc, xq_130_11_virtualc, xq_131_11_virtualc, xq_132_11_virtualc, xq_135_11_virtualc, xq_136_11_virtualc, xq_148_11_virtualc, xq_149_11_virtualc, xq_150_11_virtualc, xq_154_11_virtualc, xq_290_12_virtualm, xq_291_12_virtualm, xq_294_200_static, iN_add, iN_mul, iN_sub, iN_and, iN_or, iN_clr, iN_shl, iN_shr, tb_r1, b1_z, b1_or, b1_and, b1_or0, b1_or1, b1_0or, b1_t, b1_f, iN_lt, iN_inj, reduceIte, if_true, if_false, Nat.zero_add, Nat.add_zero, Bool.false_eq_true, Bool.true_eq_false, Nat.lt_irrefl, iN_az, not_true_eq_false, not_false_eq_true, Nat.reduceEqDiff, Nat.reduceLT, Nat.reduceAdd, Nat.reduceMul, Nat.reduceSub]
    · refine ⟨M, ⟨hI1, hI2, hI3⟩, fun z => absurd z h12, ?_⟩
      have hg : g < 2147483648 := by omega
      clear hTA hI1 hI2 hI3 h5
      simp (disch := first | assumption | omega | exact st8_a (Nat.le_of_ble_eq_true rfl)) only [h12, eb_295_16, kl_a, kl_d, kl_f, kl_i, kl_l, kl_n, kl_r, xr_1, xr_10, xr_11, xr_12, xr_13, xr_14, xr_15, xr_185, xr_186, xr_187, xr_188, xr_189, xr_2, xr_254, xr_255, xr_256, xr_257, xr_27, xr_3, xr_30, xr_31, xr_32, xr_33, xr_34, xr_35, xr_36, xr_37, xr_4, xr_43, xr_5, xr_61, xr_62, xr_64, xr_77, xr_91, xr_92, xr_93, xr_94, xr_95, xr_96, xr_98, af_0, af_1, xt_goto, xt_ib, xt_ic, xt_ic_ge, xt_ic_gt, xt_ic_le, xt_ic_ne, xt_if_eq, xt_if_lt, xt_if_ne, xt_ir, xt_nop, lA_74, lF_17, lF_18, lF_19, lF_8, lA_64, lA_65, lA_66, lA_67, lA_68, lA_69, lA_70, lA_71, lA_72, lA_73, lA_75, lA_62, xq_129_11_virtualc, xq_130_11_virtualc, xq_131_11_virtualc, xq_132_11_virtualc, xq_135_11_virtualc, xq_136_11_virtualc, xq_148_11_virtualc, xq_149_11_virtualc, xq_150_11_virtualc, xq_154_11_virtualc, xq_290_12_virtualm, xq_291_12_virtualm, xq_294_200_static, iN_add, iN_mul, iN_sub, iN_and, iN_or, iN_clr, iN_shl, iN_shr, tb_r1, b1_z, b1_or, b1_and, b1_or0, b1_or1, b1_0or, b1_t, b1_f, iN_lt, iN_inj, reduceIte, if_true, if_false, Nat.zero_add, Nat.add_zero, Bool.false_eq_true, Bool.true_eq_false, Nat.lt_irrefl, iN_az, not_true_eq_false, not_false_eq_true, Nat.reduceEqDiff, Nat.reduceLT, Nat.reduceAdd, Nat.reduceMul, Nat.reduceSub]
-- a table's value stands among those that are left
set_option maxRecDepth 100000 in
theorem t_v (O : Ok σ) (hTA : TA σ n W B) (hk : k < n) (hB : B k = 0) (hK : CIv σ M) (hV : VS σ (M 38)) (hl : l < (σ 1 6)) : (M 38 l).testBit (W k l / 10 * 3 + W k l % 10) = true := hV.2 _ (good_SS O hK.1.1 (TA_g hTA hk hB)) l hl _ (gx_tb.mpr rfl)
set_option maxRecDepth 100000 in
theorem VS_u2 {X Y : Nat → Nat} (h : VS σ X) (h2 : VS σ Y) (hl : l < (σ 1 6)) : X l = Y l := Nat.eq_of_testBit_eq fun i => by
  cases hx : (X l).testBit i
  · cases hy : (Y l).testBit i
    · rfl
    · rw [h.2 _ h2.1 l hl i hy] at hx
      cases hx
  · rw [h2.2 _ h.1 l hl i hx]
set_option maxRecDepth 100000 in
theorem t_43 (O : Ok σ) (hTA : TA σ n W B) (hk : k < n) (hB : B k = 0) (hl : l < (σ 1 6)) {Y : Nat → Nat} (hY : VS σ Y) : ∀ c, pc (W k l / 10 * 3 + W k l % 10) (Y l) < c → c ≤ pc 18 (Y l) → ∀ M, IC σ M0 M → ∃ N x, PB M N ∧ IC σ M0 N ∧ ev xs (d + 40) 295 43 ([.ref 0, .ref 63, .int (nI 1), .int x3, .int x4, y5, .ref p6, .int (nI k), .int (nI l), .int (nI 0), .int (nI c - nI 1)], [], HE σ M ρ n B w W E) = ev xs (d + 40) 295 50 ([.ref 0, .ref 63, .int (nI 1), .int x3, .int x4, y5, .ref p6, .int (nI k), .int (nI l), .int (nI 1), x], [], HE σ N ρ n B w W E) := by
  obtain ⟨hD1, hD2, hH1, hH2, hS, hC, hT, hR, hL, hQ⟩ := Ok_b O
  have hn := TA_n hTA
  have hk2 : k < 2000 := by omega
  have hwl := TA_w hTA hk l hl
  have v1 := WB_v O (TA_w hTA hk) hl
  have h18 := pc_le 18 (Y l)
  intro c
  induction c with
  | zero => intro h; omega
  | succ c ih =>
    intro h1 h2 M hI
    have ec : nI (c + 1) - nI 1 = nI c := by
      rw [iN_sub (by omega)]
      rfl
    obtain ⟨N, p1, p2, p3, p4⟩ := s_130 (xs := xs) (d := d + 32) (M := M) (R := LR ρ σ n (TSS n) B ((oI (ar (σ 1 6) w) :: RWS σ n W) ++ E)) (u := c) O hI.1 hl (by omega)
    have eY : N 38 l = Y l := VS_u2 p3 hY hl
    have hI2 := IC_b hI p1 p2
    rw [eY] at p4
    rcases p4 with ⟨p5, -⟩ | ⟨s, r, g1, g2, g3, g4, e1⟩
    · omega
    · have hc30 : c < 30 := by omega
      have hsr : 10 * s + r < 1000 := by omega
      by_cases hh : 10 * s + r = W k l
      · refine ⟨N, .int (nI c - nI 1), p1, hI2, ?_⟩
        rw [eb_295_43, ec]
        clear hTA ih hI hI2 p1 p2 p3 hY hwl h1 h2
        simp (disch := first | assumption | omega | exact st8_a (Nat.le_of_ble_eq_true rfl)) only [Nat.not_lt_zero, e1, lA_74 (TSS_get hk hk2), q_ia (TBr hk), eq_true hh, eb_295_44, eb_295_45, eb_295_46, eb_295_47, eb_295_49, kl_a, kl_d, kl_f, kl_i, kl_l, kl_n, kl_r, xr_1, xr_10, xr_11, xr_12, xr_13, xr_14, xr_15, xr_185, xr_186, xr_187, xr_188, xr_189, xr_2, xr_254, xr_255, xr_256, xr_257, xr_27, xr_3, xr_30, xr_31, xr_32, xr_33, xr_34, xr_35, xr_36, xr_37, xr_4, xr_43, xr_5, xr_61, xr_62, xr_64, xr_77, xr_91, xr_92, xr_93, xr_94, xr_95, xr_96, xr_98, af_0, af_1, xt_goto, xt_ib, xt_ic, xt_ic_ge, xt_ic_gt, xt_ic_le, xt_ic_ne, xt_if_eq, xt_if_lt, xt_if_ne, xt_ir, xt_nop, lA_74, lF_17, lF_18, lF_19, lF_8, lA_64, lA_65, lA_66, lA_67, lA_68, lA_69, lA_70, lA_71, lA_72, lA_73, lA_75, lA_62, xq_129_11_virtualc, xq_130_11_virtualc, xq_131_11_virtualc, xq_132_11_virtualc, xq_135_11_virtualc, xq_136_11_virtualc, xq_148_11_virtualc, xq_149_11_virtualc, xq_150_11_virtualc, xq_154_11_virtualc, xq_290_12_virtualm, xq_291_12_virtualm, xq_294_200_static, iN_add, iN_mul, iN_and, iN_or, iN_clr, iN_shl, iN_shr, tb_r1, b1_z, b1_or, b1_and, b1_or0, b1_or1, b1_0or, b1_t, b1_f, iN_lt, iN_inj, reduceIte, if_true, if_false, Nat.zero_add, Nat.add_zero, Bool.false_eq_true, Bool.true_eq_false, Nat.lt_irrefl, iN_az, not_true_eq_false, not_false_eq_true, Nat.reduceEqDiff, Nat.reduceLT, Nat.reduceAdd, Nat.reduceMul, Nat.reduceSub]
        rw [eb_295_43]
        simp (disch := first | assumption | omega | exact st8_a (Nat.le_of_ble_eq_true rfl)) only [eb_295_44, kl_a, kl_d, kl_f, kl_i, kl_l, kl_n, kl_r, xr_1, xr_10, xr_11, xr_12, xr_13, xr_14, xr_15, xr_185, xr_186, xr_187, xr_188, xr_189, xr_2, xr_254, xr_255, xr_256, xr_257, xr_27, xr_3, xr_30, xr_31, xr_32, xr_33, xr_34, xr_35, xr_36, xr_37, xr_4, xr_43, xr_5, xr_61, xr_62, xr_64, xr_77, xr_91, xr_92, xr_93, xr_94, xr_95, xr_96, xr_98, af_0, af_1, xt_goto, xt_ib, xt_ic, xt_ic_ge, xt_ic_gt, xt_ic_le, xt_ic_ne, xt_if_eq, xt_if_lt, xt_if_ne, xt_ir, xt_nop, lA_74, lF_17, lF_18, lF_19, lF_8, lA_64, lA_65, lA_66, lA_67, lA_68, lA_69, lA_70, lA_71, lA_72, lA_73, lA_75, lA_62, xq_129_11_virtualc, xq_130_11_virtualc, xq_131_11_virtualc, xq_132_11_virtualc, xq_135_11_virtualc, xq_136_11_virtualc, xq_148_11_virtualc, xq_149_11_virtualc, xq_150_11_virtualc, xq_154_11_virtualc, xq_290_12_virtualm, xq_291_12_virtualm, xq_294_200_static, iN_add, iN_mul, iN_and, iN_or, iN_clr, iN_shl, iN_shr, tb_r1, b1_z, b1_or, b1_and, b1_or0, b1_or1, b1_0or, b1_t, b1_f, iN_lt, iN_inj, reduceIte, if_true, if_false, Nat.zero_add, Nat.add_zero, Bool.false_eq_true, Bool.true_eq_false, Nat.lt_irrefl, iN_az, not_true_eq_false, not_false_eq_true, Nat.reduceEqDiff, Nat.reduceLT, Nat.reduceAdd, Nat.reduceMul, Nat.reduceSub]
        split <;> rfl
      · have hb := t_v O hTA hk hB p2 p3 hl
        rw [eY] at hb
        have hne : pc (W k l / 10 * 3 + W k l % 10) (Y l) ≠ c := fun z => by
          have := pc_un hb g3 (z.trans g4.symm)
          omega
        obtain ⟨N2, x, q1, q2, e2⟩ := ih (by omega) (by omega) N hI2
        refine ⟨N2, x, ⟨PB0_t p1.1 q1.1, q1.2.1.trans p1.2.1, q1.2.2.1.trans p1.2.2.1, q1.2.2.2.trans p1.2.2.2⟩, q2, ?_⟩
        rw [eb_295_43, ec]
        clear hTA ih hI hI2 p1 p2 p3 hY hwl h1 h2 hb hne q1 q2
        simp (disch := first | assumption | omega | exact st8_a (Nat.le_of_ble_eq_true rfl)) only [Nat.not_lt_zero, e1, lA_74 (TSS_get hk hk2), q_ia (TBr hk), hh, eb_295_44, eb_295_45, eb_295_46, eb_295_48, eb_295_49, kl_a, kl_d, kl_f, kl_i, kl_l, kl_n, kl_r, xr_1, xr_10, xr_11, xr_12, xr_13, xr_14, xr_15, xr_185, xr_186, xr_187, xr_188, xr_189, xr_2, xr_254, xr_255, xr_256, xr_257, xr_27, xr_3, xr_30, xr_31, xr_32, xr_33, xr_34, xr_35, xr_36, xr_37, xr_4, xr_43, xr_5, xr_61, xr_62, xr_64, xr_77, xr_91, xr_92, xr_93, xr_94, xr_95, xr_96, xr_98, af_0, af_1, xt_goto, xt_ib, xt_ic, xt_ic_ge, xt_ic_gt, xt_ic_le, xt_ic_ne, xt_if_eq, xt_if_lt, xt_if_ne, xt_ir, xt_nop, lA_74, lF_17, lF_18, lF_19, lF_8, lA_64, lA_65, lA_66, lA_67, lA_68, lA_69, lA_70, lA_71, lA_72, lA_73, lA_75, lA_62, xq_129_11_virtualc, xq_130_11_virtualc, xq_131_11_virtualc, xq_132_11_virtualc, xq_135_11_virtualc, xq_136_11_virtualc, xq_148_11_virtualc, xq_149_11_virtualc, xq_150_11_virtualc, xq_154_11_virtualc, xq_290_12_virtualm, xq_291_12_virtualm, xq_294_200_static, iN_add, iN_mul, iN_and, iN_or, iN_clr, iN_shl, iN_shr, tb_r1, b1_z, b1_or, b1_and, b1_or0, b1_or1, b1_0or, b1_t, b1_f, iN_lt, iN_inj, reduceIte, if_true, if_false, Nat.zero_add, Nat.add_zero, Bool.false_eq_true, Bool.true_eq_false, Nat.lt_irrefl, iN_az, not_true_eq_false, not_false_eq_true, Nat.reduceEqDiff, Nat.reduceLT, Nat.reduceAdd, Nat.reduceMul, Nat.reduceSub]
        exact e2
set_option maxRecDepth 100000 in
theorem t_38 (O : Ok σ) (hTA : TA σ n W B) (hk : k < n) (hB : B k = 0) (hl : l < (σ 1 6)) (hI : IC σ M0 M) (hg : g < 2147483648) : ∃ N x9 x10, PB M N ∧ IC σ M0 N ∧ ev xs (d + 40) 295 38 ([.ref 0, .ref 63, .int (nI 1), .int (nI g), .int x4, y5, .ref p6, .int (nI k), .int (nI l), y9, y10], [], HE σ M ρ n B w W E) = ev xs (d + 40) 295 37 ([.ref 0, .ref 63, .int (nI 1), .int (nI g), .int x4, y5, .ref p6, .int (nI k), .int (nI (l + 1)), x9, x10], [], HE σ N ρ n B w W E) := by
  obtain ⟨N, e1, p1, p2, p3⟩ := s_129 (xs := xs) (d := d + 32) (M := M) (R := LR ρ σ n (TSS n) B ((oI (ar (σ 1 6) w) :: RWS σ n W) ++ E)) O hI.1 hl
  have hI2 := IC_b hI p1 p2
  have hb := t_v O hTA hk hB p2 p3 hl
  have h18 := pc_le 18 (N 38 l)
  have hlt : pc (W k l / 10 * 3 + W k l % 10) (N 38 l) < pc 18 (N 38 l) := by
    obtain ⟨hD1, hD2, hH1, hH2, hS, hC, hT, hR, hL, hQ⟩ := Ok_b O
    obtain ⟨a1, a2⟩ := TA_w hTA hk l hl
    have h2 := pc_mo (z := N 38 l) (W k l / 10 * 3 + W k l % 10 + 1) 18 (by omega)
    have h3 : pc (W k l / 10 * 3 + W k l % 10 + 1) (N 38 l) = pc (W k l / 10 * 3 + W k l % 10) (N 38 l) + 1 := by
      rw [pc_sm, pc_sm, sm, hb]
      rfl
    omega
  by_cases h40 : 40 < g
  · refine ⟨N, .int (nI 1), .int (nI (pc 18 (N 38 l)) - nI 1), p1, hI2, ?_⟩
    clear hTA hI hI2 p1 p2 p3 hb
    simp (disch := first | assumption | omega | exact st8_a (Nat.le_of_ble_eq_true rfl)) only [h40, e1, eb_295_38, eb_295_39, eb_295_41, eb_295_42, kl_a, kl_d, kl_f, kl_i, kl_l, kl_n, kl_r, xr_1, xr_10, xr_11, xr_12, xr_13, xr_14, xr_15, xr_185, xr_186, xr_187, xr_188, xr_189, xr_2, xr_254, xr_255, xr_256, xr_257, xr_27, xr_3, xr_30, xr_31, xr_32, xr_33, xr_34, xr_35, xr_36, xr_37, xr_4, xr_43, xr_5, xr_61, xr_62, xr_64, xr_77, xr_91, xr_92, xr_93, xr_94, xr_95, xr_96, xr_98, af_0, af_1, xt_goto, xt_ib, xt_ic, xt_ic_ge, xt_ic_gt, xt_ic_le, xt_ic_ne, xt_if_eq, xt_if_lt, xt_if_ne, xt_ir, xt_nop, lA_74, lF_17, lF_18, lF_19, lF_8, lA_64, lA_65, lA_66, lA_67, lA_68, lA_69, lA_70, lA_71, lA_72, lA_73, lA_75, lA_62, xq_129_11_virtualc, xq_130_11_virtualc, xq_131_11_virtualc, xq_132_11_virtualc, xq_135_11_virtualc, xq_136_11_virtualc, xq_148_11_virtualc, xq_149_11_virtualc, xq_150_11_virtualc, xq_154_11_virtualc, xq_290_12_virtualm, xq_291_12_virtualm, xq_294_200_static, iN_add, iN_mul, iN_and, iN_or, iN_clr, iN_shl, iN_shr, tb_r1, b1_z, b1_or, b1_and, b1_or0, b1_or1, b1_0or, b1_t, b1_f, iN_lt, iN_inj, reduceIte, if_true, if_false, Nat.zero_add, Nat.add_zero, Bool.false_eq_true, Bool.true_eq_false, Nat.lt_irrefl, iN_az, not_true_eq_false, not_false_eq_true, Nat.reduceEqDiff, Nat.reduceLT, Nat.reduceAdd, Nat.reduceMul, Nat.reduceSub]
    rw [eb_295_43]
    simp (disch := first | assumption | omega | exact st8_a (Nat.le_of_ble_eq_true rfl)) only [eb_295_44, eb_295_50, eb_295_51, eb_295_52, eb_295_54, kl_a, kl_d, kl_f, kl_i, kl_l, kl_n, kl_r, xr_1, xr_10, xr_11, xr_12, xr_13, xr_14, xr_15, xr_185, xr_186, xr_187, xr_188, xr_189, xr_2, xr_254, xr_255, xr_256, xr_257, xr_27, xr_3, xr_30, xr_31, xr_32, xr_33, xr_34, xr_35, xr_36, xr_37, xr_4, xr_43, xr_5, xr_61, xr_62, xr_64, xr_77, xr_91, xr_92, xr_93, xr_94, xr_95, xr_96, xr_98, af_0, af_1, xt_goto, xt_ib, xt_ic, xt_ic_ge, xt_ic_gt, xt_ic_le, xt_ic_ne, xt_if_eq, xt_if_lt, xt_if_ne, xt_ir, xt_nop, lA_74, lF_17, lF_18, lF_19, lF_8, lA_64, lA_65, lA_66, lA_67, lA_68, lA_69, lA_70, lA_71, lA_72, lA_73, lA_75, lA_62, xq_129_11_virtualc, xq_130_11_virtualc, xq_131_11_virtualc, xq_132_11_virtualc, xq_135_11_virtualc, xq_136_11_virtualc, xq_148_11_virtualc, xq_149_11_virtualc, xq_150_11_virtualc, xq_154_11_virtualc, xq_290_12_virtualm, xq_291_12_virtualm, xq_294_200_static, iN_add, iN_mul, iN_and, iN_or, iN_clr, iN_shl, iN_shr, tb_r1, b1_z, b1_or, b1_and, b1_or0, b1_or1, b1_0or, b1_t, b1_f, iN_lt, iN_inj, reduceIte, if_true, if_false, Nat.zero_add, Nat.add_zero, Bool.false_eq_true, Bool.true_eq_false, Nat.lt_irrefl, iN_az, not_true_eq_false, not_false_eq_true, Nat.reduceEqDiff, Nat.reduceLT, Nat.reduceAdd, Nat.reduceMul, Nat.reduceSub]
    split <;> rfl
  · obtain ⟨N2, x, q1, q2, e2⟩ := t_43 (xs := xs) (d := d) (ρ := ρ) (w := w) (E := E) (x3 := nI g) (x4 := x4) (y5 := y5) (p6 := p6) O hTA hk hB hl p3 _ hlt (Nat.le_refl _) N hI2
    refine ⟨N2, .int (nI 1), x, ⟨PB0_t p1.1 q1.1, q1.2.1.trans p1.2.1, q1.2.2.1.trans p1.2.2.1, q1.2.2.2.trans p1.2.2.2⟩, q2, ?_⟩
    clear hTA hI hI2 p1 p2 p3 hb q1 q2
    simp (disch := first | assumption | omega | exact st8_a (Nat.le_of_ble_eq_true rfl)) only [h40, e1, eb_295_38, eb_295_40, eb_295_41, eb_295_42, kl_a, kl_d, kl_f, kl_i, kl_l, kl_n, kl_r, xr_1, xr_10, xr_11, xr_12, xr_13, xr_14, xr_15, xr_185, xr_186, xr_187, xr_188, xr_189, xr_2, xr_254, xr_255, xr_256, xr_257, xr_27, xr_3, xr_30, xr_31, xr_32, xr_33, xr_34, xr_35, xr_36, xr_37, xr_4, xr_43, xr_5, xr_61, xr_62, xr_64, xr_77, xr_91, xr_92, xr_93, xr_94, xr_95, xr_96, xr_98, af_0, af_1, xt_goto, xt_ib, xt_ic, xt_ic_ge, xt_ic_gt, xt_ic_le, xt_ic_ne, xt_if_eq, xt_if_lt, xt_if_ne, xt_ir, xt_nop, lA_74, lF_17, lF_18, lF_19, lF_8, lA_64, lA_65, lA_66, lA_67, lA_68, lA_69, lA_70, lA_71, lA_72, lA_73, lA_75, lA_62, xq_129_11_virtualc, xq_130_11_virtualc, xq_131_11_virtualc, xq_132_11_virtualc, xq_135_11_virtualc, xq_136_11_virtualc, xq_148_11_virtualc, xq_149_11_virtualc, xq_150_11_virtualc, xq_154_11_virtualc, xq_290_12_virtualm, xq_291_12_virtualm, xq_294_200_static, iN_add, iN_mul, iN_and, iN_or, iN_clr, iN_shl, iN_shr, tb_r1, b1_z, b1_or, b1_and, b1_or0, b1_or1, b1_0or, b1_t, b1_f, iN_lt, iN_inj, reduceIte, if_true, if_false, Nat.zero_add, Nat.add_zero, Bool.false_eq_true, Bool.true_eq_false, Nat.lt_irrefl, iN_az, not_true_eq_false, not_false_eq_true, Nat.reduceEqDiff, Nat.reduceLT, Nat.reduceAdd, Nat.reduceMul, Nat.reduceSub]
    rw [e2]
    simp (disch := first | assumption | omega | exact st8_a (Nat.le_of_ble_eq_true rfl)) only [eb_295_50, eb_295_51, eb_295_52, eb_295_54, kl_a, kl_d, kl_f, kl_i, kl_l, kl_n, kl_r, xr_1, xr_10, xr_11, xr_12, xr_13, xr_14, xr_15, xr_185, xr_186, xr_187, xr_188, xr_189, xr_2, xr_254, xr_255, xr_256, xr_257, xr_27, xr_3, xr_30, xr_31, xr_32, xr_33, xr_34, xr_35, xr_36, xr_37, xr_4, xr_43, xr_5, xr_61, xr_62, xr_64, xr_77, xr_91, xr_92, xr_93, xr_94, xr_95, xr_96, xr_98, af_0, af_1, xt_goto, xt_ib, xt_ic, xt_ic_ge, xt_ic_gt, xt_ic_le, xt_ic_ne, xt_if_eq, xt_if_lt, xt_if_ne, xt_ir, xt_nop, lA_74, lF_17, lF_18, lF_19, lF_8, lA_64, lA_65, lA_66, lA_67, lA_68, lA_69, lA_70, lA_71, lA_72, lA_73, lA_75, lA_62, xq_129_11_virtualc, xq_130_11_virtualc, xq_131_11_virtualc, xq_132_11_virtualc, xq_135_11_virtualc, xq_136_11_virtualc, xq_148_11_virtualc, xq_149_11_virtualc, xq_150_11_virtualc, xq_154_11_virtualc, xq_290_12_virtualm, xq_291_12_virtualm, xq_294_200_static, iN_add, iN_mul, iN_sub, iN_and, iN_or, iN_clr, iN_shl, iN_shr, tb_r1, b1_z, b1_or, b1_and, b1_or0, b1_or1, b1_0or, b1_t, b1_f, iN_lt, iN_inj, reduceIte, if_true, if_false, Nat.zero_add, Nat.add_zero, Bool.false_eq_true, Bool.true_eq_false, Nat.lt_irrefl, iN_az, not_true_eq_false, not_false_eq_true, Nat.reduceEqDiff, Nat.reduceLT, Nat.reduceAdd, Nat.reduceMul, Nat.reduceSub]
set_option maxRecDepth 100000 in
theorem t_37 (O : Ok σ) (hTA : TA σ n W B) (hk : k < n) (hB : B k = 0) (hg : g < 2147483648) : ∀ l, l ≤ (σ 1 6) → ∀ M y9 y10, IC σ M0 M → ∃ N x9 x10, PB M N ∧ IC σ M0 N ∧ ev xs (d + 40) 295 37 ([.ref 0, .ref 63, .int (nI 1), .int (nI g), .int x4, y5, .ref p6, .int (nI k), .int (nI l), y9, y10], [], HE σ M ρ n B w W E) = ev xs (d + 40) 295 1 ([.ref 0, .ref 63, .int (nI 1), .int (nI g), .int x4, y5, .ref p6, .int (nI (k + 1)), .int (nI (σ 1 6)), x9, x10], [], HE σ N ρ n B w W E) := by
  obtain ⟨hD1, hD2, hH1, hH2, hS, hC, hT, hR, hL, hQ⟩ := Ok_b O
  refine lp (σ 1 6) ?_ ?_
  · intro M y9 y10 hI
    refine ⟨M, y9, y10, PB_r, hI, ?_⟩
    rw [eb_295_37]
    clear hTA hI
    simp (disch := first | assumption | omega | exact st8_a (Nat.le_of_ble_eq_true rfl)) only [eb_295_55, kl_a, kl_d, kl_f, kl_i, kl_l, kl_n, kl_r, xr_1, xr_10, xr_11, xr_12, xr_13, xr_14, xr_15, xr_185, xr_186, xr_187, xr_188, xr_189, xr_2, xr_254, xr_255, xr_256, xr_257, xr_27, xr_3, xr_30, xr_31, xr_32, xr_33, xr_34, xr_35, xr_36, xr_37, xr_4, xr_43, xr_5, xr_61, xr_62, xr_64, xr_77, xr_91, xr_92, xr_93, xr_94, xr_95, xr_96, xr_98, af_0, af_1, xt_goto, xt_ib, xt_ic, xt_ic_ge, xt_ic_gt, xt_ic_le, xt_ic_ne, xt_if_eq, xt_if_lt, xt_if_ne, xt_ir, xt_nop, lA_74, lF_17, lF_18, lF_19, lF_8, lA_64, lA_65, lA_66, lA_67, lA_68, lA_69, lA_70, lA_71, lA_72, lA_73, lA_75, lA_62, xq_129_11_virtualc, xq_130_11_virtualc, xq_131_11_virtualc, xq_132_11_virtualc, xq_135_11_virtualc, xq_136_11_virtualc, xq_148_11_virtualc, xq_149_11_virtualc, xq_150_11_virtualc, xq_154_11_virtualc, xq_290_12_virtualm, xq_291_12_virtualm, xq_294_200_static, iN_add, iN_mul, iN_sub, iN_and, iN_or, iN_clr, iN_shl, iN_shr, tb_r1, b1_z, b1_or, b1_and, b1_or0, b1_or1, b1_0or, b1_t, b1_f, iN_lt, iN_inj, reduceIte, if_true, if_false, Nat.zero_add, Nat.add_zero, Bool.false_eq_true, Bool.true_eq_false, Nat.lt_irrefl, iN_az, not_true_eq_false, not_false_eq_true, Nat.reduceEqDiff, Nat.reduceLT, Nat.reduceAdd, Nat.reduceMul, Nat.reduceSub]
  · intro l hl ih M y9 y10 hI
    obtain ⟨N, x9, x10, p1, p2, e1⟩ := t_38 (xs := xs) (d := d) (ρ := ρ) (w := w) (E := E) (x4 := x4) (y5 := y5) (p6 := p6) (y9 := y9) (y10 := y10) O hTA hk hB hl hI hg
    obtain ⟨N2, z9, z10, q1, q2, e2⟩ := ih N x9 x10 p2
    refine ⟨N2, z9, z10, ⟨PB0_t p1.1 q1.1, q1.2.1.trans p1.2.1, q1.2.2.1.trans p1.2.2.1, q1.2.2.2.trans p1.2.2.2⟩, q2, ?_⟩
    rw [← e2, ← e1, eb_295_37]
    clear hTA hI ih p1 p2 q1 q2 e1 e2
    simp (disch := first | assumption | omega | exact st8_a (Nat.le_of_ble_eq_true rfl)) only [hl, kl_a, kl_d, kl_f, kl_i, kl_l, kl_n, kl_r, xr_1, xr_10, xr_11, xr_12, xr_13, xr_14, xr_15, xr_185, xr_186, xr_187, xr_188, xr_189, xr_2, xr_254, xr_255, xr_256, xr_257, xr_27, xr_3, xr_30, xr_31, xr_32, xr_33, xr_34, xr_35, xr_36, xr_37, xr_4, xr_43, xr_5, xr_61, xr_62, xr_64, xr_77, xr_91, xr_92, xr_93, xr_94, xr_95, xr_96, xr_98, af_0, af_1, xt_goto, xt_ib, xt_ic, xt_ic_ge, xt_ic_gt, xt_ic_le, xt_ic_ne, xt_if_eq, xt_if_lt, xt_if_ne, xt_ir, xt_nop, lA_74, lF_17, lF_18, lF_19, lF_8, lA_64, lA_65, lA_66, lA_67, lA_68, lA_69, lA_70, lA_71, lA_72, lA_73, lA_75, lA_62, xq_129_11_virtualc, xq_130_11_virtualc, xq_131_11_virtualc, xq_132_11_virtualc, xq_135_11_virtualc, xq_136_11_virtualc, xq_148_11_virtualc, xq_149_11_virtualc, xq_150_11_virtualc, xq_154_11_virtualc, xq_290_12_virtualm, xq_291_12_virtualm, xq_294_200_static, iN_add, iN_mul, iN_sub, iN_and, iN_or, iN_clr, iN_shl, iN_shr, tb_r1, b1_z, b1_or, b1_and, b1_or0, b1_or1, b1_0or, b1_t, b1_f, iN_lt, iN_inj, reduceIte, if_true, if_false, Nat.zero_add, Nat.add_zero, Bool.false_eq_true, Bool.true_eq_false, Nat.lt_irrefl, iN_az, not_true_eq_false, not_false_eq_true, Nat.reduceEqDiff, Nat.reduceLT, Nat.reduceAdd, Nat.reduceMul, Nat.reduceSub]
-- one table of the list
set_option maxRecDepth 100000 in
theorem t_1 (O : Ok σ) (hL4 : (σ 1 6) ≤ 4) (hT3 : (σ 1 4) ≤ 3) (hTA : TA σ n W B) (hk : k < n) (hI : IC σ M0 M) (hQ2 : TQ σ M W n B k g la fa) (hE : SZ E k) (hg : g ≤ k) : ∃ N g2 la2 fa2 E2 x8 x9 x10, IC σ M0 N ∧ TQ σ N W n B (k + 1) g2 la2 fa2 ∧ SZ E2 (k + 1) ∧ g2 ≤ k + 1 ∧ ev xs (d + 40) 295 1 ([.ref 0, .ref 63, .int (nI 1), .int (nI g), .int (nI la), .int (nI fa), .ref p6, .int (nI k), y8, y9, y10], [], HE σ M ρ n B w W E) = ev xs (d + 40) 295 1 ([.ref 0, .ref 63, .int (nI 1), .int (nI g2), .int (nI la2), .int (nI fa2), .ref p6, .int (nI (k + 1)), x8, x9, x10], [], HE σ N ρ n B w W E2) := by
  have hn := TA_n hTA
  have hk2 : k < 2000 := by omega
  have hBk : B k < 4294967296 := by
    rw [hTA.2.2.1 k hk]
    exact brk_lt O _ _
  by_cases hB : B k = 0
  · have hla : la = 4294967295 ∨ la < n := by
      rcases hQ2 with ⟨-, -, h, -⟩ | ⟨-, -, h, -, -⟩
      · exact .inl h
      · exact .inr (by have := h.1; omega)
    have hfa : fa = 4294967295 ∨ fa < n := by
      rcases hQ2 with ⟨-, -, -, h⟩ | ⟨-, -, -, h, -⟩
      · exact .inl h
      · exact .inr (by have := h.1; omega)
    obtain ⟨la2, hla2, e1⟩ := t_4 (xs := xs) (d := d) (M := M) (ρ := ρ) (w := w) (E := E) (y2 := .int (nI 1)) (x3 := nI g) (y5 := .int (nI fa)) (p6 := p6) (y8 := y8) (y9 := y9) (y10 := y10) O hTA hk hla
    obtain ⟨fa2, E2, hfa2, hE2, e2⟩ := t_10 (xs := xs) (d := d) (M := M) (ρ := ρ) (w := w) (y2 := .int (nI 1)) (x3 := nI g) (x4 := nI la) (p6 := p6) (y8 := y8) (y9 := y9) (y10 := y10) (la := la2) O hL4 hT3 hTA hk hfa hE
    obtain ⟨N, i1, i2, e3⟩ := t_16 (xs := xs) (d := d) (ρ := ρ) (w := w) (E := E2) (x4 := nI la2) (y5 := .int (nI fa)) (p6 := p6) (y8 := y8) (y9 := y9) (y10 := y10) (fb := fa2) O hTA hk hB hI hQ2
    obtain ⟨N2, x9, x10, q1, q2, e4⟩ := t_37 (xs := xs) (d := d) (M0 := M0) (ρ := ρ) (w := w) (E := E2) (x4 := nI la2) (y5 := .int (nI fa2)) (p6 := p6) (g := g + 1) O hTA hk hB (by omega) 0 (Nat.zero_le _) N y9 y10 i1
    refine ⟨N2, g + 1, la2, fa2, E2, .int (nI (σ 1 6)), x9, x10, q2, ?_, hE2, by omega, ?_⟩
    · have hlt : ∀ {F : Nat → Nat} {z z2 : Nat}, z2 = (if z = 4294967295 ∨ F k < F z then k else z) → ((∀ i, i < k → B i ≠ 0) ∧ z = 4294967295 ∨ z < k ∧ B z = 0 ∧ (∀ i, i < k → B i = 0 → F z ≤ F i) ∧ ∀ i, i < z → B i = 0 → F z < F i) → z2 < k + 1 ∧ B z2 = 0 ∧ (∀ i, i < k + 1 → B i = 0 → F z2 ≤ F i) ∧ ∀ i, i < z2 → B i = 0 → F z2 < F i := by
        intro F z z2 h1 h2
        by_cases c : z = 4294967295 ∨ F k < F z
        · rw [if_pos c] at h1
          subst h1
          refine ⟨Nat.lt_succ_self _, hB, fun i hi hb => ?_, fun i hi hb => ?_⟩
          · by_cases e : i = z2
            · rw [e]
              exact Nat.le_refl _
            · rcases h2 with ⟨h3, -⟩ | ⟨h3, h4, h5, -⟩
              · exact absurd hb (h3 i (by omega))
              · have := h5 i (by omega) hb
                omega
          · rcases h2 with ⟨h3, -⟩ | ⟨h3, h4, h5, -⟩
            · exact absurd hb (h3 i hi)
            · have := h5 i hi hb
              omega
        · rw [if_neg c] at h1
          subst h1
          rcases h2 with ⟨-, h3⟩ | ⟨h3, h4, h5, h6⟩
          · exact absurd (.inl h3) c
          · refine ⟨by omega, h4, fun i hi hb => ?_, h6⟩
            by_cases e : i = k
            · rw [e]
              omega
            · exact h5 i (by omega) hb
      refine .inr ⟨Nat.succ_pos _, by omega, hlt hla2 ?_, hlt hfa2 ?_, fun h12 => ⟨k, Nat.lt_succ_self _, hB, fun i h1 h2 => by omega, PK_b q1 (i2 (by omega))⟩⟩
      · rcases hQ2 with ⟨-, h1, h2, -⟩ | ⟨-, -, h, -, -⟩
        · exact .inl ⟨h1, h2⟩
        · exact .inr h
      · rcases hQ2 with ⟨-, h1, -, h2⟩ | ⟨-, -, -, h, -⟩
        · exact .inl ⟨h1, h2⟩
        · exact .inr h
    · rw [← e4]
      have e5 : ev xs (d + 40) 295 1 ([.ref 0, .ref 63, .int (nI 1), .int (nI g), .int (nI la), .int (nI fa), .ref p6, .int (nI k), y8, y9, y10], [], HE σ M ρ n B w W E) = ev xs (d + 40) 295 4 ([.ref 0, .ref 63, .int (nI 1), .int (nI g), .int (nI la), .int (nI fa), .ref p6, .int (nI k), y8, y9, y10], [], HE σ M ρ n B w W E) := by
        rw [eb_295_1]
        clear hTA hI hQ2 i1 i2 q1 q2 e1 e2 e3 e4
        simp (disch := first | assumption | omega | exact st8_a (Nat.le_of_ble_eq_true rfl)) only [hk, hB, eb_295_2, kl_a, kl_d, kl_f, kl_i, kl_l, kl_n, kl_r, xr_1, xr_10, xr_11, xr_12, xr_13, xr_14, xr_15, xr_185, xr_186, xr_187, xr_188, xr_189, xr_2, xr_254, xr_255, xr_256, xr_257, xr_27, xr_3, xr_30, xr_31, xr_32, xr_33, xr_34, xr_35, xr_36, xr_37, xr_4, xr_43, xr_5, xr_61, xr_62, xr_64, xr_77, xr_91, xr_92, xr_93, xr_94, xr_95, xr_96, xr_98, af_0, af_1, xt_goto, xt_ib, xt_ic, xt_ic_ge, xt_ic_gt, xt_ic_le, xt_ic_ne, xt_if_eq, xt_if_lt, xt_if_ne, xt_ir, xt_nop, lA_74, lF_17, lF_18, lF_19, lF_8, lA_64, lA_65, lA_66, lA_67, lA_68, lA_69, lA_70, lA_71, lA_72, lA_73, lA_75, lA_62, xq_129_11_virtualc, xq_130_11_virtualc, xq_131_11_virtualc, xq_132_11_virtualc, xq_135_11_virtualc, xq_136_11_virtualc, xq_148_11_virtualc, xq_149_11_virtualc, xq_150_11_virtualc, xq_154_11_virtualc, xq_290_12_virtualm, xq_291_12_virtualm, xq_294_200_static, iN_add, iN_mul, iN_sub, iN_and, iN_or, iN_clr, iN_shl, iN_shr, tb_r1, b1_z, b1_or, b1_and, b1_or0, b1_or1, b1_0or, b1_t, b1_f, iN_lt, iN_inj, reduceIte, if_true, if_false, Nat.zero_add, Nat.add_zero, Bool.false_eq_true, Bool.true_eq_false, Nat.lt_irrefl, iN_az, not_true_eq_false, not_false_eq_true, Nat.reduceEqDiff, Nat.reduceLT, Nat.reduceAdd, Nat.reduceMul, Nat.reduceSub]
      rw [e5, e1, e2, e3]
      clear hTA hI hQ2 i1 i2 q1 q2 e1 e2 e3 e4 e5
      simp (disch := first | assumption | omega | exact st8_a (Nat.le_of_ble_eq_true rfl)) only [eb_295_36, kl_a, kl_d, kl_f, kl_i, kl_l, kl_n, kl_r, xr_1, xr_10, xr_11, xr_12, xr_13, xr_14, xr_15, xr_185, xr_186, xr_187, xr_188, xr_189, xr_2, xr_254, xr_255, xr_256, xr_257, xr_27, xr_3, xr_30, xr_31, xr_32, xr_33, xr_34, xr_35, xr_36, xr_37, xr_4, xr_43, xr_5, xr_61, xr_62, xr_64, xr_77, xr_91, xr_92, xr_93, xr_94, xr_95, xr_96, xr_98, af_0, af_1, xt_goto, xt_ib, xt_ic, xt_ic_ge, xt_ic_gt, xt_ic_le, xt_ic_ne, xt_if_eq, xt_if_lt, xt_if_ne, xt_ir, xt_nop, lA_74, lF_17, lF_18, lF_19, lF_8, lA_64, lA_65, lA_66, lA_67, lA_68, lA_69, lA_70, lA_71, lA_72, lA_73, lA_75, lA_62, xq_129_11_virtualc, xq_130_11_virtualc, xq_131_11_virtualc, xq_132_11_virtualc, xq_135_11_virtualc, xq_136_11_virtualc, xq_148_11_virtualc, xq_149_11_virtualc, xq_150_11_virtualc, xq_154_11_virtualc, xq_290_12_virtualm, xq_291_12_virtualm, xq_294_200_static, iN_add, iN_mul, iN_sub, iN_and, iN_or, iN_clr, iN_shl, iN_shr, tb_r1, b1_z, b1_or, b1_and, b1_or0, b1_or1, b1_0or, b1_t, b1_f, iN_lt, iN_inj, reduceIte, if_true, if_false, Nat.zero_add, Nat.add_zero, Bool.false_eq_true, Bool.true_eq_false, Nat.lt_irrefl, iN_az, not_true_eq_false, not_false_eq_true, Nat.reduceEqDiff, Nat.reduceLT, Nat.reduceAdd, Nat.reduceMul, Nat.reduceSub]
  · refine ⟨M, g, la, fa, E, y8, y9, y10, hI, TQ_s hQ2 hB, SZ_m hE (Nat.le_succ _), by omega, ?_⟩
    rw [eb_295_1]
    clear hTA hI hQ2
    simp (disch := first | assumption | omega | exact st8_a (Nat.le_of_ble_eq_true rfl)) only [hk, hB, eb_295_2, eb_295_3, eb_295_55, kl_a, kl_d, kl_f, kl_i, kl_l, kl_n, kl_r, xr_1, xr_10, xr_11, xr_12, xr_13, xr_14, xr_15, xr_185, xr_186, xr_187, xr_188, xr_189, xr_2, xr_254, xr_255, xr_256, xr_257, xr_27, xr_3, xr_30, xr_31, xr_32, xr_33, xr_34, xr_35, xr_36, xr_37, xr_4, xr_43, xr_5, xr_61, xr_62, xr_64, xr_77, xr_91, xr_92, xr_93, xr_94, xr_95, xr_96, xr_98, af_0, af_1, xt_goto, xt_ib, xt_ic, xt_ic_ge, xt_ic_gt, xt_ic_le, xt_ic_ne, xt_if_eq, xt_if_lt, xt_if_ne, xt_ir, xt_nop, lA_74, lF_17, lF_18, lF_19, lF_8, lA_64, lA_65, lA_66, lA_67, lA_68, lA_69, lA_70, lA_71, lA_72, lA_73, lA_75, lA_62, xq_129_11_virtualc, xq_130_11_virtualc, xq_131_11_virtualc, xq_132_11_virtualc, xq_135_11_virtualc, xq_136_11_virtualc, xq_148_11_virtualc, xq_149_11_virtualc, xq_150_11_virtualc, xq_154_11_virtualc, xq_290_12_virtualm, xq_291_12_virtualm, xq_294_200_static, iN_add, iN_mul, iN_sub, iN_and, iN_or, iN_clr, iN_shl, iN_shr, tb_r1, b1_z, b1_or, b1_and, b1_or0, b1_or1, b1_0or, b1_t, b1_f, iN_lt, iN_inj, reduceIte, if_true, if_false, Nat.zero_add, Nat.add_zero, Bool.false_eq_true, Bool.true_eq_false, Nat.lt_irrefl, iN_az, not_true_eq_false, not_false_eq_true, Nat.reduceEqDiff, Nat.reduceLT, Nat.reduceAdd, Nat.reduceMul, Nat.reduceSub]
end Pe
