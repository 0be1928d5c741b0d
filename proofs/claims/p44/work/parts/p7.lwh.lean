/-! THE LAW: moves -/
/-- the present timetable is good -/
def GP (σ M : Nat → Nat → Nat) : Prop := M 12 0 = 1 ∧ M 12 1 = (σ 1 6) ∧ Gd σ (alr σ) (M 13) (M 14)
/-- the k-th table when a teacher is away on a day -/
abbrev NK (σ : Nat → Nat → Nat) (t y : Nat) (W : Nat → Nat → Nat) (k : Nat) : Prop := ctc σ (tsl (W k)) t &&& dm σ y = 0
abbrev DK (σ M : Nat → Nat → Nat) (W : Nat → Nat → Nat) (k : Nat) : Nat := dif (σ 1 6) (tsl (W k)) (trm (W k)) (M 13) (M 14)
def MV (σ M W : Nat → Nat → Nat) (B : Nat → Nat) (t y k ls wh : Nat) : Prop := (wh = 4294967295 ∧ ls = 4294967295 ∧ ∀ i, i < k → B i = 0 → ¬ NK σ t y W i) ∨ (wh < k ∧ B wh = 0 ∧ NK σ t y W wh ∧ ls = DK σ M W wh ∧ (∀ i, i < k → B i = 0 → NK σ t y W i → DK σ M W wh ≤ DK σ M W i) ∧ ∀ i, i < wh → B i = 0 → NK σ t y W i → DK σ M W wh < DK σ M W i)
/-- a table that rings have made: good, of its weight, not heavier -/
def RGs (σ : Nat → Nat → Nat) (w0 : Nat) (st : RT) : Prop := (∀ l, l < (σ 1 6) → st.2.1 l < (σ 1 2) ∧ st.2.2 l < (σ 1 5)) ∧ flt σ st.2.1 st.2.2 = 0 ∧ brk σ st.2.1 st.2.2 = 0 ∧ wt σ st.2.1 st.2.2 = st.1 ∧ st.1 ≤ w0
set_option maxRecDepth 100000 in
theorem fo_p {P : RT → Prop} {F : Nat → RT → RT} : ∀ c a st, (∀ l, a ≤ l → l < a + c → ∀ st, P st → P (F l st)) → P st → P (fo F c a st) := by
  intro c
  induction c with
  | zero => intro a st _ h; exact h
  | succ c ih =>
    intro a st h h2
    rw [fo]
    exact ih (a + 1) _ (fun l h3 h4 => h l (by omega) (by omega)) (h a (Nat.le_refl _) (by omega) st h2)
section Ph
variable {xs : List Int32} {d : Nat} {σ M M0 M1 N W : Nat → Nat → Nat} {ρ : Int32} {n : Nat} {B w : Nat → Nat} {E : ab_H} {l o u v q t i x y k c a b e j m ls wh f w0 : Nat} {s r s2 r2 g : Nat → Nat} {st : RT} {x3 x4 x5 x6 x7 x8 x9 : Int32} {y5 y6 y7 y8 y9 y10 y11 y12 y13 : Value}
set_option maxRecDepth 100000 in
theorem RW_g (hb : ∀ l, l < (σ 1 6) → s l < (σ 1 2) ∧ r l < (σ 1 5)) (hg : ∀ j, j < m → g j < (σ 1 6)) (h : RGs σ w0 st) : RGs σ w0 (RW σ s r g m st) := by
  unfold RW
  split
  · rename_i c
    obtain ⟨c1, c2, c3⟩ := c
    exact ⟨fun l hl => ⟨mvk_b (fun l hl => (hb l hl).1) hg m (Nat.le_refl _) l hl, mvk_b (fun l hl => (hb l hl).2) hg m (Nat.le_refl _) l hl⟩, c2, c3, rfl, Nat.le_trans (Nat.le_of_lt c1) h.2.2.2.2⟩
  · exact h
set_option maxRecDepth 100000 in
theorem RE_g (hb : ∀ l, l < (σ 1 6) → s l < (σ 1 2) ∧ r l < (σ 1 5)) : ∀ k i (g : Nat → Nat) st, (∀ j, j < i → g j < (σ 1 6)) → RGs σ w0 st → RGs σ w0 (RE σ s r k i g st) := by
  intro k
  induction k with
  | zero => intro i g st hg h; exact RW_g hb hg h
  | succ k ih =>
    intro i g st hg h
    rw [RE]
    refine fo_p _ _ _ (fun l h1 h2 st h3 => ?_) h
    split
    · refine ih (i + 1) _ _ (fun j hj => ?_) h3
      by_cases e : j = i
      · rw [e, u1_s]
        omega
      · rw [u1_n e]
        exact hg j (by omega)
    · exact h3
set_option maxRecDepth 100000 in
theorem RM_g (hb : ∀ l, l < (σ 1 6) → s l < (σ 1 2) ∧ r l < (σ 1 5)) (h : RGs σ w0 st) : RGs σ w0 (RM σ s r m st) := by
  unfold RM
  refine fo_p _ _ _ (fun l _ h2 st h3 => RE_g hb _ _ _ _ (fun j _ => ?_) h3) h
  show l < (σ 1 6)
  omega
set_option maxRecDepth 100000 in
theorem RO_g (hG : (∀ l, l < (σ 1 6) → s l < (σ 1 2) ∧ r l < (σ 1 5)) ∧ flt σ s r = 0 ∧ brk σ s r = 0) : RGs σ (wt σ s r) (RO σ s r) := by
  unfold RO
  exact RM_g hG.1 (RM_g hG.1 (RM_g hG.1 ⟨hG.1, hG.2.1, hG.2.2, rfl, Nat.le_refl _⟩))
set_option maxRecDepth 100000 in
theorem NB_iff (ht : t < 4294967295) : NB σ t y s ↔ ctc σ s t &&& dm σ y = 0 := by
  unfold NB
  constructor
  · rintro (h | h)
    · omega
    · refine z_tb.mpr fun i => ?_
      rw [Nat.testBit_and, ← Bool.not_eq_true, Bool.and_eq_true, ctc_tb]
      rintro ⟨⟨l, h1, h2, h3⟩, h4⟩
      have := z_tb.mp (h l h1 h2) i
      rw [Nat.testBit_and, h3, h4] at this
      cases this
  · intro h
    refine .inr fun l hl htl => z_tb.mpr fun i => ?_
    rw [Nat.testBit_and, ← Bool.not_eq_true, Bool.and_eq_true]
    rintro ⟨h1, h2⟩
    have := z_tb.mp h i
    rw [Nat.testBit_and, ctc_tb.mpr ⟨l, hl, htl, h1⟩, h2] at this
    cases this
set_option maxRecDepth 100000 in
theorem GP_w (h : GP σ M) : ∀ l, l < (σ 1 6) → M 13 l < (σ 1 2) ∧ M 14 l < (σ 1 5) := h.2.2.1
set_option maxRecDepth 100000 in
theorem MV_0 : MV σ M W B t y 0 4294967295 4294967295 := .inl ⟨rfl, rfl, fun i hi => absurd hi (Nat.not_lt_zero i)⟩
set_option maxRecDepth 100000 in
theorem MV_s (h : MV σ M W B t y k ls wh) (hk : B k ≠ 0 ∨ ¬ NK σ t y W k ∨ (wh ≠ 4294967295 ∧ ls ≤ DK σ M W k)) : MV σ M W B t y (k + 1) ls wh := by
  rcases h with ⟨h1, h2, h3⟩ | ⟨h1, h2, h3, h4, h5, h6⟩
  · refine .inl ⟨h1, h2, fun i hi hb => ?_⟩
    by_cases e : i = k
    · rw [e] at hb ⊢
      rcases hk with hk | hk | hk
      · exact absurd hb hk
      · exact hk
      · exact absurd h1 hk.1
    · exact h3 i (by omega) hb
  · refine .inr ⟨by omega, h2, h3, h4, fun i hi hb hn => ?_, h6⟩
    by_cases e : i = k
    · rw [e] at hb hn ⊢
      rcases hk with hk | hk | hk
      · exact absurd hb hk
      · exact absurd hn hk
      · rw [← h4]
        exact hk.2
    · exact h5 i (by omega) hb hn
set_option maxRecDepth 100000 in
theorem MV_t (h : MV σ M W B t y k ls wh) (hk9 : k < 2000) (hB : B k = 0) (hN : NK σ t y W k) (hk : wh = 4294967295 ∨ DK σ M W k < ls) : MV σ M W B t y (k + 1) (DK σ M W k) k := by
  refine .inr ⟨Nat.lt_succ_self k, hB, hN, rfl, fun i hi hb hn => ?_, fun i hi hb hn => ?_⟩
  · by_cases e : i = k
    · rw [e]
      exact Nat.le_refl _
    · rcases h with ⟨h1, h2, h3⟩ | ⟨h1, h2, h3, h4, h5, h6⟩
      · exact absurd hn (h3 i (by omega) hb)
      · have := h5 i (by omega) hb hn
        omega
  · rcases h with ⟨h1, h2, h3⟩ | ⟨h1, h2, h3, h4, h5, h6⟩
    · exact absurd hn (h3 i hi hb)
    · have := h5 i hi hb hn
      omega
-- the steps by next()
set_option maxRecDepth 100000 in
theorem m_3 (O : Ok σ) {v : Nat} (hv : v < 6) : ∀ k, k ≤ v → ∀ M y6, IC σ M0 M → GP σ M → ∃ N z6, IC σ M0 N ∧ GP σ N ∧ ev xs (d + 40) 297 3 ([.ref 0, .ref 63, .ref 62, .int (nI v), .int (nI 1), .int (nI k), y6, y7, y8, y9, y10, y11, y12, y13], [], HE σ M ρ n B w W E) = ev xs (d + 40) 297 9 ([.ref 0, .ref 63, .ref 62, .int (nI v), .int (nI 1), .int (nI v), z6, y7, y8, y9, y10, y11, y12, y13], [], HE σ N ρ n B w W E) := by
  refine lp v ?_ ?_
  · intro M y6 hI hG
    refine ⟨M, y6, hI, hG, ?_⟩
    rw [eb_297_3]
    clear hI hG
    simp (disch := first | assumption | omega | exact st8_a (Nat.le_of_ble_eq_true rfl)) only [eb_297_7, kl_a, kl_d, kl_f, kl_i, kl_l, kl_n, kl_r, xr_1, xr_10, xr_11, xr_12, xr_13, xr_14, xr_15, xr_151, xr_152, xr_153, xr_154, xr_155, xr_156, xr_16, xr_17, xr_18, xr_19, xr_2, xr_20, xr_220, xr_221, xr_27, xr_3, xr_32, xr_33, xr_34, xr_35, xr_36, xr_37, xr_38, xr_39, xr_4, xr_41, xr_44, xr_48, xr_5, xr_55, xr_56, xr_57, xr_58, xr_61, xr_62, xr_64, xr_77, xr_91, xr_92, xr_93, xr_94, xr_95, xr_96, af_0, af_1, xt_goto, xt_ib, xt_ic, xt_ic_ge, xt_ic_ne, xt_if_eq, xt_if_lt, xt_if_ne, xt_ir, xt_nop, lA_74, lF_0, lF_1, lF_17, lF_18, lF_19, lF_7, lF_8, lA_64, lA_65, lA_66, lA_67, lA_68, lA_69, lA_70, lA_71, lA_72, lA_73, lA_75, lA_62, xq_131_11_virtualc, xq_132_11_virtualc, xq_134_11_virtualc, xq_135_11_virtualc, xq_136_11_virtualc, xq_137_11_virtualc, xq_138_11_virtualc, xq_148_11_virtualc, xq_151_11_virtualc, xq_152_11_virtualc, xq_153_11_virtualc, xq_285_12_virtualm, xq_292_200_static, xq_294_200_static, iN_add, iN_mul, iN_sub, iN_and, iN_or, iN_clr, iN_shl, iN_shr, tb_r1, b1_z, b1_or, b1_and, b1_or0, b1_or1, b1_0or, b1_t, b1_f, iN_lt, iN_inj, reduceIte, if_true, if_false, Nat.zero_add, Nat.add_zero, Bool.false_eq_true, Bool.true_eq_false, Nat.lt_irrefl, iN_az, not_true_eq_false, not_false_eq_true, Nat.reduceEqDiff, Nat.reduceLT, Nat.reduceAdd, Nat.reduceMul, Nat.reduceSub]
  · intro k hk ih M y6 hI hG
    obtain ⟨N, b, e1, p1, p2, p3, p4⟩ := s_132 (xs := xs) (d := d + 14) (M := M) (R := LR ρ σ n (TSS n) B ((oI (ar (σ 1 6) w) :: RWS σ n W) ++ E)) O hI.1 hG.1 (GP_w hG)
    have hGN : GP σ N := by
      cases b
      · obtain ⟨a1, a2, a3, -⟩ := p3 rfl
        unfold GP
        rw [a1, a2, a3]
        exact hG
      · obtain ⟨a1, a2, a3, -, -⟩ := p4 rfl
        exact ⟨a1, a2, a3⟩
    have i1 : IC σ M0 N := ⟨p2, PB0_t hI.2.1 p1, .inr ⟨hGN.1, hGN.2.1, GP_w hGN⟩⟩
    obtain ⟨N2, z6, i2, g2, e2⟩ := ih N (.int (nI (b1 b))) i1 hGN
    refine ⟨N2, z6, i2, g2, ?_⟩
    rw [← e2, eb_297_3]
    clear hI hG p1 p2 p3 p4 hGN i1 i2 g2 e2 ih
    simp (disch := first | assumption | omega | exact st8_a (Nat.le_of_ble_eq_true rfl)) only [hk, e1, eb_297_4, eb_297_5, eb_297_6, kl_a, kl_d, kl_f, kl_i, kl_l, kl_n, kl_r, xr_1, xr_10, xr_11, xr_12, xr_13, xr_14, xr_15, xr_151, xr_152, xr_153, xr_154, xr_155, xr_156, xr_16, xr_17, xr_18, xr_19, xr_2, xr_20, xr_220, xr_221, xr_27, xr_3, xr_32, xr_33, xr_34, xr_35, xr_36, xr_37, xr_38, xr_39, xr_4, xr_41, xr_44, xr_48, xr_5, xr_55, xr_56, xr_57, xr_58, xr_61, xr_62, xr_64, xr_77, xr_91, xr_92, xr_93, xr_94, xr_95, xr_96, af_0, af_1, xt_goto, xt_ib, xt_ic, xt_ic_ge, xt_ic_ne, xt_if_eq, xt_if_lt, xt_if_ne, xt_ir, xt_nop, lA_74, lF_0, lF_1, lF_17, lF_18, lF_19, lF_7, lF_8, lA_64, lA_65, lA_66, lA_67, lA_68, lA_69, lA_70, lA_71, lA_72, lA_73, lA_75, lA_62, xq_131_11_virtualc, xq_132_11_virtualc, xq_134_11_virtualc, xq_135_11_virtualc, xq_136_11_virtualc, xq_137_11_virtualc, xq_138_11_virtualc, xq_148_11_virtualc, xq_151_11_virtualc, xq_152_11_virtualc, xq_153_11_virtualc, xq_285_12_virtualm, xq_292_200_static, xq_294_200_static, iN_add, iN_mul, iN_sub, iN_and, iN_or, iN_clr, iN_shl, iN_shr, tb_r1, b1_z, b1_or, b1_and, b1_or0, b1_or1, b1_0or, b1_t, b1_f, iN_lt, iN_inj, reduceIte, if_true, if_false, Nat.zero_add, Nat.add_zero, Bool.false_eq_true, Bool.true_eq_false, Nat.lt_irrefl, iN_az, not_true_eq_false, not_false_eq_true, Nat.reduceEqDiff, Nat.reduceLT, Nat.reduceAdd, Nat.reduceMul, Nat.reduceSub]
-- how many lessons differ
set_option maxRecDepth 100000 in
theorem m_18 (O : Ok σ) (hTA : TA σ n W B) (hk : k < n) (hG : GP σ M) : ∀ l, l ≤ (σ 1 6) → ev xs (d + 40) 297 18 ([.ref 0, .ref 63, .ref 62, .int x3, .int x4, .int x5, .int x6, .int x7, .int x8, .int (nI k), .int x9, .int (nI (sm l fun l => b1 (decide (W k l / 10 ≠ M 13 l) || decide (W k l % 10 ≠ M 14 l)))), .int (nI l), y13], [], HE σ M ρ n B w W E) = ev xs (d + 40) 297 24 ([.ref 0, .ref 63, .ref 62, .int x3, .int x4, .int x5, .int x6, .int x7, .int x8, .int (nI k), .int x9, .int (nI (DK σ M W k)), .int (nI (σ 1 6)), y13], [], HE σ M ρ n B w W E) := by
  obtain ⟨hD1, hD2, hH1, hH2, hS, hC, hT, hR, hL, hQ⟩ := Ok_b O
  have hn := TA_n hTA
  have hk2 : k < 2000 := by omega
  refine lp (σ 1 6) ?_ ?_
  · rw [eb_297_18]
    clear hTA hG
    simp (disch := first | assumption | omega | exact st8_a (Nat.le_of_ble_eq_true rfl)) only [kl_a, kl_d, kl_f, kl_i, kl_l, kl_n, kl_r, xr_1, xr_10, xr_11, xr_12, xr_13, xr_14, xr_15, xr_151, xr_152, xr_153, xr_154, xr_155, xr_156, xr_16, xr_17, xr_18, xr_19, xr_2, xr_20, xr_220, xr_221, xr_27, xr_3, xr_32, xr_33, xr_34, xr_35, xr_36, xr_37, xr_38, xr_39, xr_4, xr_41, xr_44, xr_48, xr_5, xr_55, xr_56, xr_57, xr_58, xr_61, xr_62, xr_64, xr_77, xr_91, xr_92, xr_93, xr_94, xr_95, xr_96, af_0, af_1, xt_goto, xt_ib, xt_ic, xt_ic_ge, xt_ic_ne, xt_if_eq, xt_if_lt, xt_if_ne, xt_ir, xt_nop, lA_74, lF_0, lF_1, lF_17, lF_18, lF_19, lF_7, lF_8, lA_64, lA_65, lA_66, lA_67, lA_68, lA_69, lA_70, lA_71, lA_72, lA_73, lA_75, lA_62, xq_131_11_virtualc, xq_132_11_virtualc, xq_134_11_virtualc, xq_135_11_virtualc, xq_136_11_virtualc, xq_137_11_virtualc, xq_138_11_virtualc, xq_148_11_virtualc, xq_151_11_virtualc, xq_152_11_virtualc, xq_153_11_virtualc, xq_285_12_virtualm, xq_292_200_static, xq_294_200_static, iN_add, iN_mul, iN_sub, iN_and, iN_or, iN_clr, iN_shl, iN_shr, tb_r1, b1_z, b1_or, b1_and, b1_or0, b1_or1, b1_0or, b1_t, b1_f, iN_lt, iN_inj, reduceIte, if_true, if_false, Nat.zero_add, Nat.add_zero, Bool.false_eq_true, Bool.true_eq_false, Nat.lt_irrefl, iN_az, not_true_eq_false, not_false_eq_true, Nat.reduceEqDiff, Nat.reduceLT, Nat.reduceAdd, Nat.reduceMul, Nat.reduceSub]
    rfl
  · intro l hl ih
    have e1 := s_134 (xs := xs) (d := d + 38) (σ := σ) (M := M) (R := LR ρ σ n (TSS n) B ((oI (ar (σ 1 6) w) :: RWS σ n W) ++ E)) O hl hG.1
    obtain ⟨b1', b2'⟩ := GP_w hG l hl
    have v1 := WB_v O (TA_w hTA hk) hl
    have v2 : 10 * M 13 l + M 14 l < 1000 := by omega
    have hs := sm_le (n := l) (c := 1) (f := fun l => b1 (decide (W k l / 10 ≠ M 13 l) || decide (W k l % 10 ≠ M 14 l))) fun i _ => Nat.le_of_lt_succ (b1_lt _)
    rw [sm] at ih
    rw [eb_297_18]
    by_cases c : W k l = 10 * M 13 l + M 14 l
    · rw [decide_eq_false (p := W k l / 10 ≠ M 13 l) (by omega), decide_eq_false (p := W k l % 10 ≠ M 14 l) (by omega), Bool.or_false, b1_f, Nat.add_zero] at ih
      rw [← ih]
      clear hTA hG ih hs
      simp (disch := first | assumption | omega | exact st8_a (Nat.le_of_ble_eq_true rfl)) only [hl, lA_74 (TSS_get hk hk2), q_ia (TBr hk), e1, eq_true c, eb_297_19, eb_297_20, eb_297_21, eb_297_23, kl_a, kl_d, kl_f, kl_i, kl_l, kl_n, kl_r, xr_1, xr_10, xr_11, xr_12, xr_13, xr_14, xr_15, xr_151, xr_152, xr_153, xr_154, xr_155, xr_156, xr_16, xr_17, xr_18, xr_19, xr_2, xr_20, xr_220, xr_221, xr_27, xr_3, xr_32, xr_33, xr_34, xr_35, xr_36, xr_37, xr_38, xr_39, xr_4, xr_41, xr_44, xr_48, xr_5, xr_55, xr_56, xr_57, xr_58, xr_61, xr_62, xr_64, xr_77, xr_91, xr_92, xr_93, xr_94, xr_95, xr_96, af_0, af_1, xt_goto, xt_ib, xt_ic, xt_ic_ge, xt_ic_ne, xt_if_eq, xt_if_lt, xt_if_ne, xt_ir, xt_nop, lA_74, lF_0, lF_1, lF_17, lF_18, lF_19, lF_7, lF_8, lA_64, lA_65, lA_66, lA_67, lA_68, lA_69, lA_70, lA_71, lA_72, lA_73, lA_75, lA_62, xq_131_11_virtualc, xq_132_11_virtualc, xq_134_11_virtualc, xq_135_11_virtualc, xq_136_11_virtualc, xq_137_11_virtualc, xq_138_11_virtualc, xq_148_11_virtualc, xq_151_11_virtualc, xq_152_11_virtualc, xq_153_11_virtualc, xq_285_12_virtualm, xq_292_200_static, xq_294_200_static, iN_add, iN_mul, iN_sub, iN_and, iN_or, iN_clr, iN_shl, iN_shr, tb_r1, b1_z, b1_or, b1_and, b1_or0, b1_or1, b1_0or, b1_t, b1_f, iN_lt, iN_inj, reduceIte, if_true, if_false, Nat.zero_add, Nat.add_zero, Bool.false_eq_true, Bool.true_eq_false, Nat.lt_irrefl, iN_az, not_true_eq_false, not_false_eq_true, Nat.reduceEqDiff, Nat.reduceLT, Nat.reduceAdd, Nat.reduceMul, Nat.reduceSub]
    · have h1 : (decide (W k l / 10 ≠ M 13 l) || decide (W k l % 10 ≠ M 14 l)) = true := by
        by_cases c2 : W k l / 10 = M 13 l
        · rw [decide_eq_true (p := W k l % 10 ≠ M 14 l) (by omega), Bool.or_true]
        · rw [decide_eq_true c2, Bool.true_or]
      rw [h1, b1_t] at ih
      rw [← ih]
      have hs2 : sm l (fun l => b1 (decide (W k l / 10 ≠ M 13 l) || decide (W k l % 10 ≠ M 14 l))) < 1000 := by omega
      clear hTA hG ih hs h1
      simp (disch := first | assumption | omega | exact st8_a (Nat.le_of_ble_eq_true rfl)) only [hl, lA_74 (TSS_get hk hk2), q_ia (TBr hk), e1, c, eb_297_19, eb_297_20, eb_297_22, eb_297_23, kl_a, kl_d, kl_f, kl_i, kl_l, kl_n, kl_r, xr_1, xr_10, xr_11, xr_12, xr_13, xr_14, xr_15, xr_151, xr_152, xr_153, xr_154, xr_155, xr_156, xr_16, xr_17, xr_18, xr_19, xr_2, xr_20, xr_220, xr_221, xr_27, xr_3, xr_32, xr_33, xr_34, xr_35, xr_36, xr_37, xr_38, xr_39, xr_4, xr_41, xr_44, xr_48, xr_5, xr_55, xr_56, xr_57, xr_58, xr_61, xr_62, xr_64, xr_77, xr_91, xr_92, xr_93, xr_94, xr_95, xr_96, af_0, af_1, xt_goto, xt_ib, xt_ic, xt_ic_ge, xt_ic_ne, xt_if_eq, xt_if_lt, xt_if_ne, xt_ir, xt_nop, lA_74, lF_0, lF_1, lF_17, lF_18, lF_19, lF_7, lF_8, lA_64, lA_65, lA_66, lA_67, lA_68, lA_69, lA_70, lA_71, lA_72, lA_73, lA_75, lA_62, xq_131_11_virtualc, xq_132_11_virtualc, xq_134_11_virtualc, xq_135_11_virtualc, xq_136_11_virtualc, xq_137_11_virtualc, xq_138_11_virtualc, xq_148_11_virtualc, xq_151_11_virtualc, xq_152_11_virtualc, xq_153_11_virtualc, xq_285_12_virtualm, xq_292_200_static, xq_294_200_static, iN_add, iN_mul, iN_sub, iN_and, iN_or, iN_clr, iN_shl, iN_shr, tb_r1, b1_z, b1_or, b1_and, b1_or0, b1_or1, b1_0or, b1_t, b1_f, iN_lt, iN_inj, reduceIte, if_true, if_false, Nat.zero_add, Nat.add_zero, Bool.false_eq_true, Bool.true_eq_false, Nat.lt_irrefl, iN_az, not_true_eq_false, not_false_eq_true, Nat.reduceEqDiff, Nat.reduceLT, Nat.reduceAdd, Nat.reduceMul, Nat.reduceSub]
set_option maxRecDepth 100000 in
theorem dif_6 (O : Ok σ) : dif (σ 1 6) s r s2 r2 ≤ 6 := by
  obtain ⟨hD1, hD2, hH1, hH2, hS, hC, hT, hR, hL, hQ⟩ := Ok_b O
  have := sm_le (n := (σ 1 6)) (c := 1) (f := fun l => b1 (decide (s l ≠ s2 l) || decide (r l ≠ r2 l))) fun i _ => Nat.le_of_lt_succ (b1_lt _)
  unfold dif
  omega
-- the nearest table in which the teacher is away
set_option maxRecDepth 100000 in
theorem m_12 (O : Ok σ) (hTA : TA σ n W B) (hG : GP σ M) (ht : t < (σ 1 4)) (hy : y < (σ 1 0)) : ∀ k, k ≤ n → ∀ ls wh y10 y11 y12, MV σ M W B t y k ls wh → ∃ l2 w2 z10 z11 z12, MV σ M W B t y n l2 w2 ∧ ev xs (d + 40) 297 12 ([.ref 0, .ref 63, .ref 62, .int x3, .int x4, .int (nI t), .int (nI y), .int (nI ls), .int (nI wh), .int (nI k), y10, y11, y12, y13], [], HE σ M ρ n B w W E) = ev xs (d + 40) 297 28 ([.ref 0, .ref 63, .ref 62, .int x3, .int x4, .int (nI t), .int (nI y), .int (nI l2), .int (nI w2), .int (nI n), z10, z11, z12, y13], [], HE σ M ρ n B w W E) := by
  obtain ⟨hD1, hD2, hH1, hH2, hS, hC, hT, hR, hL, hQ⟩ := Ok_b O
  have hn := TA_n hTA
  refine lp n ?_ ?_
  · intro ls wh y10 y11 y12 h
    refine ⟨ls, wh, y10, y11, y12, h, ?_⟩
    rw [eb_297_12]
    clear hTA hG h
    simp (disch := first | assumption | omega | exact st8_a (Nat.le_of_ble_eq_true rfl)) only [kl_a, kl_d, kl_f, kl_i, kl_l, kl_n, kl_r, xr_1, xr_10, xr_11, xr_12, xr_13, xr_14, xr_15, xr_151, xr_152, xr_153, xr_154, xr_155, xr_156, xr_16, xr_17, xr_18, xr_19, xr_2, xr_20, xr_220, xr_221, xr_27, xr_3, xr_32, xr_33, xr_34, xr_35, xr_36, xr_37, xr_38, xr_39, xr_4, xr_41, xr_44, xr_48, xr_5, xr_55, xr_56, xr_57, xr_58, xr_61, xr_62, xr_64, xr_77, xr_91, xr_92, xr_93, xr_94, xr_95, xr_96, af_0, af_1, xt_goto, xt_ib, xt_ic, xt_ic_ge, xt_ic_ne, xt_if_eq, xt_if_lt, xt_if_ne, xt_ir, xt_nop, lA_74, lF_0, lF_1, lF_17, lF_18, lF_19, lF_7, lF_8, lA_64, lA_65, lA_66, lA_67, lA_68, lA_69, lA_70, lA_71, lA_72, lA_73, lA_75, lA_62, xq_131_11_virtualc, xq_132_11_virtualc, xq_134_11_virtualc, xq_135_11_virtualc, xq_136_11_virtualc, xq_137_11_virtualc, xq_138_11_virtualc, xq_148_11_virtualc, xq_151_11_virtualc, xq_152_11_virtualc, xq_153_11_virtualc, xq_285_12_virtualm, xq_292_200_static, xq_294_200_static, iN_add, iN_mul, iN_sub, iN_and, iN_or, iN_clr, iN_shl, iN_shr, tb_r1, b1_z, b1_or, b1_and, b1_or0, b1_or1, b1_0or, b1_t, b1_f, iN_lt, iN_inj, reduceIte, if_true, if_false, Nat.zero_add, Nat.add_zero, Bool.false_eq_true, Bool.true_eq_false, Nat.lt_irrefl, iN_az, not_true_eq_false, not_false_eq_true, Nat.reduceEqDiff, Nat.reduceLT, Nat.reduceAdd, Nat.reduceMul, Nat.reduceSub]
  · intro k hk ih ls wh y10 y11 y12 h
    have hk2 : k < 2000 := by omega
    have e1 := p_285 (xs := xs) (d := d + 37) (M := M) (ρ := ρ) (N := n) (Ts := TSS n) (B := B) (Q := (oI (ar (σ 1 6) w) :: RWS σ n W) ++ E) (p := 77 + k) (n := (σ 1 6)) (w := W k) (t := t) O (TBr hk) hL (Nat.le_refl _) (TA_w hTA hk) (by omega)
    have ec : ctc σ (tsl (W k)) t < 64 := ctc_lt O (fun l hl => (TA_w hTA hk l hl).1) t
    obtain ⟨-, f1, f2, -, -⟩ := dm_sh O hy ec
    have h6 : y * (σ 1 1) < 32 := by
      have : y = 0 ∨ y = 1 := by omega
      rcases this with rfl | rfl <;> omega
    have h7 := one_shl (σ 1 1)
    have hBk : B k < 4294967296 := by
      rw [hTA.2.2.1 k hk]
      exact brk_lt O _ _
    have hls : ls = 4294967295 ∨ ls ≤ 6 := by
      rcases h with ⟨-, h, -⟩ | ⟨-, -, -, h, -⟩
      · exact .inl h
      · exact .inr (by rw [h]; exact dif_6 O)
    have hwh : wh = 4294967295 ∨ wh < 2000 := by
      rcases h with ⟨h, -⟩ | ⟨h, -⟩
      · exact .inl h
      · exact .inr (by omega)
    have hlw : wh ≠ 4294967295 → ls ≤ 6 := fun z => by
      rcases h with ⟨h, -⟩ | ⟨-, -, -, h, -⟩
      · exact absurd h z
      · rw [h]; exact dif_6 O
    rw [eb_297_12]
    by_cases cB : B k = 0
    · by_cases cN : NK σ t y W k
      · have f3 := f1.mpr cN
        have hD6 : DK σ M W k ≤ 6 := dif_6 O
        have e2 := m_18 (xs := xs) (d := d) (M := M) (ρ := ρ) (w := w) (E := E) (x3 := x3) (x4 := x4) (x5 := nI t) (x6 := nI y) (x7 := nI ls) (x8 := nI wh) (x9 := nI 0) (y13 := y13) O hTA hk hG 0 (Nat.zero_le _)
        have st : ev xs (d + 40) 297 13 ([.ref 0, .ref 63, .ref 62, .int x3, .int x4, .int (nI t), .int (nI y), .int (nI ls), .int (nI wh), .int (nI k), y10, y11, y12, y13], [], HE σ M ρ n B w W E) = ev xs (d + 40) 297 24 ([.ref 0, .ref 63, .ref 62, .int x3, .int x4, .int (nI t), .int (nI y), .int (nI ls), .int (nI wh), .int (nI k), .int (nI 0), .int (nI (DK σ M W k)), .int (nI (σ 1 6)), y13], [], HE σ M ρ n B w W E) := by
          rw [← e2]
          clear hTA hG h ih f1 e2 hls hwh hlw cN
          simp (disch := first | assumption | omega | exact st8_a (Nat.le_of_ble_eq_true rfl)) only [lA_74 (TSS_get hk hk2), e1, f3, cB, eb_297_13, eb_297_14, eb_297_15, eb_297_17, kl_a, kl_d, kl_f, kl_i, kl_l, kl_n, kl_r, xr_1, xr_10, xr_11, xr_12, xr_13, xr_14, xr_15, xr_151, xr_152, xr_153, xr_154, xr_155, xr_156, xr_16, xr_17, xr_18, xr_19, xr_2, xr_20, xr_220, xr_221, xr_27, xr_3, xr_32, xr_33, xr_34, xr_35, xr_36, xr_37, xr_38, xr_39, xr_4, xr_41, xr_44, xr_48, xr_5, xr_55, xr_56, xr_57, xr_58, xr_61, xr_62, xr_64, xr_77, xr_91, xr_92, xr_93, xr_94, xr_95, xr_96, af_0, af_1, xt_goto, xt_ib, xt_ic, xt_ic_ge, xt_ic_ne, xt_if_eq, xt_if_lt, xt_if_ne, xt_ir, xt_nop, lA_74, lF_0, lF_1, lF_17, lF_18, lF_19, lF_7, lF_8, lA_64, lA_65, lA_66, lA_67, lA_68, lA_69, lA_70, lA_71, lA_72, lA_73, lA_75, lA_62, xq_131_11_virtualc, xq_132_11_virtualc, xq_134_11_virtualc, xq_135_11_virtualc, xq_136_11_virtualc, xq_137_11_virtualc, xq_138_11_virtualc, xq_148_11_virtualc, xq_151_11_virtualc, xq_152_11_virtualc, xq_153_11_virtualc, xq_285_12_virtualm, xq_292_200_static, xq_294_200_static, iN_add, iN_mul, iN_sub, iN_and, iN_or, iN_clr, iN_shl, iN_shr, tb_r1, b1_z, b1_or, b1_and, b1_or0, b1_or1, b1_0or, b1_t, b1_f, iN_lt, iN_inj, reduceIte, if_true, if_false, Nat.zero_add, Nat.add_zero, Bool.false_eq_true, Bool.true_eq_false, Nat.lt_irrefl, iN_az, not_true_eq_false, not_false_eq_true, Nat.reduceEqDiff, Nat.reduceLT, Nat.reduceAdd, Nat.reduceMul, Nat.reduceSub]
          rfl
        by_cases cw : wh = 4294967295
        · obtain ⟨l2, w2, z10, z11, z12, q1, e3⟩ := ih (DK σ M W k) k (.int (nI 0)) (.int (nI (DK σ M W k))) (.int (nI (σ 1 6))) (MV_t h hk2 cB cN (.inl cw))
          refine ⟨l2, w2, z10, z11, z12, q1, ?_⟩
          rw [← e3]
          clear hTA hG h ih f1 e2 hls hwh hlw cN q1 e3
          rw [cw] at st ⊢
          simp (disch := first | assumption | omega | exact st8_a (Nat.le_of_ble_eq_true rfl)) only [hk, st, kl_a, kl_d, kl_f, kl_i, kl_l, kl_n, kl_r, xr_1, xr_10, xr_11, xr_12, xr_13, xr_14, xr_15, xr_151, xr_152, xr_153, xr_154, xr_155, xr_156, xr_16, xr_17, xr_18, xr_19, xr_2, xr_20, xr_220, xr_221, xr_27, xr_3, xr_32, xr_33, xr_34, xr_35, xr_36, xr_37, xr_38, xr_39, xr_4, xr_41, xr_44, xr_48, xr_5, xr_55, xr_56, xr_57, xr_58, xr_61, xr_62, xr_64, xr_77, xr_91, xr_92, xr_93, xr_94, xr_95, xr_96, af_0, af_1, xt_goto, xt_ib, xt_ic, xt_ic_ge, xt_ic_ne, xt_if_eq, xt_if_lt, xt_if_ne, xt_ir, xt_nop, lA_74, lF_0, lF_1, lF_17, lF_18, lF_19, lF_7, lF_8, lA_64, lA_65, lA_66, lA_67, lA_68, lA_69, lA_70, lA_71, lA_72, lA_73, lA_75, lA_62, xq_131_11_virtualc, xq_132_11_virtualc, xq_134_11_virtualc, xq_135_11_virtualc, xq_136_11_virtualc, xq_137_11_virtualc, xq_138_11_virtualc, xq_148_11_virtualc, xq_151_11_virtualc, xq_152_11_virtualc, xq_153_11_virtualc, xq_285_12_virtualm, xq_292_200_static, xq_294_200_static, iN_add, iN_mul, iN_sub, iN_and, iN_or, iN_clr, iN_shl, iN_shr, tb_r1, b1_z, b1_or, b1_and, b1_or0, b1_or1, b1_0or, b1_t, b1_f, iN_lt, iN_inj, reduceIte, if_true, if_false, Nat.zero_add, Nat.add_zero, Bool.false_eq_true, Bool.true_eq_false, Nat.lt_irrefl, iN_az, not_true_eq_false, not_false_eq_true, Nat.reduceEqDiff, Nat.reduceLT, Nat.reduceAdd, Nat.reduceMul, Nat.reduceSub]
          simp (disch := first | assumption | omega | exact st8_a (Nat.le_of_ble_eq_true rfl)) only [ng_1, eb_297_24, eb_297_26, eb_297_27, kl_a, kl_d, kl_f, kl_i, kl_l, kl_n, kl_r, xr_1, xr_10, xr_11, xr_12, xr_13, xr_14, xr_15, xr_151, xr_152, xr_153, xr_154, xr_155, xr_156, xr_16, xr_17, xr_18, xr_19, xr_2, xr_20, xr_220, xr_221, xr_27, xr_3, xr_32, xr_33, xr_34, xr_35, xr_36, xr_37, xr_38, xr_39, xr_4, xr_41, xr_44, xr_48, xr_5, xr_55, xr_56, xr_57, xr_58, xr_61, xr_62, xr_64, xr_77, xr_91, xr_92, xr_93, xr_94, xr_95, xr_96, af_0, af_1, xt_goto, xt_ib, xt_ic, xt_ic_ge, xt_ic_ne, xt_if_eq, xt_if_lt, xt_if_ne, xt_ir, xt_nop, lA_74, lF_0, lF_1, lF_17, lF_18, lF_19, lF_7, lF_8, lA_64, lA_65, lA_66, lA_67, lA_68, lA_69, lA_70, lA_71, lA_72, lA_73, lA_75, lA_62, xq_131_11_virtualc, xq_132_11_virtualc, xq_134_11_virtualc, xq_135_11_virtualc, xq_136_11_virtualc, xq_137_11_virtualc, xq_138_11_virtualc, xq_148_11_virtualc, xq_151_11_virtualc, xq_152_11_virtualc, xq_153_11_virtualc, xq_285_12_virtualm, xq_292_200_static, xq_294_200_static, iN_add, iN_mul, iN_sub, iN_and, iN_or, iN_clr, iN_shl, iN_shr, tb_r1, b1_z, b1_or, b1_and, b1_or0, b1_or1, b1_0or, b1_t, b1_f, iN_lt, iN_inj, reduceIte, if_true, if_false, Nat.zero_add, Nat.add_zero, Bool.false_eq_true, Bool.true_eq_false, Nat.lt_irrefl, iN_az, not_true_eq_false, not_false_eq_true, Nat.reduceEqDiff, Nat.reduceLT, Nat.reduceAdd, Nat.reduceMul, Nat.reduceSub]
        · have hw2 : wh < 2000 := by omega
          have hl2 := hlw cw
          by_cases cd : DK σ M W k < ls
          · obtain ⟨l2, w2, z10, z11, z12, q1, e3⟩ := ih (DK σ M W k) k (.int (nI 0)) (.int (nI (DK σ M W k))) (.int (nI (σ 1 6))) (MV_t h hk2 cB cN (.inr cd))
            refine ⟨l2, w2, z10, z11, z12, q1, ?_⟩
            rw [← e3]
            clear hTA hG h ih f1 e2 hls hwh hlw cN q1 e3
            simp (disch := first | assumption | omega | exact st8_a (Nat.le_of_ble_eq_true rfl)) only [hk, st, kl_a, kl_d, kl_f, kl_i, kl_l, kl_n, kl_r, xr_1, xr_10, xr_11, xr_12, xr_13, xr_14, xr_15, xr_151, xr_152, xr_153, xr_154, xr_155, xr_156, xr_16, xr_17, xr_18, xr_19, xr_2, xr_20, xr_220, xr_221, xr_27, xr_3, xr_32, xr_33, xr_34, xr_35, xr_36, xr_37, xr_38, xr_39, xr_4, xr_41, xr_44, xr_48, xr_5, xr_55, xr_56, xr_57, xr_58, xr_61, xr_62, xr_64, xr_77, xr_91, xr_92, xr_93, xr_94, xr_95, xr_96, af_0, af_1, xt_goto, xt_ib, xt_ic, xt_ic_ge, xt_ic_ne, xt_if_eq, xt_if_lt, xt_if_ne, xt_ir, xt_nop, lA_74, lF_0, lF_1, lF_17, lF_18, lF_19, lF_7, lF_8, lA_64, lA_65, lA_66, lA_67, lA_68, lA_69, lA_70, lA_71, lA_72, lA_73, lA_75, lA_62, xq_131_11_virtualc, xq_132_11_virtualc, xq_134_11_virtualc, xq_135_11_virtualc, xq_136_11_virtualc, xq_137_11_virtualc, xq_138_11_virtualc, xq_148_11_virtualc, xq_151_11_virtualc, xq_152_11_virtualc, xq_153_11_virtualc, xq_285_12_virtualm, xq_292_200_static, xq_294_200_static, iN_add, iN_mul, iN_sub, iN_and, iN_or, iN_clr, iN_shl, iN_shr, tb_r1, b1_z, b1_or, b1_and, b1_or0, b1_or1, b1_0or, b1_t, b1_f, iN_lt, iN_inj, reduceIte, if_true, if_false, Nat.zero_add, Nat.add_zero, Bool.false_eq_true, Bool.true_eq_false, Nat.lt_irrefl, iN_az, not_true_eq_false, not_false_eq_true, Nat.reduceEqDiff, Nat.reduceLT, Nat.reduceAdd, Nat.reduceMul, Nat.reduceSub]
            simp (disch := first | assumption | omega | exact st8_a (Nat.le_of_ble_eq_true rfl)) only [Nat.not_lt_zero, cd, eb_297_24, eb_297_25, eb_297_26, eb_297_27, kl_a, kl_d, kl_f, kl_i, kl_l, kl_n, kl_r, xr_1, xr_10, xr_11, xr_12, xr_13, xr_14, xr_15, xr_151, xr_152, xr_153, xr_154, xr_155, xr_156, xr_16, xr_17, xr_18, xr_19, xr_2, xr_20, xr_220, xr_221, xr_27, xr_3, xr_32, xr_33, xr_34, xr_35, xr_36, xr_37, xr_38, xr_39, xr_4, xr_41, xr_44, xr_48, xr_5, xr_55, xr_56, xr_57, xr_58, xr_61, xr_62, xr_64, xr_77, xr_91, xr_92, xr_93, xr_94, xr_95, xr_96, af_0, af_1, xt_goto, xt_ib, xt_ic, xt_ic_ge, xt_ic_ne, xt_if_eq, xt_if_lt, xt_if_ne, xt_ir, xt_nop, lA_74, lF_0, lF_1, lF_17, lF_18, lF_19, lF_7, lF_8, lA_64, lA_65, lA_66, lA_67, lA_68, lA_69, lA_70, lA_71, lA_72, lA_73, lA_75, lA_62, xq_131_11_virtualc, xq_132_11_virtualc, xq_134_11_virtualc, xq_135_11_virtualc, xq_136_11_virtualc, xq_137_11_virtualc, xq_138_11_virtualc, xq_148_11_virtualc, xq_151_11_virtualc, xq_152_11_virtualc, xq_153_11_virtualc, xq_285_12_virtualm, xq_292_200_static, xq_294_200_static, iN_add, iN_mul, iN_sub, iN_and, iN_or, iN_clr, iN_shl, iN_shr, tb_r1, b1_z, b1_or, b1_and, b1_or0, b1_or1, b1_0or, b1_t, b1_f, iN_lt, iN_inj, reduceIte, if_true, if_false, Nat.zero_add, Nat.add_zero, Bool.false_eq_true, Bool.true_eq_false, Nat.lt_irrefl, iN_az, not_true_eq_false, not_false_eq_true, Nat.reduceEqDiff, Nat.reduceLT, Nat.reduceAdd, Nat.reduceMul, Nat.reduceSub]
          · obtain ⟨l2, w2, z10, z11, z12, q1, e3⟩ := ih ls wh (.int (nI 0)) (.int (nI (DK σ M W k))) (.int (nI (σ 1 6))) (MV_s h (.inr (.inr ⟨cw, by omega⟩)))
            refine ⟨l2, w2, z10, z11, z12, q1, ?_⟩
            rw [← e3]
            clear hTA hG h ih f1 e2 hls hwh hlw cN q1 e3
            simp (disch := first | assumption | omega | exact st8_a (Nat.le_of_ble_eq_true rfl)) only [hk, st, kl_a, kl_d, kl_f, kl_i, kl_l, kl_n, kl_r, xr_1, xr_10, xr_11, xr_12, xr_13, xr_14, xr_15, xr_151, xr_152, xr_153, xr_154, xr_155, xr_156, xr_16, xr_17, xr_18, xr_19, xr_2, xr_20, xr_220, xr_221, xr_27, xr_3, xr_32, xr_33, xr_34, xr_35, xr_36, xr_37, xr_38, xr_39, xr_4, xr_41, xr_44, xr_48, xr_5, xr_55, xr_56, xr_57, xr_58, xr_61, xr_62, xr_64, xr_77, xr_91, xr_92, xr_93, xr_94, xr_95, xr_96, af_0, af_1, xt_goto, xt_ib, xt_ic, xt_ic_ge, xt_ic_ne, xt_if_eq, xt_if_lt, xt_if_ne, xt_ir, xt_nop, lA_74, lF_0, lF_1, lF_17, lF_18, lF_19, lF_7, lF_8, lA_64, lA_65, lA_66, lA_67, lA_68, lA_69, lA_70, lA_71, lA_72, lA_73, lA_75, lA_62, xq_131_11_virtualc, xq_132_11_virtualc, xq_134_11_virtualc, xq_135_11_virtualc, xq_136_11_virtualc, xq_137_11_virtualc, xq_138_11_virtualc, xq_148_11_virtualc, xq_151_11_virtualc, xq_152_11_virtualc, xq_153_11_virtualc, xq_285_12_virtualm, xq_292_200_static, xq_294_200_static, iN_add, iN_mul, iN_sub, iN_and, iN_or, iN_clr, iN_shl, iN_shr, tb_r1, b1_z, b1_or, b1_and, b1_or0, b1_or1, b1_0or, b1_t, b1_f, iN_lt, iN_inj, reduceIte, if_true, if_false, Nat.zero_add, Nat.add_zero, Bool.false_eq_true, Bool.true_eq_false, Nat.lt_irrefl, iN_az, not_true_eq_false, not_false_eq_true, Nat.reduceEqDiff, Nat.reduceLT, Nat.reduceAdd, Nat.reduceMul, Nat.reduceSub]
            simp (disch := first | assumption | omega | exact st8_a (Nat.le_of_ble_eq_true rfl)) only [Nat.not_lt_zero, cd, eb_297_24, eb_297_25, eb_297_27, kl_a, kl_d, kl_f, kl_i, kl_l, kl_n, kl_r, xr_1, xr_10, xr_11, xr_12, xr_13, xr_14, xr_15, xr_151, xr_152, xr_153, xr_154, xr_155, xr_156, xr_16, xr_17, xr_18, xr_19, xr_2, xr_20, xr_220, xr_221, xr_27, xr_3, xr_32, xr_33, xr_34, xr_35, xr_36, xr_37, xr_38, xr_39, xr_4, xr_41, xr_44, xr_48, xr_5, xr_55, xr_56, xr_57, xr_58, xr_61, xr_62, xr_64, xr_77, xr_91, xr_92, xr_93, xr_94, xr_95, xr_96, af_0, af_1, xt_goto, xt_ib, xt_ic, xt_ic_ge, xt_ic_ne, xt_if_eq, xt_if_lt, xt_if_ne, xt_ir, xt_nop, lA_74, lF_0, lF_1, lF_17, lF_18, lF_19, lF_7, lF_8, lA_64, lA_65, lA_66, lA_67, lA_68, lA_69, lA_70, lA_71, lA_72, lA_73, lA_75, lA_62, xq_131_11_virtualc, xq_132_11_virtualc, xq_134_11_virtualc, xq_135_11_virtualc, xq_136_11_virtualc, xq_137_11_virtualc, xq_138_11_virtualc, xq_148_11_virtualc, xq_151_11_virtualc, xq_152_11_virtualc, xq_153_11_virtualc, xq_285_12_virtualm, xq_292_200_static, xq_294_200_static, iN_add, iN_mul, iN_sub, iN_and, iN_or, iN_clr, iN_shl, iN_shr, tb_r1, b1_z, b1_or, b1_and, b1_or0, b1_or1, b1_0or, b1_t, b1_f, iN_lt, iN_inj, reduceIte, if_true, if_false, Nat.zero_add, Nat.add_zero, Bool.false_eq_true, Bool.true_eq_false, Nat.lt_irrefl, iN_az, not_true_eq_false, not_false_eq_true, Nat.reduceEqDiff, Nat.reduceLT, Nat.reduceAdd, Nat.reduceMul, Nat.reduceSub]
      · have f3 : ¬ (ctc σ (tsl (W k)) t) >>> (y * (σ 1 1)) &&& ((1 <<< (σ 1 1)) - 1) = 0 := fun z => cN (f1.mp z)
        obtain ⟨l2, w2, z10, z11, z12, q1, e3⟩ := ih ls wh (.int (nI ((ctc σ (tsl (W k)) t) >>> (y * (σ 1 1)) &&& ((1 <<< (σ 1 1)) - 1)))) y11 y12 (MV_s h (.inr (.inl cN)))
        refine ⟨l2, w2, z10, z11, z12, q1, ?_⟩
        rw [← e3]
        clear hTA hG h ih f1 hls hwh hlw cN q1 e3
        simp (disch := first | assumption | omega | exact st8_a (Nat.le_of_ble_eq_true rfl)) only [hk, lA_74 (TSS_get hk hk2), e1, f3, cB, eb_297_13, eb_297_14, eb_297_15, eb_297_16, eb_297_27, kl_a, kl_d, kl_f, kl_i, kl_l, kl_n, kl_r, xr_1, xr_10, xr_11, xr_12, xr_13, xr_14, xr_15, xr_151, xr_152, xr_153, xr_154, xr_155, xr_156, xr_16, xr_17, xr_18, xr_19, xr_2, xr_20, xr_220, xr_221, xr_27, xr_3, xr_32, xr_33, xr_34, xr_35, xr_36, xr_37, xr_38, xr_39, xr_4, xr_41, xr_44, xr_48, xr_5, xr_55, xr_56, xr_57, xr_58, xr_61, xr_62, xr_64, xr_77, xr_91, xr_92, xr_93, xr_94, xr_95, xr_96, af_0, af_1, xt_goto, xt_ib, xt_ic, xt_ic_ge, xt_ic_ne, xt_if_eq, xt_if_lt, xt_if_ne, xt_ir, xt_nop, lA_74, lF_0, lF_1, lF_17, lF_18, lF_19, lF_7, lF_8, lA_64, lA_65, lA_66, lA_67, lA_68, lA_69, lA_70, lA_71, lA_72, lA_73, lA_75, lA_62, xq_131_11_virtualc, xq_132_11_virtualc, xq_134_11_virtualc, xq_135_11_virtualc, xq_136_11_virtualc, xq_137_11_virtualc, xq_138_11_virtualc, xq_148_11_virtualc, xq_151_11_virtualc, xq_152_11_virtualc, xq_153_11_virtualc, xq_285_12_virtualm, xq_292_200_static, xq_294_200_static, iN_add, iN_mul, iN_sub, iN_and, iN_or, iN_clr, iN_shl, iN_shr, tb_r1, b1_z, b1_or, b1_and, b1_or0, b1_or1, b1_0or, b1_t, b1_f, iN_lt, iN_inj, reduceIte, if_true, if_false, Nat.zero_add, Nat.add_zero, Bool.false_eq_true, Bool.true_eq_false, Nat.lt_irrefl, iN_az, not_true_eq_false, not_false_eq_true, Nat.reduceEqDiff, Nat.reduceLT, Nat.reduceAdd, Nat.reduceMul, Nat.reduceSub]
    · obtain ⟨l2, w2, z10, z11, z12, q1, e3⟩ := ih ls wh (.int (nI ((ctc σ (tsl (W k)) t) >>> (y * (σ 1 1)) &&& ((1 <<< (σ 1 1)) - 1)))) y11 y12 (MV_s h (.inl cB))
      refine ⟨l2, w2, z10, z11, z12, q1, ?_⟩
      rw [← e3]
      clear hTA hG h ih f1 hls hwh hlw q1 e3
      simp (disch := first | assumption | omega | exact st8_a (Nat.le_of_ble_eq_true rfl)) only [hk, lA_74 (TSS_get hk hk2), e1, cB, eb_297_13, eb_297_14, eb_297_27, kl_a, kl_d, kl_f, kl_i, kl_l, kl_n, kl_r, xr_1, xr_10, xr_11, xr_12, xr_13, xr_14, xr_15, xr_151, xr_152, xr_153, xr_154, xr_155, xr_156, xr_16, xr_17, xr_18, xr_19, xr_2, xr_20, xr_220, xr_221, xr_27, xr_3, xr_32, xr_33, xr_34, xr_35, xr_36, xr_37, xr_38, xr_39, xr_4, xr_41, xr_44, xr_48, xr_5, xr_55, xr_56, xr_57, xr_58, xr_61, xr_62, xr_64, xr_77, xr_91, xr_92, xr_93, xr_94, xr_95, xr_96, af_0, af_1, xt_goto, xt_ib, xt_ic, xt_ic_ge, xt_ic_ne, xt_if_eq, xt_if_lt, xt_if_ne, xt_ir, xt_nop, lA_74, lF_0, lF_1, lF_17, lF_18, lF_19, lF_7, lF_8, lA_64, lA_65, lA_66, lA_67, lA_68, lA_69, lA_70, lA_71, lA_72, lA_73, lA_75, lA_62, xq_131_11_virtualc, xq_132_11_virtualc, xq_134_11_virtualc, xq_135_11_virtualc, xq_136_11_virtualc, xq_137_11_virtualc, xq_138_11_virtualc, xq_148_11_virtualc, xq_151_11_virtualc, xq_152_11_virtualc, xq_153_11_virtualc, xq_285_12_virtualm, xq_292_200_static, xq_294_200_static, iN_add, iN_mul, iN_sub, iN_and, iN_or, iN_clr, iN_shl, iN_shr, tb_r1, b1_z, b1_or, b1_and, b1_or0, b1_or1, b1_0or, b1_t, b1_f, iN_lt, iN_inj, reduceIte, if_true, if_false, Nat.zero_add, Nat.add_zero, Bool.false_eq_true, Bool.true_eq_false, Nat.lt_irrefl, iN_az, not_true_eq_false, not_false_eq_true, Nat.reduceEqDiff, Nat.reduceLT, Nat.reduceAdd, Nat.reduceMul, Nat.reduceSub]
set_option maxRecDepth 100000 in
theorem CIv_c (h : CIv σ M) (h1 : N 1 = M 1) (h19 : N 19 = M 19) (h24 : N 24 = M 24) (h25 : N 25 = M 25) (h32 : N 32 = M 32) (h37 : N 37 = M 37) (h38 : N 38 = M 38) (h40 : N 40 = M 40) (h41 : N 41 = M 41) (h54 : N 54 = M 54) (h53 : N 53 = M 53) : CIv σ N := CIv_m h (KI_fr h1 h19 h24 h25 h32 h.1.1) h1 h37 h38 h40 h41 h54 h53
-- a ring
set_option maxRecDepth 100000 in
theorem m_53 (O : Ok σ) (hC' : CIv σ M) (hG : GP σ M) {x11 : Int32} : ∃ N, CIv σ N ∧ PT σ N ∧ ev xs (d + 40) 297 53 ([.ref 0, .ref 63, .ref 62, .int x3, .int x4, .int x5, .int x6, .int x7, .int x8, .int x9, y10, .int x11, y12, y13], [.int (nI 1)], HE σ M ρ n B w W E) = some (.inl (some (.int (nI (1)))), HE σ N ρ n B w W E) := by
  have hb := GP_w hG
  have hbr := Gd_brk O hG.2.2
  have e1 := s_148 (xs := xs) (d := d + 36) (σ := σ) (M := M) (R := LR ρ σ n (TSS n) B ((oI (ar (σ 1 6) w) :: RWS σ n W) ++ E)) O hG.1 hb
  obtain ⟨N, e2, p1, p2, p3, p4, p5⟩ := s_151 (xs := xs) (d := d + 29) (M := M) (R := LR ρ σ n (TSS n) B ((oI (ar (σ 1 6) w) :: RWS σ n W) ++ E)) O hG.1 hG.2.1 hb ⟨hG.2.2.2.1, hbr⟩
  obtain ⟨r1, r2, r3, r4, r5⟩ := RO_g (σ := σ) (s := M 13) (r := M 14) ⟨hb, hG.2.2.2.1, hbr⟩
  have hbN : ∀ l, l < (σ 1 6) → N 13 l < (σ 1 2) ∧ N 14 l < (σ 1 5) := by
    rw [p4, p5]
    exact r1
  have e3 := s_148 (xs := xs) (d := d + 36) (σ := σ) (M := N) (R := LR ρ σ n (TSS n) B ((oI (ar (σ 1 6) w) :: RWS σ n W) ++ E)) O p2 hbN
  have e4 := s_135 (xs := xs) (d := d + 35) (σ := σ) (M := N) (R := LR ρ σ n (TSS n) B ((oI (ar (σ 1 6) w) :: RWS σ n W) ++ E)) O p2 hbN
  have e5 := s_136 (xs := xs) (d := d + 36) (σ := σ) (M := N) (R := LR ρ σ n (TSS n) B ((oI (ar (σ 1 6) w) :: RWS σ n W) ++ E)) O p2 hbN
  rw [p4, p5, r4] at e3
  rw [p4, p5, r3] at e4
  rw [p4, p5, r2] at e5
  have w1 : wt σ (M 13) (M 14) < 1000 := wt_lt O fun l hl => (hb l hl).1
  obtain ⟨W0, hW0⟩ : ∃ W0, wt σ (M 13) (M 14) = W0 := ⟨_, rfl⟩
  obtain ⟨R0, hR0⟩ : ∃ R0, (RO σ (M 13) (M 14)).1 = R0 := ⟨_, rfl⟩
  rw [hW0] at e1 e2 w1 r5
  rw [hR0] at e2 e3 r5
  have hsub : nI W0 - nI R0 = nI (W0 - R0) := iN_sub (by omega)
  have hsub2 : nI W0 - nI (W0 - R0) = nI R0 := by
    rw [iN_sub (by omega)]
    congr 1
    omega
  rw [hsub] at e2
  have hg : ¬ W0 - R0 < 0 := Nat.not_lt_zero _
  have hC2 : CIv σ N := CIv_c hC' (p1 1 rfl) (p1 19 rfl) (p1 24 rfl) (p1 25 rfl) (p1 32 rfl) (p1 37 rfl) (p1 38 rfl) (p1 40 rfl) (p1 41 rfl) (p1 54 rfl) (p1 53 rfl)
  refine ⟨N, hC2, .inr ⟨p2, p3, hbN⟩, ?_⟩
  clear hC' hC2 hG hb hbr p1 p2 p3 p4 p5 r1 r2 r3 r4 hbN hW0 hR0
  simp (disch := first | assumption | omega | exact st8_a (Nat.le_of_ble_eq_true rfl)) only [hsub2, e1, e2, e3, e4, e5, Nat.not_lt_zero, eb_297_53, eb_297_54, eb_297_55, eb_297_56, eb_297_57, eb_297_58, eb_297_59, eb_297_60, eb_297_61, eb_297_62, eb_297_63, eb_297_65, kl_a, kl_d, kl_f, kl_i, kl_l, kl_n, kl_r, xr_1, xr_10, xr_11, xr_12, xr_13, xr_14, xr_15, xr_151, xr_152, xr_153, xr_154, xr_155, xr_156, xr_16, xr_17, xr_18, xr_19, xr_2, xr_20, xr_220, xr_221, xr_27, xr_3, xr_32, xr_33, xr_34, xr_35, xr_36, xr_37, xr_38, xr_39, xr_4, xr_41, xr_44, xr_48, xr_5, xr_55, xr_56, xr_57, xr_58, xr_61, xr_62, xr_64, xr_77, xr_91, xr_92, xr_93, xr_94, xr_95, xr_96, af_0, af_1, xt_goto, xt_ib, xt_ic, xt_ic_ge, xt_ic_ne, xt_if_eq, xt_if_lt, xt_if_ne, xt_ir, xt_nop, lA_74, lF_0, lF_1, lF_17, lF_18, lF_19, lF_7, lF_8, lA_64, lA_65, lA_66, lA_67, lA_68, lA_69, lA_70, lA_71, lA_72, lA_73, lA_75, lA_62, xq_131_11_virtualc, xq_132_11_virtualc, xq_134_11_virtualc, xq_135_11_virtualc, xq_136_11_virtualc, xq_137_11_virtualc, xq_138_11_virtualc, xq_148_11_virtualc, xq_151_11_virtualc, xq_152_11_virtualc, xq_153_11_virtualc, xq_285_12_virtualm, xq_292_200_static, xq_294_200_static, iN_add, iN_mul, iN_and, iN_or, iN_clr, iN_shl, iN_shr, tb_r1, b1_z, b1_or, b1_and, b1_or0, b1_or1, b1_0or, b1_t, b1_f, iN_lt, iN_inj, reduceIte, if_true, if_false, Nat.zero_add, Nat.add_zero, Bool.false_eq_true, Bool.true_eq_false, Nat.lt_irrefl, iN_az, not_true_eq_false, not_false_eq_true, Nat.reduceEqDiff, Nat.reduceLT, Nat.reduceAdd, Nat.reduceMul, Nat.reduceSub]
-- against, image, away, restore
set_option maxRecDepth 100000 in
theorem m_28 (O : Ok σ) (hTA : TA σ n W B) (hI : IC σ M0 M) (h15 : M0 15 0 = 0) (h151 : M0 15 1 ≤ 6) (hG : GP σ M) (ht : t < (σ 1 4)) (hy : y < (σ 1 0)) (hm : MV σ M W B t y n ls wh) {x10 : Value} : ∃ N z10 z11, CIv σ N ∧ GP σ N ∧ ev xs (d + 40) 297 28 ([.ref 0, .ref 63, .ref 62, .int x3, .int x4, .int (nI t), .int (nI y), .int (nI ls), .int (nI wh), .int (nI n), x10, y11, y12, y13], [], HE σ M ρ n B w W E) = ev xs (d + 40) 297 53 ([.ref 0, .ref 63, .ref 62, .int x3, .int x4, .int (nI t), .int (nI y), .int (nI ls), .int (nI wh), .int (nI 1), z10, .int z11, y12, y13], [.int (nI 1)], HE σ N ρ n B w W E) := by
  obtain ⟨hD1, hD2, hH1, hH2, hS, hC, hT, hR, hL, hQ⟩ := Ok_b O
  have hn := TA_n hTA
  have ht2 : t < 4294967295 := by omega
  obtain ⟨N1, v1, e1, p1, p2, p3⟩ := s_153 (xs := xs) (d := d + 18) (M := M) (R := LR ρ σ n (TSS n) B ((oI (ar (σ 1 6) w) :: RWS σ n W) ++ E)) O hI.1 ht hy
  have i1 := IC_b hI p1 p2
  have g1 : GP σ N1 := by
    unfold GP
    rw [p1.2.1, p1.2.2.1, p1.2.2.2]
    exact hG
  have k13 : N1 13 = M 13 := p1.2.2.1
  have k14 : N1 14 = M 14 := p1.2.2.2
  have kb : KB σ t y (alr σ) ↔ ∃ i, i < n ∧ B i = 0 ∧ NK σ t y W i := by
    constructor
    · rintro ⟨s, r, h1, h2⟩
      obtain ⟨i, hi, bi, ha⟩ := TA_i O hTA h1
      refine ⟨i, hi, bi, ?_⟩
      have := (NB_iff ht2).mp h2
      rw [ctc_c2 ha] at this
      exact this
    · rintro ⟨i, hi, bi, h⟩
      exact ⟨_, _, TA_g hTA hi bi, (NB_iff ht2).mpr h⟩
  have q15 : N1 15 = M0 15 := i1.2.1 15 rfl
  have hb1 := GP_w g1
  have e2 := s_137 (xs := xs) (d := d + 38) (σ := σ) (M := N1) (R := LR ρ σ n (TSS n) B ((oI (ar (σ 1 6) w) :: RWS σ n W) ++ E)) O g1.1 g1.2.1 hb1 (by rw [q15, h15]; decide) (by rw [q15]; exact h151) (fun z => by rw [q15, h15] at z; cases z)
  rw [if_neg (fun z => by rw [q15, h15] at z; cases z.1)] at e2
  obtain ⟨N2, hN2⟩ : ∃ N2, cpt N1 15 12 = N2 := ⟨_, rfl⟩
  rw [hN2] at e2
  have k2 : ∀ b, b ≠ 15 → b ≠ 16 → b ≠ 17 → N2 b = N1 b := fun b h1 h2 h3 => by
    rw [← hN2]
    unfold cpt
    rw [ur_n h3, ur_n h2, up_n h1, up_n h1]
  have k15 : N2 15 0 = 1 := by rw [← hN2]; exact g1.1
  have k151 : N2 15 1 = (σ 1 6) := by rw [← hN2]; exact g1.2.1
  have k16 : N2 16 = M 13 := by rw [← hN2]; exact k13
  have k17 : N2 17 = M 14 := by rw [← hN2]; exact k14
  have c2 : CIv σ N2 := CIv_c i1.1 (k2 1 (by decide) (by decide) (by decide)) (k2 19 (by decide) (by decide) (by decide)) (k2 24 (by decide) (by decide) (by decide)) (k2 25 (by decide) (by decide) (by decide)) (k2 32 (by decide) (by decide) (by decide)) (k2 37 (by decide) (by decide) (by decide)) (k2 38 (by decide) (by decide) (by decide)) (k2 40 (by decide) (by decide) (by decide)) (k2 41 (by decide) (by decide) (by decide)) (k2 54 (by decide) (by decide) (by decide)) (k2 53 (by decide) (by decide) (by decide))
  have l12 := k2 12 (by decide) (by decide) (by decide)
  have l13 : N2 13 = M 13 := (k2 13 (by decide) (by decide) (by decide)).trans k13
  have l14 : N2 14 = M 14 := (k2 14 (by decide) (by decide) (by decide)).trans k14
  have hbM := GP_w hG
  obtain ⟨N3, v3, e3, r1, r2, r3⟩ := s_152 (xs := xs) (d := d + 17) (M := N2) (R := LR ρ σ n (TSS n) B ((oI (ar (σ 1 6) w) :: RWS σ n W) ++ E)) O c2 ht hy (by rw [l12]; exact g1.1) (by rw [l13, l14]; exact hbM)
  rw [l13, l14] at r3
  have m15 : N3 15 = N2 15 := r1 15 rfl
  have m16 : N3 16 = M 13 := (r1 16 rfl).trans k16
  have m17 : N3 17 = M 14 := (r1 17 rfl).trans k17
  have hPT : PT σ N3 := PT_o r3 (fun _ _ h => h.1) (by
    unfold PT
    rw [l12, l13, l14]
    exact .inr ⟨g1.1, g1.2.1, hbM⟩)
  have r12 : N3 12 0 < 2 := by
    rcases hPT with h | ⟨h, -⟩ <;> omega
  have hbS : ∀ l, l < (σ 1 6) → M 13 l < 6 ∧ M 14 l < 3 := fun l hl => by
    have := hbM l hl
    omega
  have e4 := s_138 (xs := xs) (d := d + 38) (σ := σ) (M := N3) (R := LR ρ σ n (TSS n) B ((oI (ar (σ 1 6) w) :: RWS σ n W) ++ E)) O r12 (fun z => by
    rcases hPT with h | ⟨-, h, -⟩
    · rw [h] at z; cases z
    · exact h) (fun z => by
    rcases hPT with h | ⟨-, -, h⟩
    · rw [h] at z; cases z
    · exact h) (by rw [m15, k15]; decide) (by rw [m15, k151]; exact hL) (fun _ l hl => by
    rw [m15, k151] at hl
    rw [m16, m17]
    exact hbS l hl)
  rw [m16, m17, m15] at e4
  rcases e4 with ⟨z, -⟩ | ⟨-, e4⟩
  · exact absurd ⟨k15, k151, hbM⟩ z
  · obtain ⟨N4, hN4⟩ : ∃ N4, cpt N3 12 15 = N4 := ⟨_, rfl⟩
    rw [hN4] at e4
    have k4 : ∀ b, b ≠ 12 → b ≠ 13 → b ≠ 14 → N4 b = N3 b := fun b h1 h2 h3 => by
      rw [← hN4]
      unfold cpt
      rw [ur_n h3, ur_n h2, up_n h1, up_n h1]
    have c4 : CIv σ N4 := CIv_c r2 (k4 1 (by decide) (by decide) (by decide)) (k4 19 (by decide) (by decide) (by decide)) (k4 24 (by decide) (by decide) (by decide)) (k4 25 (by decide) (by decide) (by decide)) (k4 32 (by decide) (by decide) (by decide)) (k4 37 (by decide) (by decide) (by decide)) (k4 38 (by decide) (by decide) (by decide)) (k4 40 (by decide) (by decide) (by decide)) (k4 41 (by decide) (by decide) (by decide)) (k4 54 (by decide) (by decide) (by decide)) (k4 53 (by decide) (by decide) (by decide))
    have n12 : N4 12 0 = 1 := by
      rw [← hN4]
      show N3 15 0 = 1
      rw [m15]; exact k15
    have n121 : N4 12 1 = (σ 1 6) := by
      rw [← hN4]
      show N3 15 1 = (σ 1 6)
      rw [m15]; exact k151
    have n13 : N4 13 = M 13 := by rw [← hN4]; exact m16
    have n14 : N4 14 = M 14 := by rw [← hN4]; exact m17
    have g4 : GP σ N4 := ⟨n12, n121, by rw [n13, n14]; exact hG.2.2⟩
    obtain ⟨bk, hbk⟩ : ∃ bk, (if N3 12 0 = 1 then dif (σ 1 6) (N3 13) (N3 14) (M 13) (M 14) else 4294967295) = bk := ⟨_, rfl⟩
    rw [hbk] at e4
    refine ⟨N4, .int (nI 4294967295), nI bk, c4, g4, ?_⟩
    rcases hm with ⟨w1, w2, w3⟩ | ⟨w1, w2, w3, w4, w5, w6⟩
    · have hnk : ¬ KB σ t y (alr σ) := fun z => by
        obtain ⟨i, hi, bi, h⟩ := kb.mp z
        exact w3 i hi bi h
      have hv1 : v1 < 1024 := by
        rcases p3 with ⟨z, -⟩ | ⟨-, h, -⟩
        · exact absurd z hnk
        · exact h
      have hv3 : v3 = 4294967295 := OUT_no r3 fun s r h => hnk ⟨s, r, h⟩
      rw [hv3] at e3
      rw [w1, w2]
      have hv9 : ¬ v1 = 4294967295 := by omega
      clear hTA hI hG p1 p2 p3 i1 g1 kb hb1 k2 c2 hbM r1 r2 r3 hPT hbS k4 c4 g4 w3 hnk hv3 hbk
      simp (disch := first | assumption | omega | exact st8_a (Nat.le_of_ble_eq_true rfl)) only [ng_1, e1, e2, e3, e4, hv9, eb_297_28, eb_297_29, eb_297_31, eb_297_32, eb_297_34, eb_297_35, eb_297_36, eb_297_38, eb_297_39, eb_297_40, eb_297_41, eb_297_42, eb_297_45, eb_297_47, eb_297_48, eb_297_49, eb_297_51, kl_a, kl_d, kl_f, kl_i, kl_l, kl_n, kl_r, xr_1, xr_10, xr_11, xr_12, xr_13, xr_14, xr_15, xr_151, xr_152, xr_153, xr_154, xr_155, xr_156, xr_16, xr_17, xr_18, xr_19, xr_2, xr_20, xr_220, xr_221, xr_27, xr_3, xr_32, xr_33, xr_34, xr_35, xr_36, xr_37, xr_38, xr_39, xr_4, xr_41, xr_44, xr_48, xr_5, xr_55, xr_56, xr_57, xr_58, xr_61, xr_62, xr_64, xr_77, xr_91, xr_92, xr_93, xr_94, xr_95, xr_96, af_0, af_1, xt_goto, xt_ib, xt_ic, xt_ic_ge, xt_ic_ne, xt_if_eq, xt_if_lt, xt_if_ne, xt_ir, xt_nop, lA_74, lF_0, lF_1, lF_17, lF_18, lF_19, lF_7, lF_8, lA_64, lA_65, lA_66, lA_67, lA_68, lA_69, lA_70, lA_71, lA_72, lA_73, lA_75, lA_62, xq_131_11_virtualc, xq_132_11_virtualc, xq_134_11_virtualc, xq_135_11_virtualc, xq_136_11_virtualc, xq_137_11_virtualc, xq_138_11_virtualc, xq_148_11_virtualc, xq_151_11_virtualc, xq_152_11_virtualc, xq_153_11_virtualc, xq_285_12_virtualm, xq_292_200_static, xq_294_200_static, iN_add, iN_mul, iN_sub, iN_and, iN_or, iN_clr, iN_shl, iN_shr, tb_r1, b1_z, b1_or, b1_and, b1_or0, b1_or1, b1_0or, b1_t, b1_f, iN_lt, iN_inj, reduceIte, if_true, if_false, Nat.zero_add, Nat.add_zero, Bool.false_eq_true, Bool.true_eq_false, Nat.lt_irrefl, iN_az, not_true_eq_false, not_false_eq_true, Nat.reduceEqDiff, Nat.reduceLT, Nat.reduceAdd, Nat.reduceMul, Nat.reduceSub]
    · have hk : KB σ t y (alr σ) := kb.mpr ⟨wh, w1, w2, w3⟩
      have hv1 : v1 = 4294967295 := by
        rcases p3 with ⟨-, h⟩ | ⟨h, -⟩
        · exact h
        · exact absurd hk h
      rw [hv1] at e1
      have hG3 : Gd σ (alr σ) (tsl (W wh)) (trm (W wh)) ∧ NB σ t y (tsl (W wh)) := ⟨TA_g hTA w1 w2, (NB_iff ht2).mpr w3⟩
      rcases r3 with ⟨-, -, -, -, h6⟩ | ⟨u1', u2, u3, u4, u5, u6, u7⟩
      · exact absurd hG3 (h6 _ _)
      · have dcg : ∀ {s r s2 r2 : Nat → Nat}, AG (σ 1 6) s r s2 r2 → dif (σ 1 6) s r (M 13) (M 14) = dif (σ 1 6) s2 r2 (M 13) (M 14) := fun ha => by
          unfold dif
          exact sm_cg fun l hl => by rw [(ha l hl).1, (ha l hl).2]
        have hv3 : DK σ M W wh = v3 := by
          obtain ⟨i, hi, bi, ha⟩ := TA_i O hTA u4.1
          have h1 : v3 ≤ DK σ M W wh := u6 _ _ hG3
          have h2 : NK σ t y W i := by
            have := (NB_iff ht2).mp u4.2
            rw [ctc_c2 ha] at this
            exact this
          have h3 := w5 i hi bi h2
          have h4 : DK σ M W i = v3 := (dcg ha).symm.trans u5
          omega
        have hA := TA_m O hTA (P := fun s r => ctc σ s t &&& dm σ y = 0 ∧ dif (σ 1 6) s r (M 13) (M 14) = v3) (fun s r s2 r2 ha h => ⟨by rw [← ctc_c2 ha]; exact h.1, (dcg ha).symm.trans h.2⟩) u4.1 ⟨(NB_iff ht2).mp u4.2, u5⟩ (fun s2 r2 h1 h2 => u7 s2 r2 ⟨h1, (NB_iff ht2).mpr h2.1⟩ h2.2) w1 w2 ⟨w3, hv3⟩ fun i hi hb h => by
          have h1 := w6 i hi hb h.1
          have h2 : DK σ M W i = v3 := h.2
          omega
        have hPK : PK σ N3 W wh := ⟨u2, u3, hA⟩
        have e5 := p_294 (xs := xs) (d := d + 37) (M := N3) (ρ := ρ) (B := B) (w := w) (E := E) O u2 (PK_w hTA w1 hPK) hn w1 (TA_w hTA w1)
        rw [isT hA] at e5
        have hbk2 : bk = v3 := by
          rw [← hbk, if_pos u2]
          exact u5
        rw [hbk2] at e4 ⊢
        rw [← hv3] at e3 e4 ⊢
        have hD6 : DK σ M W wh ≤ 6 := dif_6 O
        have hwh2 : wh < 2000 := by omega
        rw [w4]
        clear hTA hI hG p1 p2 p3 i1 g1 kb hb1 k2 c2 hbM r1 r2 hPT hbS k4 c4 g4 hbk w5 w6 hk hG3 u4 u5 u6 u7 dcg hv3 hA hPK hbk2 w3
        simp (disch := first | assumption | omega | exact st8_a (Nat.le_of_ble_eq_true rfl)) only [Nat.not_lt_zero, e1, e2, e3, e4, e5, eb_297_28, eb_297_29, eb_297_30, eb_297_32, eb_297_33, eb_297_35, eb_297_36, eb_297_38, eb_297_39, eb_297_40, eb_297_41, eb_297_42, eb_297_43, eb_297_44, eb_297_45, eb_297_47, eb_297_48, eb_297_49, eb_297_50, eb_297_51, kl_a, kl_d, kl_f, kl_i, kl_l, kl_n, kl_r, xr_1, xr_10, xr_11, xr_12, xr_13, xr_14, xr_15, xr_151, xr_152, xr_153, xr_154, xr_155, xr_156, xr_16, xr_17, xr_18, xr_19, xr_2, xr_20, xr_220, xr_221, xr_27, xr_3, xr_32, xr_33, xr_34, xr_35, xr_36, xr_37, xr_38, xr_39, xr_4, xr_41, xr_44, xr_48, xr_5, xr_55, xr_56, xr_57, xr_58, xr_61, xr_62, xr_64, xr_77, xr_91, xr_92, xr_93, xr_94, xr_95, xr_96, af_0, af_1, xt_goto, xt_ib, xt_ic, xt_ic_ge, xt_ic_ne, xt_if_eq, xt_if_lt, xt_if_ne, xt_ir, xt_nop, lA_74, lF_0, lF_1, lF_17, lF_18, lF_19, lF_7, lF_8, lA_64, lA_65, lA_66, lA_67, lA_68, lA_69, lA_70, lA_71, lA_72, lA_73, lA_75, lA_62, xq_131_11_virtualc, xq_132_11_virtualc, xq_134_11_virtualc, xq_135_11_virtualc, xq_136_11_virtualc, xq_137_11_virtualc, xq_138_11_virtualc, xq_148_11_virtualc, xq_151_11_virtualc, xq_152_11_virtualc, xq_153_11_virtualc, xq_285_12_virtualm, xq_292_200_static, xq_294_200_static, iN_add, iN_mul, iN_sub, iN_and, iN_or, iN_clr, iN_shl, iN_shr, tb_r1, b1_z, b1_or, b1_and, b1_or0, b1_or1, b1_0or, b1_t, b1_f, iN_lt, iN_inj, reduceIte, if_true, if_false, Nat.zero_add, Nat.add_zero, Bool.false_eq_true, Bool.true_eq_false, Nat.lt_irrefl, iN_az, not_true_eq_false, not_false_eq_true, Nat.reduceEqDiff, Nat.reduceLT, Nat.reduceAdd, Nat.reduceMul, Nat.reduceSub]
set_option maxRecDepth 100000 in
theorem p_297 (O : Ok σ) (hT1 : 1 ≤ (σ 1 4)) (hTA : TA σ n W B) (hI : IC σ M0 M) (h15 : M0 15 0 = 0) (h151 : M0 15 1 ≤ 6) : ∃ N ρ2, CIv σ N ∧ PT σ N ∧ ev xs (d + 40) 297 0 ([.ref 0, .ref 63, .ref 62, .retAddr 9, .retAddr 9, .retAddr 9, .retAddr 9, .retAddr 9, .retAddr 9, .retAddr 9, .retAddr 9, .retAddr 9, .retAddr 9, .retAddr 9], [], HE σ M ρ n B w W E) = some (.inl (some (.int (nI (1)))), HE σ N ρ2 n B w W E) := by
  obtain ⟨hD1, hD2, hH1, hH2, hS, hC, hT, hR, hL, hQ⟩ := Ok_b O
  obtain ⟨v, ρ1, hv, e1⟩ := p_292 (xs := xs) (d := d + 39) (σ := σ) (M := M) (τ := σ) (ρ := ρ) (N := n) (Ts := TSS n) (B := B) (Q := (oI (ar (σ 1 6) w) :: RWS σ n W) ++ E) (k := 6) (by decide) (by decide)
  obtain ⟨N1, v1, e2, p1, p2, p3⟩ := s_131 (xs := xs) (d := d + 17) (M := M) (R := LR ρ1 σ n (TSS n) B ((oI (ar (σ 1 6) w) :: RWS σ n W) ++ E)) O hI.1
  have i1 := IC_o hI p1 p2 p3 fun _ _ h => h
  rcases p3 with ⟨h1, -⟩ | ⟨q1, q2, q3, q4, -⟩
  · refine ⟨N1, ρ1, i1.1, i1.2.2, ?_⟩
    rw [h1, show decide ((4294967295 : Nat) ≠ 4294967295) = false from by decide] at e2
    clear hTA hI p1 p2 i1 h1
    simp (disch := first | assumption | omega | exact st8_a (Nat.le_of_ble_eq_true rfl)) only [e1, e2, eb_297_0, eb_297_1, eb_297_2, kl_a, kl_d, kl_f, kl_i, kl_l, kl_n, kl_r, xr_1, xr_10, xr_11, xr_12, xr_13, xr_14, xr_15, xr_151, xr_152, xr_153, xr_154, xr_155, xr_156, xr_16, xr_17, xr_18, xr_19, xr_2, xr_20, xr_220, xr_221, xr_27, xr_3, xr_32, xr_33, xr_34, xr_35, xr_36, xr_37, xr_38, xr_39, xr_4, xr_41, xr_44, xr_48, xr_5, xr_55, xr_56, xr_57, xr_58, xr_61, xr_62, xr_64, xr_77, xr_91, xr_92, xr_93, xr_94, xr_95, xr_96, af_0, af_1, xt_goto, xt_ib, xt_ic, xt_ic_ge, xt_ic_ne, xt_if_eq, xt_if_lt, xt_if_ne, xt_ir, xt_nop, lA_74, lF_0, lF_1, lF_17, lF_18, lF_19, lF_7, lF_8, lA_64, lA_65, lA_66, lA_67, lA_68, lA_69, lA_70, lA_71, lA_72, lA_73, lA_75, lA_62, xq_131_11_virtualc, xq_132_11_virtualc, xq_134_11_virtualc, xq_135_11_virtualc, xq_136_11_virtualc, xq_137_11_virtualc, xq_138_11_virtualc, xq_148_11_virtualc, xq_151_11_virtualc, xq_152_11_virtualc, xq_153_11_virtualc, xq_285_12_virtualm, xq_292_200_static, xq_294_200_static, iN_add, iN_mul, iN_sub, iN_and, iN_or, iN_clr, iN_shl, iN_shr, tb_r1, b1_z, b1_or, b1_and, b1_or0, b1_or1, b1_0or, b1_t, b1_f, iN_lt, iN_inj, reduceIte, if_true, if_false, Nat.zero_add, Nat.add_zero, Bool.false_eq_true, Bool.true_eq_false, Nat.lt_irrefl, iN_az, not_true_eq_false, not_false_eq_true, Nat.reduceEqDiff, Nat.reduceLT, Nat.reduceAdd, Nat.reduceMul, Nat.reduceSub]
    rw [eb_297_3]
    by_cases c : 0 < v
    · simp (disch := first | assumption | omega | exact st8_a (Nat.le_of_ble_eq_true rfl)) only [c, eb_297_4, eb_297_7, eb_297_8, kl_a, kl_d, kl_f, kl_i, kl_l, kl_n, kl_r, xr_1, xr_10, xr_11, xr_12, xr_13, xr_14, xr_15, xr_151, xr_152, xr_153, xr_154, xr_155, xr_156, xr_16, xr_17, xr_18, xr_19, xr_2, xr_20, xr_220, xr_221, xr_27, xr_3, xr_32, xr_33, xr_34, xr_35, xr_36, xr_37, xr_38, xr_39, xr_4, xr_41, xr_44, xr_48, xr_5, xr_55, xr_56, xr_57, xr_58, xr_61, xr_62, xr_64, xr_77, xr_91, xr_92, xr_93, xr_94, xr_95, xr_96, af_0, af_1, xt_goto, xt_ib, xt_ic, xt_ic_ge, xt_ic_ne, xt_if_eq, xt_if_lt, xt_if_ne, xt_ir, xt_nop, lA_74, lF_0, lF_1, lF_17, lF_18, lF_19, lF_7, lF_8, lA_64, lA_65, lA_66, lA_67, lA_68, lA_69, lA_70, lA_71, lA_72, lA_73, lA_75, lA_62, xq_131_11_virtualc, xq_132_11_virtualc, xq_134_11_virtualc, xq_135_11_virtualc, xq_136_11_virtualc, xq_137_11_virtualc, xq_138_11_virtualc, xq_148_11_virtualc, xq_151_11_virtualc, xq_152_11_virtualc, xq_153_11_virtualc, xq_285_12_virtualm, xq_292_200_static, xq_294_200_static, iN_add, iN_mul, iN_sub, iN_and, iN_or, iN_clr, iN_shl, iN_shr, tb_r1, b1_z, b1_or, b1_and, b1_or0, b1_or1, b1_0or, b1_t, b1_f, iN_lt, iN_inj, reduceIte, if_true, if_false, Nat.zero_add, Nat.add_zero, Bool.false_eq_true, Bool.true_eq_false, Nat.lt_irrefl, iN_az, not_true_eq_false, not_false_eq_true, Nat.reduceEqDiff, Nat.reduceLT, Nat.reduceAdd, Nat.reduceMul, Nat.reduceSub]
    · simp (disch := first | assumption | omega | exact st8_a (Nat.le_of_ble_eq_true rfl)) only [c, eb_297_7, eb_297_8, kl_a, kl_d, kl_f, kl_i, kl_l, kl_n, kl_r, xr_1, xr_10, xr_11, xr_12, xr_13, xr_14, xr_15, xr_151, xr_152, xr_153, xr_154, xr_155, xr_156, xr_16, xr_17, xr_18, xr_19, xr_2, xr_20, xr_220, xr_221, xr_27, xr_3, xr_32, xr_33, xr_34, xr_35, xr_36, xr_37, xr_38, xr_39, xr_4, xr_41, xr_44, xr_48, xr_5, xr_55, xr_56, xr_57, xr_58, xr_61, xr_62, xr_64, xr_77, xr_91, xr_92, xr_93, xr_94, xr_95, xr_96, af_0, af_1, xt_goto, xt_ib, xt_ic, xt_ic_ge, xt_ic_ne, xt_if_eq, xt_if_lt, xt_if_ne, xt_ir, xt_nop, lA_74, lF_0, lF_1, lF_17, lF_18, lF_19, lF_7, lF_8, lA_64, lA_65, lA_66, lA_67, lA_68, lA_69, lA_70, lA_71, lA_72, lA_73, lA_75, lA_62, xq_131_11_virtualc, xq_132_11_virtualc, xq_134_11_virtualc, xq_135_11_virtualc, xq_136_11_virtualc, xq_137_11_virtualc, xq_138_11_virtualc, xq_148_11_virtualc, xq_151_11_virtualc, xq_152_11_virtualc, xq_153_11_virtualc, xq_285_12_virtualm, xq_292_200_static, xq_294_200_static, iN_add, iN_mul, iN_sub, iN_and, iN_or, iN_clr, iN_shl, iN_shr, tb_r1, b1_z, b1_or, b1_and, b1_or0, b1_or1, b1_0or, b1_t, b1_f, iN_lt, iN_inj, reduceIte, if_true, if_false, Nat.zero_add, Nat.add_zero, Bool.false_eq_true, Bool.true_eq_false, Nat.lt_irrefl, iN_az, not_true_eq_false, not_false_eq_true, Nat.reduceEqDiff, Nat.reduceLT, Nat.reduceAdd, Nat.reduceMul, Nat.reduceSub]
  · have g1 : GP σ N1 := ⟨q2, q3, q4⟩
    rw [show decide (v1 ≠ 4294967295) = true from decide_eq_true (by omega)] at e2
    obtain ⟨N2, z6, i2, g2, e3⟩ := m_3 (xs := xs) (d := d) (ρ := ρ1) (n := n) (B := B) (w := w) (W := W) (E := E) (y7 := .retAddr 9) (y8 := .retAddr 9) (y9 := .retAddr 9) (y10 := .retAddr 9) (y11 := .retAddr 9) (y12 := .retAddr 9) (y13 := .retAddr 9) O hv 0 (Nat.zero_le _) N1 (.retAddr 9) i1 g1
    obtain ⟨t, ρ2, ht, e4⟩ := p_292 (xs := xs) (d := d + 39) (σ := σ) (M := N2) (τ := σ) (ρ := ρ1) (N := n) (Ts := TSS n) (B := B) (Q := (oI (ar (σ 1 6) w) :: RWS σ n W) ++ E) (k := (σ 1 4)) (by omega) (by omega)
    obtain ⟨y, ρ3, hy, e5⟩ := p_292 (xs := xs) (d := d + 39) (σ := σ) (M := N2) (τ := σ) (ρ := ρ2) (N := n) (Ts := TSS n) (B := B) (Q := (oI (ar (σ 1 6) w) :: RWS σ n W) ++ E) (k := (σ 1 0)) (by omega) (by omega)
    obtain ⟨l2, w2, z10, z11, z12, hm, e6⟩ := m_12 (xs := xs) (d := d) (M := N2) (ρ := ρ3) (w := w) (E := E) (x3 := nI v) (x4 := nI 1) (y13 := .retAddr 9) O hTA g2 ht hy 0 (Nat.zero_le _) 4294967295 4294967295 (.retAddr 9) (.retAddr 9) (.retAddr 9) MV_0
    obtain ⟨N3, b10, b11, c3, g3, e7⟩ := m_28 (xs := xs) (d := d) (ρ := ρ3) (w := w) (E := E) (x3 := nI v) (x4 := nI 1) (x10 := z10) (y11 := z11) (y12 := z12) (y13 := .retAddr 9) O hTA i2 h15 h151 g2 ht hy hm
    obtain ⟨N4, c4, t4, e8⟩ := m_53 (xs := xs) (d := d) (ρ := ρ3) (n := n) (B := B) (w := w) (W := W) (E := E) (x3 := nI v) (x4 := nI 1) (x5 := nI t) (x6 := nI y) (x7 := nI l2) (x8 := nI w2) (x9 := nI 1) (y10 := b10) (x11 := b11) (y12 := z12) (y13 := .retAddr 9) O c3 g3
    refine ⟨N4, ρ3, c4, t4, ?_⟩
    rw [← e8, ← e7, ← e6]
    have st : ev xs (d + 40) 297 9 ([.ref 0, .ref 63, .ref 62, .int (nI v), .int (nI 1), .int (nI v), z6, .retAddr 9, .retAddr 9, .retAddr 9, .retAddr 9, .retAddr 9, .retAddr 9, .retAddr 9], [], HE σ N2 ρ1 n B w W E) = ev xs (d + 40) 297 12 ([.ref 0, .ref 63, .ref 62, .int (nI v), .int (nI 1), .int (nI t), .int (nI y), .int (nI 4294967295), .int (nI 4294967295), .int (nI 0), .retAddr 9, .retAddr 9, .retAddr 9, .retAddr 9], [], HE σ N2 ρ3 n B w W E) := by
      clear hTA hI p1 p2 i1 q4 g1 i2 g2 hm c3 g3 c4 t4 e3 e6 e7 e8
      simp (disch := first | assumption | omega | exact st8_a (Nat.le_of_ble_eq_true rfl)) only [e4, e5, eb_297_9, eb_297_10, eb_297_11, kl_a, kl_d, kl_f, kl_i, kl_l, kl_n, kl_r, xr_1, xr_10, xr_11, xr_12, xr_13, xr_14, xr_15, xr_151, xr_152, xr_153, xr_154, xr_155, xr_156, xr_16, xr_17, xr_18, xr_19, xr_2, xr_20, xr_220, xr_221, xr_27, xr_3, xr_32, xr_33, xr_34, xr_35, xr_36, xr_37, xr_38, xr_39, xr_4, xr_41, xr_44, xr_48, xr_5, xr_55, xr_56, xr_57, xr_58, xr_61, xr_62, xr_64, xr_77, xr_91, xr_92, xr_93, xr_94, xr_95, xr_96, af_0, af_1, xt_goto, xt_ib, xt_ic, xt_ic_ge, xt_ic_ne, xt_if_eq, xt_if_lt, xt_if_ne, xt_ir, xt_nop, lA_74, lF_0, lF_1, lF_17, lF_18, lF_19, lF_7, lF_8, lA_64, lA_65, lA_66, lA_67, lA_68, lA_69, lA_70, lA_71, lA_72, lA_73, lA_75, lA_62, xq_131_11_virtualc, xq_132_11_virtualc, xq_134_11_virtualc, xq_135_11_virtualc, xq_136_11_virtualc, xq_137_11_virtualc, xq_138_11_virtualc, xq_148_11_virtualc, xq_151_11_virtualc, xq_152_11_virtualc, xq_153_11_virtualc, xq_285_12_virtualm, xq_292_200_static, xq_294_200_static, iN_add, iN_mul, iN_sub, iN_and, iN_or, iN_clr, iN_shl, iN_shr, tb_r1, b1_z, b1_or, b1_and, b1_or0, b1_or1, b1_0or, b1_t, b1_f, iN_lt, iN_inj, reduceIte, if_true, if_false, Nat.zero_add, Nat.add_zero, Bool.false_eq_true, Bool.true_eq_false, Nat.lt_irrefl, iN_az, not_true_eq_false, not_false_eq_true, Nat.reduceEqDiff, Nat.reduceLT, Nat.reduceAdd, Nat.reduceMul, Nat.reduceSub]
    rw [← st, ← e3]
    clear hTA hI p1 p2 i1 q4 g1 i2 g2 hm c3 g3 c4 t4 e3 e6 e7 e8 st e4 e5
    simp (disch := first | assumption | omega | exact st8_a (Nat.le_of_ble_eq_true rfl)) only [e1, e2, eb_297_0, eb_297_1, eb_297_2, kl_a, kl_d, kl_f, kl_i, kl_l, kl_n, kl_r, xr_1, xr_10, xr_11, xr_12, xr_13, xr_14, xr_15, xr_151, xr_152, xr_153, xr_154, xr_155, xr_156, xr_16, xr_17, xr_18, xr_19, xr_2, xr_20, xr_220, xr_221, xr_27, xr_3, xr_32, xr_33, xr_34, xr_35, xr_36, xr_37, xr_38, xr_39, xr_4, xr_41, xr_44, xr_48, xr_5, xr_55, xr_56, xr_57, xr_58, xr_61, xr_62, xr_64, xr_77, xr_91, xr_92, xr_93, xr_94, xr_95, xr_96, af_0, af_1, xt_goto, xt_ib, xt_ic, xt_ic_ge, xt_ic_ne, xt_if_eq, xt_if_lt, xt_if_ne, xt_ir, xt_nop, lA_74, lF_0, lF_1, lF_17, lF_18, lF_19, lF_7, lF_8, lA_64, lA_65, lA_66, lA_67, lA_68, lA_69, lA_70, lA_71, lA_72, lA_73, lA_75, lA_62, xq_131_11_virtualc, xq_132_11_virtualc, xq_134_11_virtualc, xq_135_11_virtualc, xq_136_11_virtualc, xq_137_11_virtualc, xq_138_11_virtualc, xq_148_11_virtualc, xq_151_11_virtualc, xq_152_11_virtualc, xq_153_11_virtualc, xq_285_12_virtualm, xq_292_200_static, xq_294_200_static, iN_add, iN_mul, iN_sub, iN_and, iN_or, iN_clr, iN_shl, iN_shr, tb_r1, b1_z, b1_or, b1_and, b1_or0, b1_or1, b1_0or, b1_t, b1_f, iN_lt, iN_inj, reduceIte, if_true, if_false, Nat.zero_add, Nat.add_zero, Bool.false_eq_true, Bool.true_eq_false, Nat.lt_irrefl, iN_az, not_true_eq_false, not_false_eq_true, Nat.reduceEqDiff, Nat.reduceLT, Nat.reduceAdd, Nat.reduceMul, Nat.reduceSub]
end Ph
