/-! THE LAW: what only reads -/
section Lwd
variable {xs : List Int32} {d n k i j p p1 p2 p3 v2 w : Nat} {σ τ M M2 : Nat → Nat → Nat} {μ μ2 : Nat → Nat} {ν ν2 : Nat → Value} {R T Q : ab_H} {a a2 : Int64} {b b2 : UInt64} {v : Int32} {y6 y7 y8 : Value} {A : List Nat} {f : Nat → Nat}
set_option maxRecDepth 100000 in
theorem CIv_g (h : CIv σ M) (h1 : M2 1 = M 1) (h19 : M2 19 = M 19) (h24 : M2 24 = M 24) (h25 : M2 25 = M 25) (h32 : M2 32 = M 32) (h37 : M2 37 = M 37) (h38 : M2 38 = M 38) (h40 : M2 40 = M 40) (h41 : M2 41 = M 41) (h54 : M2 54 = M 54) (h53 : ∀ j, M2 53 j < 4294967296) : CIv σ M2 := by
  have hK : KI σ M2 := KI_fr h1 h19 h24 h25 h32 h.1.1
  obtain ⟨c1, c2, c3, c4⟩ := h
  unfold CIv VI RV at *
  rw [h1, h37, h38, h40, h41, h54]
  exact ⟨⟨hK, c1.2⟩, ⟨hK, c2.2⟩, c3, h53⟩
set_option maxRecDepth 100000 in
theorem CIv_53 (h : CIv σ M) (hf : ∀ j, f j < 4294967296) : CIv σ (ur M 53 f) := CIv_g h (ur_n (by decide)) (ur_n (by decide)) (ur_n (by decide)) (ur_n (by decide)) (ur_n (by decide)) (ur_n (by decide)) (ur_n (by decide)) (ur_n (by decide)) (ur_n (by decide)) (ur_n (by decide)) fun j => by rw [ur_s]; exact hf j
set_option maxRecDepth 100000 in
theorem PB_53 : PB M (ur M 53 f) := ⟨fun b hb => ur_n (fun z => by rw [z] at hb; cases hb), ur_n (by decide), ur_n (by decide), ur_n (by decide)⟩
set_option maxRecDepth 100000 in
theorem LST_x2 (h : LST n σ M ν R) (hC' : CIv σ M2) (hP : PB M M2) (hT : GT T 267 6900) : LST (n + 1) σ M2 ν ((R ++ [ex9]) ++ T) := by
  rw [List.append_assoc]
  exact LST_k h hC' hP (GT_w (GT_a GT_x hT) (by decide) (by decide))
set_option maxRecDepth 100000 in
theorem ST_d {t y : Nat} (h1 : (KB σ t y (alr σ) ∧ v2 = 4294967295) ∨ (¬ KB σ t y (alr σ) ∧ v2 < 1024 ∧ ST σ t y (σ 1 7) (alr σ) v2)) (h2 : (KB σ t y (alr σ) ∧ w = 4294967295) ∨ (¬ KB σ t y (alr σ) ∧ w < 1024 ∧ ST σ t y (σ 1 7) (alr σ) w)) : w = v2 := by
  rcases h1 with ⟨a1, a2⟩ | ⟨a1, a2, a3⟩
  · rcases h2 with ⟨b1, b2⟩ | ⟨b1, -⟩
    · rw [a2, b2]
    · exact absurd a1 b1
  · rcases h2 with ⟨b1, -⟩ | ⟨b1, b2, b3⟩
    · exact absurd b1 a1
    · exact ST_u b3 a3
set_option maxRecDepth 100000 in
theorem S_7 (h : LST n σ M ν R) (hi : i < 2000000) (hx1 : xs[i + 1]? = some (nI p1)) (hp1 : p1 < 4294967296) : SR xs d 68 i n σ M μ ν a b R y6 y7 y8 := by
  obtain ⟨O, hC', hp, -⟩ := h.1
  by_cases hl : p1 < (σ 1 6)
  · obtain ⟨M', e, hP, hC2, hV⟩ := s_129 (xs := xs) (d := d + 21) (M := M) (R := mc σ μ ν ++ QH a b R) O hC' hl
    have e1 := l_286 (xs := xs) (d := d + 28) e
    obtain ⟨T, e2, hT⟩ := m_231 (xs := xs) (d := d + 21) (τ := σ) (M := M') (μ := μ) (ν := ν) (Q := QH (nI (pc 18 (M' 38 p1))).toInt64 b R) O hl hV
    exact ⟨_, _, _, _, _, _, _, _, _, _, c_7 (d := d + 29) hi hx1 e1 e2 (u1_s _ _ _) (by decide) (fun _ => rfl), LST_k h hC2 hP (GT_w hT (by decide) (by decide))⟩
  · have e1 := l_286x2 (xs := xs) (d := d + 28) (s_129x (d := d + 27) (M := M) (R := mc σ μ ν ++ QH a b R) O hp1 hl)
    have e2 := m_231x (xs := xs) (d := d + 27) (τ := σ) (M := M) (μ := μ) (ν := ν) (Q := QH a b (R ++ [ex9])) O hp1 hl
    exact ⟨_, _, _, _, _, _, _, _, _, _, c_7 (d := d + 29) hi hx1 e1 e2 (u1_s _ _ _) (by decide) (fun z => by cases z), LST_x h⟩
set_option maxRecDepth 100000 in
theorem S_8 (h : LST n σ M ν R) (hi : i < 2000000) (hx1 : xs[i + 1]? = some (nI p1)) (hp1 : p1 < 4294967296) (hx2 : xs[i + 2]? = some (nI p2)) (hp2 : p2 < 4294967296) : SR xs d 77 i n σ M μ ν a b R y6 y7 y8 := by
  obtain ⟨O, hC', hp, -⟩ := h.1
  by_cases hl : p1 < (σ 1 6)
  · obtain ⟨M', hP, hC2, hV, hv⟩ := s_130 (xs := xs) (d := d + 21) (M := M) (R := mc σ μ ν ++ QH a b R) O hC' hl hp2
    have low : ∀ s r, s < (σ 1 2) → r < (σ 1 5) → (M' 38 p1).testBit (s * 3 + r) = true → pc (s * 3 + r) (M' 38 p1) = p2 → p2 < pc 18 (M' 38 p1) := fun s r hs hr hb hpc => by
      have hb' := Ok_b O
      have := pc_mo (z := M' 38 p1) (s * 3 + r + 1) 18 (by omega)
      rw [pc, hb, b1_t] at this
      omega
    rcases hv with ⟨h1, e⟩ | ⟨s, r, hs, hr, hb, hpc, e⟩
    · have e1 := l_287x3 (xs := xs) (d := d + 28) e
      obtain ⟨T, hT, hm⟩ := m_232 (xs := xs) (d := d + 21) (τ := σ) (M := M') (μ := μ) (ν := ν) (Q := QH a b (R ++ [ex9])) O hl hV hp2
      rcases hm with ⟨-, e2⟩ | ⟨s2, r2, hs2, hr2, hb2, hpc2, -⟩
      · exact ⟨_, _, _, _, _, _, _, _, _, _, c_8 (d := d + 29) hi hx1 hx2 e1 e2 (u1_s _ _ _) (by decide) (fun z => by cases z), LST_x2 h hC2 hP (GT_w hT (by decide) (by decide))⟩
      · exact absurd (low s2 r2 hs2 hr2 hb2 hpc2) h1
    · have e1 := l_287 (xs := xs) (d := d + 28) e
      obtain ⟨T, hT, hm⟩ := m_232 (xs := xs) (d := d + 21) (τ := σ) (M := M') (μ := μ) (ν := ν) (Q := QH (nI (10 * s + r)).toInt64 b R) O hl hV hp2
      rcases hm with ⟨h1, -⟩ | ⟨s2, r2, hs2, hr2, hb2, hpc2, e2⟩
      · exact absurd (low s r hs hr hb hpc) h1
      · have hb' := Ok_b O
        have := pc_un hb2 hb (hpc2.trans hpc.symm)
        have hs' : s2 = s := by omega
        have hr' : r2 = r := by omega
        subst hs'
        subst hr'
        exact ⟨_, _, _, _, _, _, _, _, _, _, c_8 (d := d + 29) hi hx1 hx2 e1 e2 (u1_s _ _ _) (by decide) (fun _ => rfl), LST_k h hC2 hP (GT_w hT (by decide) (by decide))⟩
  · have e1 := l_287x2 (xs := xs) (d := d + 28) (s_130x (d := d + 27) (M := M) (R := mc σ μ ν ++ QH a b R) O hp1 hl (y := nI p2))
    have e2 := m_232x (xs := xs) (d := d + 27) (τ := σ) (M := M) (μ := μ) (ν := ν) (Q := QH a b (R ++ [ex9])) O hp1 hl (y := nI p2)
    exact ⟨_, _, _, _, _, _, _, _, _, _, c_8 (d := d + 29) hi hx1 hx2 e1 e2 (u1_s _ _ _) (by decide) (fun z => by cases z), LST_x h⟩
set_option maxRecDepth 100000 in
theorem S_18 (h : LST n σ M ν R) (hi : i < 2000000) (hx1 : xs[i + 1]? = some (nI p1)) (hp1 : p1 < 4294967296) : SR xs d 165 i n σ M μ ν a b R y6 y7 y8 := by
  obtain ⟨O, hC', hp, -, ⟨h5, h6, o, h7, h8⟩, -⟩ := h.1
  have e1 := s_140 (xs := xs) (d := d + 29) (σ := σ) (R := mc σ μ ν ++ QH a b R) h5 hp1 h6
  have e2 := m_243 (xs := xs) (d := d + 28) (τ := σ) (M := M) (σ := σ) (μ := μ) (Q := QH a b R) h5 h7 (QH_i h8) hp1
  exact ⟨_, _, _, _, _, _, _, _, _, _, c_18 (d := d + 29) hi hx1 e1 e2, LST_0 h⟩
set_option maxRecDepth 100000 in
theorem S_19 (h : LST n σ M ν R) (hi : i < 2000000) : SR xs d 169 i n σ M μ ν a b R y6 y7 y8 := by
  obtain ⟨O, hC', hp, -⟩ := h.1
  obtain ⟨M', v, e1, hP, hC2, hv⟩ := s_141 (xs := xs) (d := d + 8) (M := M) (R := mc σ μ ν ++ QH a b R) O hC'
  obtain ⟨T, w, e2, hT, hw⟩ := m_246 (xs := xs) (d := d + 13) (τ := σ) (M := M') (μ := μ) (ν := ν) (Q := QH a b R) O
  obtain rfl := ST_d hv hw
  exact ⟨_, _, _, _, _, _, _, _, _, _, c_19 (d := d + 29) hi e1 e2, LST_k h hC2 hP (GT_w hT (by decide) (by decide))⟩
set_option maxRecDepth 100000 in
theorem S_20 (h : LST n σ M ν R) (hi : i < 2000000) : SR xs d 173 i n σ M μ ν a b R y6 y7 y8 := by
  obtain ⟨O, hC', hp, -⟩ := h.1
  obtain ⟨M', e1, hP, hC2, hv, hn⟩ := s_142 (xs := xs) (d := d + 7) (M := M) (R := mc σ μ ν ++ QH a b R) O hC'
  obtain ⟨T, e2, hT⟩ := m_248 (xs := xs) (d := d + 13) (τ := σ) (M := M') (μ := μ) (ν := ν) (Q := QH a b R) O hv hn
  exact ⟨_, _, _, _, _, _, _, _, _, _, c_20 (d := d + 29) hi e1 e2, LST_k h hC2 hP (GT_w hT (by decide) (by decide))⟩
set_option maxRecDepth 100000 in
theorem S_21 (h : LST n σ M ν R) (hi : i < 2000000) (hx1 : xs[i + 1]? = some (nI p1)) (hp1 : p1 < 4294967296) : SR xs d 177 i n σ M μ ν a b R y6 y7 y8 := by
  obtain ⟨O, hC', hp, -⟩ := h.1
  obtain ⟨M', e, hP, hC2, hv, hn⟩ := s_143 (xs := xs) (d := d + 6) (M := M) (R := mc σ μ ν ++ QH a b R) O hC' hp1
  by_cases hl : p1 < M' 40 5
  · rw [if_pos hl] at e
    have e1 := l_296 (xs := xs) (d := d + 28) e
    obtain ⟨T, e2, hT⟩ := m_249 (xs := xs) (d := d + 13) (τ := σ) (M := M') (μ := μ) (ν := ν) (Q := QH (nI (M' 41 p1)).toInt64 b R) O hv hn hp1
    rw [if_pos hl] at e2
    exact ⟨_, _, _, _, _, _, _, _, _, _, c_21 (d := d + 29) hi hx1 e1 e2 (u1_s _ _ _) (by decide) (fun _ => rfl), LST_k h hC2 hP (GT_w hT (by decide) (by decide))⟩
  · rw [if_neg hl] at e
    have e1 := l_296x3 (xs := xs) (d := d + 28) e
    obtain ⟨T, e2, hT⟩ := m_249 (xs := xs) (d := d + 13) (τ := σ) (M := M') (μ := μ) (ν := ν) (Q := QH a b (R ++ [ex9])) O hv hn hp1
    rw [if_neg hl] at e2
    exact ⟨_, _, _, _, _, _, _, _, _, _, c_21 (d := d + 29) hi hx1 e1 e2 (u1_s _ _ _) (by decide) (fun z => by cases z), LST_x2 h hC2 hP (GT_w hT (by decide) (by decide))⟩
set_option maxRecDepth 100000 in
theorem S_22 (h : LST n σ M ν R) (hi : i < 2000000) (hx1 : xs[i + 1]? = some (nI p1)) (hp1 : p1 < 4294967296) : SR xs d 186 i n σ M μ ν a b R y6 y7 y8 := by
  obtain ⟨O, hC', hp, -⟩ := h.1
  by_cases hl : p1 < (σ 1 7)
  · obtain ⟨M', c, e, hP, hC2, hv⟩ := s_144 (xs := xs) (d := d + 8) (M := M) (R := mc σ μ ν ++ QH a b R) O hC' hl
    obtain ⟨T, c2, e2, hT, hv2⟩ := m_250 (xs := xs) (d := d + 14) (τ := σ) (M := M') (μ := μ) (ν := ν) (Q := QH (if c = true then 1 else 0) b R) O hl
    obtain rfl : c2 = c := Bool.eq_iff_iff.mpr (hv2.trans hv.symm)
    cases c2
    · have e1 := l_297_0 (xs := xs) (d := d + 28) e
      exact ⟨_, _, _, _, _, _, _, _, _, _, c_22_false (d := d + 29) hi hx1 e1 e2 (u1_s _ _ _) (by decide) (fun _ => rfl), LST_k h hC2 hP (GT_w hT (by decide) (by decide))⟩
    · have e1 := l_297_1 (xs := xs) (d := d + 28) e
      exact ⟨_, _, _, _, _, _, _, _, _, _, c_22_true (d := d + 29) hi hx1 e1 e2 (u1_s _ _ _) (by decide) (fun _ => rfl), LST_k h hC2 hP (GT_w hT (by decide) (by decide))⟩
  · have e1 := l_297x2 (xs := xs) (d := d + 28) (s_144x (d := d + 27) (M := M) (R := mc σ μ ν ++ QH a b R) O hp1 hl)
    have e2 := m_250x (xs := xs) (d := d + 28) (τ := σ) (M := M) (μ := μ) (ν := ν) (Q := QH a b (R ++ [ex9])) O hp1 hl
    exact ⟨_, _, _, _, _, _, _, _, _, _, c_22_false (d := d + 29) hi hx1 e1 e2 (u1_s _ _ _) (by decide) (fun z => by cases z), LST_x h⟩
set_option maxRecDepth 100000 in
theorem S_28 (h : LST n σ M ν R) (hi : i < 2000000) : SR xs d 238 i n σ M μ ν a b R y6 y7 y8 := by
  obtain ⟨O, hC', hp, -⟩ := h.1
  obtain ⟨M', v, e1, hP, hC2, hV, hv⟩ := s_150 (xs := xs) (d := d + 22) (M := M) (R := mc σ μ ν ++ QH a b R) O hC'
  obtain ⟨T, w, e2, hT, hw⟩ := m_258 (xs := xs) (d := d + 21) (τ := σ) (M := M') (μ := μ) (ν := ν) (Q := QH a b R) O hV
  have hvw : w = v := by
    rcases hv with ⟨⟨l, a1, a2⟩, a3⟩ | ⟨a1, a2⟩
    · rcases hw with ⟨-, b2⟩ | ⟨b1, -⟩
      · rw [a3, b2]
      · exact absurd a2 (b1 l a1)
    · rcases hw with ⟨⟨l, b1, b2⟩, -⟩ | ⟨-, b2⟩
      · exact absurd b2 (a1 l b1)
      · rw [a2, b2]
  subst hvw
  exact ⟨_, _, _, _, _, _, _, _, _, _, c_28 (d := d + 29) hi e1 e2, LST_k h hC2 hP (GT_w hT (by decide) (by decide))⟩
set_option maxRecDepth 100000 in
theorem S_31 (h : LST n σ M ν R) (hi : i < 2000000) (hx1 : xs[i + 1]? = some (nI p1)) (hp1 : p1 < 4294967296) (hx2 : xs[i + 2]? = some (nI p2)) (hp2 : p2 < 4294967296) : SR xs d 260 i n σ M μ ν a b R y6 y7 y8 := by
  obtain ⟨O, hC', hp, -⟩ := h.1
  by_cases hl : p1 < (σ 1 4) ∧ p2 < (σ 1 0)
  · obtain ⟨M', v, e, hP, hC2, hv⟩ := s_153 (xs := xs) (d := d + 7) (M := M) (R := mc σ μ ν ++ QH a b R) O hC' hl.1 hl.2
    have e1 := l_304 (xs := xs) (d := d + 28) e
    obtain ⟨T, w, e2, hT, hw⟩ := m_263 (xs := xs) (d := d + 13) (τ := σ) (M := M') (μ := μ) (ν := ν) (Q := QH (nI v).toInt64 b R) O hl
    obtain rfl := ST_d hv hw
    exact ⟨_, _, _, _, _, _, _, _, _, _, c_31 (d := d + 29) hi hx1 hx2 e1 e2 (u1_s _ _ _) (by decide) (fun _ => rfl), LST_k h hC2 hP (GT_w hT (by decide) (by decide))⟩
  · have e1 := l_304x2 (xs := xs) (d := d + 28) (s_153x (d := d + 27) (M := M) (R := mc σ μ ν ++ QH a b R) O hp1 hp2 hl)
    have e2 := m_263x (xs := xs) (d := d + 26) (τ := σ) (M := M) (μ := μ) (ν := ν) (Q := QH a b (R ++ [ex9])) O hp1 hp2 hl
    exact ⟨_, _, _, _, _, _, _, _, _, _, c_31 (d := d + 29) hi hx1 hx2 e1 e2 (u1_s _ _ _) (by decide) (fun z => by cases z), LST_x h⟩
set_option maxRecDepth 100000 in
theorem S_34 (h : LST n σ M ν R) (hi : i < 2000000) (hx1 : xs[i + 1]? = some (nI p1)) (hp1 : p1 < 4294967296) : SR xs d 282 i n σ M μ ν a b R y6 y7 y8 := by
  obtain ⟨O, hC', hp, -⟩ := h.1
  by_cases hl : p1 < 1 <<< (σ 1 6)
  · obtain ⟨f, v, e, hf, h6, hv⟩ := s_156 (xs := xs) (d := d + 18) (M := M) (R := mc σ μ ν ++ QH a b R) O hC' hl
    have e1 := l_306 (xs := xs) (d := d + 28) e
    obtain ⟨g, w, e2, hw6, hw⟩ := m_269 (xs := xs) (d := d + 19) (τ := σ) (M := ur M 53 f) (μ := μ) (ν := ν) (Q := QH (nI v).toInt64 b R) O hl
    obtain rfl := (XS_u hw hv).1
    exact ⟨_, _, _, _, _, _, _, _, _, _, c_34 (d := d + 29) hi hx1 e1 e2 (u1_s _ _ _) (by decide) (fun _ => rfl), LST_k h (CIv_53 hC' hf) PB_53 (GT_w (GT_1 (a := 6) (Nat.le_refl _)) (by decide) (by decide))⟩
  · have e1 := l_306x0 (xs := xs) (d := d + 28) (s_156x (d := d + 27) (M := M) (R := mc σ μ ν ++ QH a b R) O hp1 hl)
    have e2 := m_269x (xs := xs) (d := d + 28) (τ := σ) (M := M) (μ := μ) (ν := ν) (Q := QH a b (R ++ [ex9])) O hp1 hl
    exact ⟨_, _, _, _, _, _, _, _, _, _, c_34 (d := d + 29) hi hx1 e1 e2 (u1_s _ _ _) (by decide) (fun z => by cases z), LST_x h⟩
set_option maxRecDepth 100000 in
theorem S_35 (h : LST n σ M ν R) (hi : i < 2000000) (hx1 : xs[i + 1]? = some (nI p1)) (hp1 : p1 < 4294967296) (hx2 : xs[i + 2]? = some (nI p2)) (hp2 : p2 < 4294967296) : SR xs d 291 i n σ M μ ν a b R y6 y7 y8 := by
  obtain ⟨O, hC', hp, -⟩ := h.1
  by_cases hl : p2 < (σ 1 6)
  · by_cases hu : p1 < 1 <<< (σ 1 6) ∧ p1.testBit p2 = true
    · obtain ⟨f, v, e, hf, h6, hv⟩ := s_157 (xs := xs) (d := d + 18) (M := M) (R := mc σ μ ν ++ QH a b R) O hC' hl hu.1 hu.2
      have e1 := l_307 (xs := xs) (d := d + 28) e
      obtain ⟨g, w, e2, hw6, hw⟩ := m_270 (xs := xs) (d := d + 19) (τ := σ) (M := ur M 53 f) (μ := μ) (ν := ν) (Q := QH (nI (f p2)).toInt64 b R) O hl hu.1 hu.2
      rw [(XS_u hw hv).2 p2 hl hu.2] at e2
      exact ⟨_, _, _, _, _, _, _, _, _, _, c_35 (d := d + 29) hi hx1 hx2 e1 e2 (u1_s _ _ _) (by decide) (fun _ => rfl), LST_k h (CIv_53 hC' hf) PB_53 (GT_w (GT_1 (a := 6) (Nat.le_refl _)) (by decide) (by decide))⟩
    · have e1 := l_307x0 (xs := xs) (d := d + 28) (s_157y (d := d + 27) (M := M) (R := mc σ μ ν ++ QH a b R) O hp1 hl hu)
      have e2 := m_270y (xs := xs) (d := d + 27) (τ := σ) (M := M) (μ := μ) (ν := ν) (Q := QH a b (R ++ [ex9])) O hp1 hl hu
      exact ⟨_, _, _, _, _, _, _, _, _, _, c_35 (d := d + 29) hi hx1 hx2 e1 e2 (u1_s _ _ _) (by decide) (fun z => by cases z), LST_x h⟩
  · have e1 := l_307x2 (xs := xs) (d := d + 28) (s_157x (d := d + 27) (M := M) (R := mc σ μ ν ++ QH a b R) O hp1 hp2 hl)
    have e2 := m_270x (xs := xs) (d := d + 27) (τ := σ) (M := M) (μ := μ) (ν := ν) (u := p1) (Q := QH a b (R ++ [ex9])) O hp2 hl
    exact ⟨_, _, _, _, _, _, _, _, _, _, c_35 (d := d + 29) hi hx1 hx2 e1 e2 (u1_s _ _ _) (by decide) (fun z => by cases z), LST_x h⟩
set_option maxRecDepth 100000 in
theorem S_36 (h : LST n σ M ν R) (hi : i < 2000000) (hx1 : xs[i + 1]? = some (nI p1)) (hp1 : p1 < 4294967296) : SR xs d 300 i n σ M μ ν a b R y6 y7 y8 := by
  obtain ⟨O, hC', hp, -⟩ := h.1
  have e := s_158 (xs := xs) (d := d + 28) (M := M) (R := mc σ μ ν ++ QH a b R) O hp1
  by_cases hl : p1 ≤ 5
  · rw [if_pos hl] at e
    have e1 := l_308 (xs := xs) (d := d + 28) e
    have e2 := m_271 (xs := xs) (d := d + 28) (τ := σ) (M := M) (μ := μ) (ν := ν) (Q := QH (nI (cnt σ p1)).toInt64 b R) O hp1
    rw [if_pos hl] at e2
    exact ⟨_, _, _, _, _, _, _, _, _, _, c_36 (d := d + 29) hi hx1 e1 e2 (u1_s _ _ _) (by decide) (fun _ => rfl), LST_0 h⟩
  · rw [if_neg hl] at e
    have e1 := l_308x0 (xs := xs) (d := d + 28) e
    have e2 := m_271 (xs := xs) (d := d + 28) (τ := σ) (M := M) (μ := μ) (ν := ν) (Q := QH a b (R ++ [ex9])) O hp1
    rw [if_neg hl] at e2
    exact ⟨_, _, _, _, _, _, _, _, _, _, c_36 (d := d + 29) hi hx1 e1 e2 (u1_s _ _ _) (by decide) (fun z => by cases z), LST_x h⟩
set_option maxRecDepth 100000 in
theorem S_37 (h : LST n σ M ν R) (hi : i < 2000000) : SR xs d 309 i n σ M μ ν a b R y6 y7 y8 := by
  obtain ⟨O, hC', hp, -⟩ := h.1
  have h2 : M 12 0 < 2 := by rcases hp with ⟨h12, -⟩ | ⟨h12, -⟩ <;> omega
  have e1 := s_159 (xs := xs) (d := d + 28) (M := M) (R := mc σ μ ν ++ QH a b R) O h2
  have e2 : ∃ μ2, ev xs (d + 29) 272 0 ([.ref 62, .retAddr 9, .retAddr 9, .retAddr 9], [], mh σ M σ μ ν (QH a b R)) = some (.inl (some (.long (cks σ fun l => if M 12 0 = 1 then 10 * M 13 l + M 14 l else 4294967295))), mh σ M σ μ2 ν (QH a b R)) := by
    rcases hp with ⟨h12, hν⟩ | ⟨h12, h121, hb, j, hν, hj⟩
    · exact ⟨_, m_272 (d := d + 28) (i := 0) (s := fun _ => 0) (r := fun _ => 0) O (.inl ⟨hν, fun l _ => if_neg (by omega)⟩)⟩
    · exact ⟨_, m_272 (d := d + 28) O (.inr ⟨hν, QH_i hj, hb, fun l _ => if_pos h12⟩)⟩
  obtain ⟨μ2, e2⟩ := e2
  exact ⟨_, _, _, _, _, _, _, _, _, _, c_37 (d := d + 29) hi e1 e2, LST_0 h⟩
set_option maxRecDepth 100000 in
theorem S_40 (h : LST n σ M ν R) (hi : i < 2000000) : SR xs d 335 i n σ M μ ν a b R y6 y7 y8 := by
  obtain ⟨O, hC', hp, -⟩ := h.1
  obtain ⟨M', e1, hP, hC2⟩ := s_162 (xs := xs) (d := d + 7) (M := M) (R := mc σ μ ν ++ QH a b R) O hC'
  obtain ⟨T, e2, hT⟩ := m_275 (xs := xs) (d := d + 13) (τ := σ) (M := M') (μ := μ) (ν := ν) (Q := QH a b R) O hC2.1.1
  exact ⟨_, _, _, _, _, _, _, _, _, _, c_40 (d := d + 29) hi e1 e2, LST_k h hC2 hP (GT_w hT (by decide) (by decide))⟩
end Lwd
