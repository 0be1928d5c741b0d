/-! THE LAW: searches, improve -/
section Lwe
variable {xs : List Int32} {d n k i j p p1 p2 p3 v v2 w m : Nat} {σ τ M M2 : Nat → Nat → Nat} {μ μ2 : Nat → Nat} {ν ν2 : Nat → Value} {R T Q Q2 : ab_H} {a a2 : Int64} {b b2 : UInt64} {y6 y7 y8 : Value} {A : List Nat} {f s r : Nat → Nat} {G : (Nat → Nat) → (Nat → Nat) → Prop} {cst : (Nat → Nat) → (Nat → Nat) → Nat}
set_option maxRecDepth 100000 in
theorem ref_i {a b : Nat} (h : Value.ref a = Value.ref b) : a = b := by
  injection h
set_option maxRecDepth 100000 in
theorem mnh_eq (O : Ok σ) (hs : ∀ l, l < (σ 1 6) → s l < (σ 1 2)) : FP.dcmp (mnh σ s) (mnh σ s) = some .eq := by
  obtain ⟨hD1, hD2, hH1, hH2, hS, hC, hT, hR, hL, hQ⟩ := Ok_b O
  unfold mnh
  by_cases h : (σ 1 6) = 0
  · rw [if_pos h]
    decide +kernel
  · rw [if_neg h]
    exact ((fp_d _ (hsum_12 O hs) (σ 1 6) (by omega)).resolve_left h).2
set_option maxRecDepth 100000 in
theorem ush_eq (O : Ok σ) (hs : ∀ l, l < (σ 1 6) → s l < (σ 1 2)) : FP.dcmp (FP.f2d (ush σ s r)) (FP.f2d (ush σ s r)) = some .eq ∧ FP.f2d (ush σ s r) &&& 0x7fffffffffffffff ≤ 0x7ff0000000000000 := by
  obtain ⟨hD1, hD2, hH1, hH2, hS, hC, hT, hR, hL, hQ⟩ := Ok_b O
  unfold ush
  by_cases h : (σ 1 5) = 0
  · rw [if_pos h]
    decide +kernel
  · rw [if_neg h]
    have hu := usum (r := r) O hs (σ 1 5) (Nat.le_refl _)
    have hp0 : ¬ (σ 1 5) * (σ 1 2) = 0 := by
      rw [Nat.mul_eq_zero]
      omega
    have hp18 : (σ 1 5) * (σ 1 2) ≤ 3 * 6 := Nat.mul_le_mul hR (by omega)
    have hv := (fp_f (sm (σ 1 5) fun y => pc 10 (crm σ s r y)) (by omega) ((σ 1 5) * (σ 1 2)) (by omega)).resolve_left hp0
    exact ⟨hv.2.2, hv.2.1⟩
set_option maxRecDepth 100000 in
theorem S_38 (h : LST n σ M ν R) (hi : i < 2000000) : SR xs d 313 i n σ M μ ν a b R y6 y7 y8 := by
  obtain ⟨O, hC', hp, -⟩ := h.1
  rcases hp with ⟨h12, hν⟩ | ⟨h12, h121, hb, j, hν, hj⟩
  · have e1 := l_309x1 (xs := xs) (d := d + 28) (s_160y (d := d + 27) (M := M) (σ := σ) (R := mc σ μ ν ++ QH a b R) h12)
    obtain ⟨z, e2⟩ := m_273n (xs := xs) (d := d + 27) (τ := σ) (M := M) (σ := σ) (μ := μ) (Q := QH a b (R ++ [ex9])) hν
    exact ⟨_, _, _, _, _, _, _, _, _, _, c_38 (d := d + 29) hi e1 e2 (u1_s _ _ _) (by decide) (fun z => by cases z), LST_x h⟩
  · have e1 := l_309 (xs := xs) (d := d + 28) (s_160 (d := d + 27) (M := M) (R := mc σ μ ν ++ QH a b R) O h12 hb)
    have e2 := m_273 (xs := xs) (d := d + 27) (τ := σ) (M := M) (μ := μ) (Q := QH a (mnh σ (M 13)) R) O hν (QH_i hj) hb
    exact ⟨_, _, _, _, _, _, _, _, _, _, c_38 (d := d + 29) hi e1 e2 (u1_s _ _ _) (by decide) (fun _ => ⟨rfl, mnh_eq O fun l hl => (hb l hl).1⟩), LST_0 h⟩
set_option maxRecDepth 100000 in
theorem S_39 (h : LST n σ M ν R) (hi : i < 2000000) : SR xs d 324 i n σ M μ ν a b R y6 y7 y8 := by
  obtain ⟨O, hC', hp, -⟩ := h.1
  rcases hp with ⟨h12, hν⟩ | ⟨h12, h121, hb, j, hν, hj⟩
  · have e1 := l_310x1 (xs := xs) (d := d + 28) (s_161y (d := d + 27) (M := M) (σ := σ) (R := mc σ μ ν ++ QH a b R) h12)
    obtain ⟨z, e2⟩ := m_274n (xs := xs) (d := d + 27) (τ := σ) (M := M) (σ := σ) (μ := μ) (Q := QH a b (R ++ [ex9])) hν
    exact ⟨_, _, _, _, _, _, _, _, _, _, c_39 (d := d + 29) hi e1 e2 (u1_s _ _ _) (by decide) (fun z => by cases z), LST_x h⟩
  · have hq := ush_eq (r := M 14) O fun l hl => (hb l hl).1
    have e1 := l_310 (xs := xs) (d := d + 28) hq.2 (s_161 (d := d + 26) (M := M) (R := mc σ μ ν ++ QH a b R) O h12 hb)
    have e2 := m_274 (xs := xs) (d := d + 26) (τ := σ) (M := M) (μ := μ) (Q := QH a (FP.f2d (ush σ (M 13) (M 14))) R) O hν (QH_i hj) hb
    exact ⟨_, _, _, _, _, _, _, _, _, _, c_39 (d := d + 29) hi e1 e2 (u1_s _ _ _) (by decide) (fun _ => ⟨rfl, hq⟩), LST_0 h⟩
set_option maxRecDepth 100000 in
theorem LST_m (h : LST n σ M ν R) (hC' : CIv σ M2) (hP : PB0 M M2) (hν1 : ν2 1 = ν 1) (hν2 : ν2 2 = ν 2) (hp : PRS σ M2 ν2 (QH 0 0 (R ++ T))) (hD : ∀ j : Nat, ν2 0 = .ref (72 + j) → ν2 0 = ν 0 ∨ R.length + 3 ≤ j) (hT : GT T 268 7000) : LST (n + 1) σ M2 ν2 (R ++ T) := by
  obtain ⟨⟨h1, h2, h3, h4, ⟨h5, h6, o, h7, h8⟩, h9⟩, h10, h11, h12⟩ := h
  have q0 := hP 0 rfl
  have q15 := hP 15 rfl
  have q16 := hP 16 rfl
  have q17 := hP 17 rfl
  have q61 := hP 61 rfl
  refine ⟨⟨h1, hC', hp, ?_, ?_, ?_⟩, ?_, ?_, ?_⟩
  · unfold IMG
    rw [q15, q16, q17, hν1]
    rcases h4 with h | ⟨g1, g2, g3, i, g4, g5⟩
    · exact .inl h
    · exact .inr ⟨g1, g2, g3, i, g4, QH_ap g5⟩
  · unfold OUP
    rw [q0, q61, hν2]
    exact ⟨h5, h6, o, h7, QH_ap h8⟩
  · intro p hpp
    rcases hp with ⟨-, z⟩ | ⟨-, -, -, j, z, -⟩
    · rw [hpp] at z
      cases z
    · rcases hD j z with e | e
      · rw [hν1, hν2]
        exact h9 p (e ▸ hpp)
      · rw [hpp] at z
        obtain rfl : p = 72 + j := ref_i z
        rw [hν1, hν2]
        constructor
        · intro z1
          rcases h4 with ⟨-, -, g⟩ | ⟨g1, g2, g3, j1, g4, g5⟩
          · rw [z1] at g
            cases g
          · rw [z1] at g4
            have g6 : 72 + j = 72 + j1 := ref_i g4
            obtain ⟨g7, -⟩ := List.getElem?_eq_some_iff.mp g5
            have g8 : j1 < R.length + 3 := g7
            exact absurd e (by omega)
        · intro z1
          rw [z1] at h7
          have g6 : 72 + j = 72 + o := ref_i h7
          obtain ⟨g7, -⟩ := List.getElem?_eq_some_iff.mp h8
          have g8 : o < R.length + 3 := g7
          exact absurd e (by omega)
  · rw [hP 1 rfl]
    omega
  · rw [List.length_append]
    have := hT.1
    omega
  · rw [hsz_a]
    have := hT.2
    omega
set_option maxRecDepth 100000 in
theorem ar_tv (h : AG (σ 1 6) s r (M 13) (M 14)) : ar (σ 1 6) (tv σ s r) = ar (σ 1 6) (tv σ (M 13) (M 14)) := ar_cg fun l hl => by
  unfold tv
  rw [(h l hl).1, (h l hl).2]
set_option maxRecDepth 100000 in
theorem OM (hb : ∀ s r, G s r → ∀ l, l < (σ 1 6) → s l < (σ 1 2) ∧ r l < (σ 1 5)) (h : OUT σ M M2 v G cst) (h2 : MOU σ ν ν2 m Q2 w G cst) : w = v ∧ ν2 1 = ν 1 ∧ ν2 2 = ν 2 ∧ ((M2 12 = M 12 ∧ M2 13 = M 13 ∧ M2 14 = M 14 ∧ ν2 0 = ν 0) ∨ (M2 12 0 = 1 ∧ M2 12 1 = (σ 1 6) ∧ (∀ l, l < (σ 1 6) → M2 13 l < (σ 1 2) ∧ M2 14 l < (σ 1 5)) ∧ ∃ j : Nat, ν2 0 = .ref (72 + j) ∧ m ≤ j ∧ Q2[j]? = some (oI (ar (σ 1 6) (tv σ (M2 13) (M2 14)))))) := by
  obtain ⟨hν, h2⟩ := h2
  rcases h with ⟨a1, a2, a3, a4, a5⟩ | ⟨a1, a2, a3, a4, a5, a6, a7⟩
  · rcases h2 with ⟨b1, b2', b3⟩ | ⟨j, s, r, b1, b2', b3, b4, b5, b6, b7, b8, b9⟩
    · exact ⟨b1.trans a1.symm, hν 1 (by decide), hν 2 (by decide), .inl ⟨a2, a3, a4, b2'⟩⟩
    · exact absurd b5 (a5 s r)
  · rcases h2 with ⟨b1, b2', b3⟩ | ⟨j, s, r, b1, b2', b3, b4, b5, b6, b7, b8, b9⟩
    · exact absurd a4 (b3 _ _)
    · have e1 := a6 s r b5
      have e2 := b8 _ _ a4
      have e3 : w = v := by omega
      refine ⟨e3, hν 1 (by decide), hν 2 (by decide), .inr ⟨a2, a3, hb _ _ a4, j, b1, b2', ?_⟩⟩
      rw [b3, ar_tv (LX_tri (a7 s r b5 (by omega)) (b9 _ _ a4 (by omega)))]
set_option maxRecDepth 100000 in
theorem LST_s (h : LST n σ M ν R) (hC' : CIv σ M2) (hP : PB0 M M2) (hν1 : ν2 1 = ν 1) (hν2 : ν2 2 = ν 2) (ho : (M2 12 = M 12 ∧ M2 13 = M 13 ∧ M2 14 = M 14 ∧ ν2 0 = ν 0) ∨ (M2 12 0 = 1 ∧ M2 12 1 = (σ 1 6) ∧ (∀ l, l < (σ 1 6) → M2 13 l < (σ 1 2) ∧ M2 14 l < (σ 1 5)) ∧ ∃ j : Nat, ν2 0 = .ref (72 + j) ∧ (QH a b R).length ≤ j ∧ (QH a b R ++ T)[j]? = some (oI (ar (σ 1 6) (tv σ (M2 13) (M2 14)))))) (hT : GT T 268 7000) : LST (n + 1) σ M2 ν2 (R ++ T) := by
  refine LST_m h hC' hP hν1 hν2 ?_ ?_ hT
  · rcases ho with ⟨o1, o2, o3, o4⟩ | ⟨o1, o2, o3, j, o4, o5, o6⟩
    · unfold PRS
      rw [o1, o2, o3, o4]
      rcases h.1.2.2.1 with g | ⟨g1, g2, g3, i, g4, g5⟩
      · exact .inl g
      · exact .inr ⟨g1, g2, g3, i, g4, QH_ap g5⟩
    · exact .inr ⟨o1, o2, o3, j, o4, QH_i (a := a) (b := b) o6⟩
  · intro j hj
    rcases ho with ⟨-, -, -, o4⟩ | ⟨-, -, -, j2, o4, o5, -⟩
    · exact .inl o4
    · rw [hj] at o4
      have g6 : 72 + j = 72 + j2 := ref_i o4
      have g8 : R.length + 3 ≤ j2 := o5
      exact .inr (by omega)
set_option maxRecDepth 100000 in
theorem PRS_n (h : PRS σ M ν Q) : ν 0 = .null ∨ ∃ a, ν 0 = .ref a := by
  rcases h with ⟨-, z⟩ | ⟨-, -, -, j, z, -⟩
  · exact .inl z
  · exact .inr ⟨_, z⟩
set_option maxRecDepth 100000 in
theorem S_9 (h : LST n σ M ν R) (hi : i < 2000000) : SR xs d 86 i n σ M μ ν a b R y6 y7 y8 := by
  obtain ⟨O, hC', hp, -⟩ := h.1
  obtain ⟨M', v, e1, hP, hC2, hv⟩ := s_131 (xs := xs) (d := d + 7) (M := M) (R := mc σ μ ν ++ QH a b R) O hC'
  obtain ⟨ν', T, w, e2, hT, hw⟩ := m_233 (xs := xs) (d := d + 15) (τ := σ) (M := M') (μ := μ) (Q := QH a b R) O (PRS_n hp)
  obtain ⟨rfl, o1, o2, o3⟩ := OM (fun s r hG => hG.1) hv hw
  exact ⟨_, _, _, _, _, _, _, _, _, _, c_9 (d := d + 29) hi e1 e2, LST_s h hC2 hP o1 o2 o3 (GT_w hT (by decide) (by decide))⟩
set_option maxRecDepth 100000 in
theorem S_27 (h : LST n σ M ν R) (hi : i < 2000000) : SR xs d 234 i n σ M μ ν a b R y6 y7 y8 := by
  obtain ⟨O, hC', hp, -⟩ := h.1
  obtain ⟨M', v, e1, hP, hC2, hv⟩ := s_149 (xs := xs) (d := d + 7) (M := M) (R := mc σ μ ν ++ QH a b R) O hC'
  obtain ⟨ν', T, w, e2, hT, hw⟩ := m_257 (xs := xs) (d := d + 15) (τ := σ) (M := M') (μ := μ) (ν := ν) (Q := QH a b R) O
  obtain ⟨rfl, o1, o2, o3⟩ := OM (fun s r hG => hG.1) hv hw
  exact ⟨_, _, _, _, _, _, _, _, _, _, c_27 (d := d + 29) hi e1 e2, LST_s h hC2 hP o1 o2 o3 (GT_w hT (by decide) (by decide))⟩
set_option maxRecDepth 100000 in
theorem S_32 (h : LST n σ M ν R) (hi : i < 2000000) : SR xs d 269 i n σ M μ ν a b R y6 y7 y8 := by
  obtain ⟨O, hC', hp, -⟩ := h.1
  obtain ⟨M', v, e1, hP, hC2, hv⟩ := s_154 (xs := xs) (d := d + 7) (M := M) (R := mc σ μ ν ++ QH a b R) O hC'
  obtain ⟨ν', T, w, e2, hT, hw⟩ := m_264 (xs := xs) (d := d + 15) (τ := σ) (M := M') (μ := μ) (Q := QH a b R) O (PRS_n hp)
  obtain ⟨rfl, o1, o2, o3⟩ := OM (fun s r hG => hG.1) hv hw
  exact ⟨_, _, _, _, _, _, _, _, _, _, c_32 (d := d + 29) hi e1 e2, LST_s h hC2 hP o1 o2 o3 (GT_w hT (by decide) (by decide))⟩
set_option maxRecDepth 100000 in
theorem S_30 (h : LST n σ M ν R) (hi : i < 2000000) (hx1 : xs[i + 1]? = some (nI p1)) (hp1 : p1 < 4294967296) (hx2 : xs[i + 2]? = some (nI p2)) (hp2 : p2 < 4294967296) : SR xs d 251 i n σ M μ ν a b R y6 y7 y8 := by
  obtain ⟨O, hC', hp, -⟩ := h.1
  by_cases hl : p1 < (σ 1 4) ∧ p2 < (σ 1 0)
  · rcases hp with ⟨h12, hν⟩ | ⟨h12, h121, hb, j, hν, hj⟩
    · have e1 := l_303x1 (xs := xs) (d := d + 28) (s_152y (d := d + 27) (M := M) (R := mc σ μ ν ++ QH a b R) O hl.1 hl.2 h12)
      have e2 := m_262n (xs := xs) (d := d + 26) (τ := σ) (M := M) (μ := μ) (Q := QH a b (R ++ [ex9])) O hl hν
      exact ⟨_, _, _, _, _, _, _, _, _, _, c_30 (d := d + 29) hi hx1 hx2 e1 e2 (u1_s _ _ _) (by decide) (fun z => by cases z), LST_x h⟩
    · obtain ⟨M', v, e, hP, hC2, hv⟩ := s_152 (xs := xs) (d := d + 6) (M := M) (R := mc σ μ ν ++ QH a b R) O hC' hl.1 hl.2 h12 hb
      have e1 := l_303 (xs := xs) (d := d + 28) e
      obtain ⟨ν', T, w, e2, hT, hw⟩ := m_262 (xs := xs) (d := d + 15) (τ := σ) (M := M') (μ := μ) (Q := QH (nI v).toInt64 b R) O hl hν (QH_i hj) hb
      obtain ⟨rfl, o1, o2, o3⟩ := OM (fun s r hG => hG.1.1) hv hw
      exact ⟨_, _, _, _, _, _, _, _, _, _, c_30 (d := d + 29) hi hx1 hx2 e1 e2 (u1_s _ _ _) (by decide) (fun _ => rfl), LST_s h hC2 hP o1 o2 o3 (GT_w hT (by decide) (by decide))⟩
  · have e1 := l_303x2 (xs := xs) (d := d + 28) (s_152x (d := d + 27) (M := M) (R := mc σ μ ν ++ QH a b R) O hp1 hp2 hl)
    have e2 := m_262x (xs := xs) (d := d + 26) (τ := σ) (M := M) (μ := μ) (ν := ν) (Q := QH a b (R ++ [ex9])) O hp1 hp2 hl
    exact ⟨_, _, _, _, _, _, _, _, _, _, c_30 (d := d + 29) hi hx1 hx2 e1 e2 (u1_s _ _ _) (by decide) (fun z => by cases z), LST_x h⟩
set_option maxRecDepth 100000 in
theorem S_10 (h : LST n σ M ν R) (hi : i < 2000000) : SR xs d 90 i n σ M μ ν a b R y6 y7 y8 := by
  obtain ⟨O, hC', hp, -⟩ := h.1
  rcases hp with ⟨h12, hν⟩ | ⟨h12, h121, hb, j, hν, hj⟩
  · have e1 := l_288x1 (xs := xs) (d := d + 28) (s_132y (d := d + 27) (M := M) (σ := σ) (R := mc σ μ ν ++ QH a b R) h12)
    have e2 := m_235n (xs := xs) (d := d + 27) (τ := σ) (M := M) (σ := σ) (μ := μ) (Q := QH a b (R ++ [ex9])) hν
    exact ⟨_, _, _, _, _, _, _, _, _, _, c_10_false (d := d + 29) hi e1 e2 (u1_s _ _ _) (by decide) (fun z => by cases z), LST_x h⟩
  · obtain ⟨M', c, e, hP, hC2, hf, ht⟩ := s_132 (xs := xs) (d := d + 3) (M := M) (R := mc σ μ ν ++ QH a b R) O hC' h12 hb
    obtain ⟨ν', T, c2, e2, hT, hν', hf2, ht2⟩ := m_235 (xs := xs) (d := d + 16) (τ := σ) (M := M') (μ := μ) (Q := QH (if c = true then 1 else 0) b R) O hν (QH_i hj) hb
    cases c
    · have hc2 : c2 = false := by
        cases c2
        · rfl
        · obtain ⟨j2, s, r, w1, w2, w3, w4, w5, w6⟩ := ht2 rfl
          exact absurd w5 ((hf rfl).2.2.2 s r w4)
      subst hc2
      obtain ⟨a1, a2, a3, a4⟩ := hf rfl
      have e1 := l_288_0 (xs := xs) (d := d + 28) e
      exact ⟨_, _, _, _, _, _, _, _, _, _, c_10_false (d := d + 29) hi e1 e2 (u1_s _ _ _) (by decide) (fun _ => rfl), LST_s (a := 0) (b := b) h hC2 hP (hν' 1 (by decide)) (hν' 2 (by decide)) (.inl ⟨a1, a2, a3, (hf2 rfl).1⟩) (GT_w hT (by decide) (by decide))⟩
    · obtain ⟨a1, a2, a3, a4, a5⟩ := ht rfl
      have hc2 : c2 = true := by
        cases c2
        · exact absurd a4 ((hf2 rfl).2 _ _ a3)
        · rfl
      subst hc2
      obtain ⟨j2, s, r, w1, w2, w3, w4, w5, w6⟩ := ht2 rfl
      have e1 := l_288_1 (xs := xs) (d := d + 28) e
      rw [ar_tv (M := M') (LX_tri (a5 s r w4 w5) (w6 _ _ a3 a4))] at w3
      exact ⟨_, _, _, _, _, _, _, _, _, _, c_10_true (d := d + 29) hi e1 e2 (u1_s _ _ _) (by decide) (fun _ => rfl), LST_s (a := 1) (b := b) h hC2 hP (hν' 1 (by decide)) (hν' 2 (by decide)) (.inr ⟨a1, a2, a3.1, j2, w1, w2, w3⟩) (GT_w hT (by decide) (by decide))⟩
set_option maxRecDepth 100000 in
theorem GT_z2 : ∀ T : ab_H, SZ2 T → ab_hsz T ≤ 6 * T.length := by
  intro T
  induction T with
  | nil => intro _; exact Nat.le_refl _
  | cons o T ih =>
    intro h
    have h1 := ih fun o ho => h o (List.mem_cons_of_mem _ ho)
    obtain ⟨n, f, hn, hf⟩ := h o List.mem_cons_self
    have h2 : ab_hsz (o :: T) = ab_osz o + ab_hsz T := hsz_a (A := [o]) (B := T) |>.trans (by rw [hsz_1])
    have h3 : ab_osz o = n := by rw [hf]; exact ar_len _ _
    rw [h2, List.length_cons]
    omega
set_option maxRecDepth 100000 in
theorem S_29 (h : LST n σ M ν R) (hi : i < 2000000) : SR xs d 242 i n σ M μ ν a b R y6 y7 y8 := by
  obtain ⟨O, hC', hp, -⟩ := h.1
  rcases hp with ⟨h12, hν⟩ | ⟨h12, h121, hb, j, hν, hj⟩
  · have e1 := l_302x1 (xs := xs) (d := d + 28) (s_151y (d := d + 27) (M := M) (σ := σ) (R := mc σ μ ν ++ QH a b R) h12)
    have e2 := m_260n (xs := xs) (d := d + 28) (τ := σ) (M := M) (σ := σ) (μ := μ) (Q := QH a b (R ++ [ex9])) hν
    exact ⟨_, _, _, _, _, _, _, _, _, _, c_29 (d := d + 29) hi e1 e2 (u1_s _ _ _) (by decide) (fun z => by cases z), LST_x h⟩
  · by_cases hg : flt σ (M 13) (M 14) = 0 ∧ brk σ (M 13) (M 14) = 0
    · obtain ⟨M', e, hF, a1, a2, a3, a4⟩ := s_151 (xs := xs) (d := d + 18) (M := M) (R := mc σ μ ν ++ QH a b R) O h12 h121 hb hg
      have e1 := l_302 (xs := xs) (d := d + 28) e
      obtain ⟨μ', ν', T, e2, q1, q2, q3, ⟨j2, q4, q5, q6⟩, q7, q8⟩ := m_260 (xs := xs) (d := d + 17) (τ := σ) (M := M') (μ := μ) (Q := QH (nI (wt σ (M 13) (M 14)) - nI (RO σ (M 13) (M 14)).1).toInt64 b R) O (QH_i hj) hν hb hg
      have hC2 : CIv σ M' := CIv_g hC' (hF 1 rfl) (hF 19 rfl) (hF 24 rfl) (hF 25 rfl) (hF 32 rfl) (hF 37 rfl) (hF 38 rfl) (hF 40 rfl) (hF 41 rfl) (hF 54 rfl) (by rw [hF 53 rfl]; exact hC'.2.2.2)
      have hT : GT T 148 888 := ⟨q8, by have := GT_z2 T q7; omega⟩
      rw [← a3, ← a4] at q3 q6
      refine ⟨_, _, _, _, _, _, _, _, _, _, c_29 (d := d + 29) hi e1 e2 q1 (by decide) (fun _ => rfl), LST_m h hC2 (Fr_PB0 hF rfl) (q2 1 (by decide) (by decide)) (q2 2 (by decide) (by decide)) (.inr ⟨a1, a2, q3, j2, q4, QH_i q6⟩) (fun j3 hj3 => ?_) (GT_w hT (by decide) (by decide))⟩
      rw [hj3] at q4
      have g6 : (72 + j3 : Nat) = (72 + j2 : Nat) := ref_i q4
      rcases q5 with q5 | q5
      · have g9 : @Eq Nat j2 j := q5
        rw [hj3, hν, show j3 = j by omega]
        exact .inl rfl
      · have g8 : R.length + 3 ≤ j2 := q5
        exact .inr (by omega)
    · have e1 := l_302x1 (xs := xs) (d := d + 28) (s_151z (d := d + 23) (M := M) (R := mc σ μ ν ++ QH a b R) O h12 hb hg)
      have e2 := m_260z (xs := xs) (d := d + 22) (τ := σ) (M := M) (μ := μ) (Q := QH a b (R ++ [ex9])) O (QH_ap hj) hν hb hg
      exact ⟨_, _, _, _, _, _, _, _, _, _, c_29 (d := d + 29) hi e1 e2 (u1_s _ _ _) (by decide) (fun z => by cases z), LST_x h⟩
end Lwe
