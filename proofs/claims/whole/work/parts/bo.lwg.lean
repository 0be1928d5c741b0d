/-! THE LAW: image, restore, print -/
section Lwg
variable {xs : List Int32} {d n k i j p p1 p2 p3 v v2 w m L : Nat} {σ σ2 τ M M2 : Nat → Nat → Nat} {μ μ2 : Nat → Nat} {ν ν2 : Nat → Value} {R R2 T Q Q2 : ab_H} {a a2 : Int64} {b b2 : UInt64} {y6 y7 y8 : Value} {f g s r : Nat → Nat} {o o2 : ab_O}
-- a new array is taken up
set_option maxRecDepth 100000 in
theorem LST_q (h : LST n σ M ν R) (hC2 : CIv σ M2) (q1 : M2 1 = M 1) (hp : PRS σ M2 ν2 (QH 0 0 (R ++ T))) (hi : IMG M2 ν2 (QH 0 0 (R ++ T))) (ho : OUP M2 ν2 (QH 0 0 (R ++ T))) (hD : ∀ p, ν2 0 = .ref p → ν2 1 ≠ .ref p ∧ ν2 2 ≠ .ref p) (hT : GT T 268 7000) : LST (n + 1) σ M2 ν2 (R ++ T) := by
  obtain ⟨⟨h1, -⟩, h10, h11, h12⟩ := h
  refine ⟨⟨h1, hC2, hp, hi, ho, hD⟩, by rw [q1]; omega, ?_, ?_⟩
  · rw [List.length_append]
    have := hT.1
    omega
  · rw [hsz_a]
    have := hT.2
    omega
set_option maxRecDepth 100000 in
theorem IMG_a (h : IMG M ν Q) (q15 : M2 15 = M 15) (q16 : M2 16 = M 16) (q17 : M2 17 = M 17) (hν : ν2 1 = ν 1) : IMG M2 ν2 (Q ++ T) := by
  unfold IMG
  rw [q15, q16, q17, hν]
  rcases h with h | ⟨g1, g2, g3, i, g4, g5⟩
  · exact .inl h
  · exact .inr ⟨g1, g2, g3, i, g4, gt_ap g5⟩
set_option maxRecDepth 100000 in
theorem OUP_a (h : OUP M ν Q) (q0 : M2 0 = M 0) (q61 : M2 61 = M 61) (hν : ν2 2 = ν 2) : OUP M2 ν2 (Q ++ T) := by
  obtain ⟨h5, h6, o, h7, h8⟩ := h
  unfold OUP
  rw [q0, q61, hν]
  exact ⟨h5, h6, o, h7, gt_ap h8⟩
set_option maxRecDepth 100000 in
theorem PRS_a (h : PRS σ M ν Q) (q12 : M2 12 = M 12) (q13 : M2 13 = M 13) (q14 : M2 14 = M 14) (hν : ν2 0 = ν 0) : PRS σ M2 ν2 (Q ++ T) := by
  unfold PRS
  rw [q12, q13, q14, hν]
  rcases h with h | ⟨g1, g2, g3, i, g4, g5⟩
  · exact .inl h
  · exact .inr ⟨g1, g2, g3, i, g4, gt_ap g5⟩
-- the last place is new
set_option maxRecDepth 100000 in
theorem QH_new (h : (QH 0 0 R)[j]? = some o) : j ≠ R.length + 3 := by
  obtain ⟨h1, -⟩ := List.getElem?_eq_some_iff.mp h
  have h2 : j < R.length + 3 := h1
  omega
set_option maxRecDepth 100000 in
theorem IMG_15 (h : IMG M ν Q) : M 15 0 < 2 ∧ M 15 1 ≤ 6 ∧ (M 15 0 = 1 → ∀ l, l < M 15 1 → M 16 l < 6 ∧ M 17 l < 3) := by
  rcases h with ⟨h1, h2, -⟩ | ⟨h1, h2, h3, -⟩
  · exact ⟨by omega, h2, fun z => by omega⟩
  · exact ⟨by omega, h2, fun _ => h3⟩
set_option maxRecDepth 100000 in
theorem S_15 (h : LST n σ M ν R) (hi : i < 2000000) : SR xs d 138 i n σ M μ ν a b R y6 y7 y8 := by
  obtain ⟨O, hC', hp, hI, hO, hD⟩ := h.1
  have hp0 := hp
  rcases hp with ⟨h12, hν⟩ | ⟨h12, h121, hb, j, hν, hj⟩
  · have e1 := l_293x1 (xs := xs) (d := d + 28) (s_137y (d := d + 27) (M := M) (σ := σ) (R := mc σ μ ν ++ QH a b R) h12)
    have e2 := m_240n (xs := xs) (d := d + 27) (τ := σ) (M := M) (σ := σ) (μ := μ) (Q := QH a b (R ++ [ex9])) hν
    exact ⟨_, _, _, _, _, _, _, _, _, _, c_15 (d := d + 29) hi e1 e2 (u1_s _ _ _) (by decide) (fun z => by cases z), LST_x h⟩
  · obtain ⟨i1, i2, i3⟩ := IMG_15 hI
    have hL := (Ok_b O).2.2.2.2.2.2.2.2.1
    have hS := Ok_b O
    have e := s_137 (xs := xs) (d := d + 27) (M := M) (R := mc σ μ ν ++ QH a b R) O h12 h121 hb i1 i2 i3
    have e1 := l_293 (xs := xs) (d := d + 28) e
    have c0 : cpt M 15 12 15 0 = 1 := h12
    have c1 : cpt M 15 12 15 1 = (σ 1 6) := h121
    have fin : ∀ c, (QH c b R ++ [oI (ar (σ 1 6) fun l => 10 * M 13 l + M 14 l)])[R.length + 3]? = some (oI (ar (σ 1 6) fun l => 10 * M 13 l + M 14 l)) := fun c => gt_last (B := QH c b R)
    have go : ∀ v c μ2, c = (nI v).toInt64 → v = (if M 15 0 = 1 ∧ M 15 1 = (σ 1 6) then dif (σ 1 6) (M 13) (M 14) (M 16) (M 17) else 4294967295) → ev xs (d + 29) 240 0 ([.ref 62, .retAddr 9, .retAddr 9, .retAddr 9], [], mh σ (cpt M 15 12) σ μ ν (QH c b R)) = some (.inl (some (.int (nI (v)))), mh σ (cpt M 15 12) σ μ2 (uv ν 1 (.ref (72 + (R.length + 3)))) (QH c b R ++ [oI (ar (σ 1 6) fun l => 10 * M 13 l + M 14 l)])) → μ2 0 = 0 → SR xs d 138 i n σ M μ ν a b R y6 y7 y8 := by
      intro v c μ2 hcv hv e2 hμ
      subst hcv
      rw [← hv] at e1
      refine ⟨_, _, _, _, _, _, _, _, _, _, c_15 (d := d + 29) hi e1 e2 hμ (by decide) (fun _ => rfl), LST_q h (CIv_g hC' rfl rfl rfl rfl rfl rfl rfl rfl rfl rfl hC'.2.2.2) rfl (PRS_a (Q := QH 0 0 R) hp0 rfl rfl rfl rfl) (.inr ⟨c0, by rw [c1]; exact hL, fun l hl => ?_, R.length + 3, if_pos rfl, ?_⟩) (OUP_a (Q := QH 0 0 R) hO rfl rfl rfl) (fun p hpp => ⟨?_, ?_⟩) (GT_w (GT_1 (a := 6) hL) (by decide) (by decide))⟩
      · rw [c1] at hl
        have := hb l hl
        show M 13 l < 6 ∧ M 14 l < 3
        omega
      · rw [c1]
        exact fin 0
      · intro z
        have z2 : uv ν 1 (.ref (72 + (R.length + 3))) 1 = .ref (72 + (R.length + 3)) := if_pos rfl
        have z3 : ν 0 = .ref p := hpp
        rw [z2] at z
        rw [hν] at z3
        have g1 : 72 + (R.length + 3) = p := ref_i z
        have g2 : 72 + j = p := ref_i z3
        exact QH_new hj (by omega)
      · exact (hD p hpp).2
    by_cases hm : M 15 0 = 1 ∧ M 15 1 = (σ 1 6)
    · rcases hI with ⟨g1, -⟩ | ⟨g1, g2, g3, j1, g4, g5⟩
      · omega
      · rw [hm.2] at g3 g5
        have e2 := m_240b (xs := xs) (d := d + 27) (τ := σ) (M := cpt M 15 12) (μ := μ) (Q := QH (nI (dif (σ 1 6) (M 13) (M 14) (M 16) (M 17))).toInt64 b R) O hν (QH_i hj) hb g4 (QH_i g5) g3
        exact go _ _ _ rfl (if_pos hm).symm e2 (u1_s _ _ _)
    · have e2 := m_240a (xs := xs) (d := d + 27) (τ := σ) (M := cpt M 15 12) (μ := μ) (ν := ν) (j := (match hI with | _ => 0)) (n := 0) (g := fun _ => 0) (Q := QH (nI 4294967295).toInt64 b R) O hν (QH_i hj) hb
      have e3 : ∃ μ2, ev xs (d + 29) 240 0 ([.ref 62, .retAddr 9, .retAddr 9, .retAddr 9], [], mh σ (cpt M 15 12) σ μ ν (QH (nI 4294967295).toInt64 b R)) = some (.inl (some (.int (nI (4294967295)))), mh σ (cpt M 15 12) σ μ2 (uv ν 1 (.ref (72 + (R.length + 3)))) (QH (nI 4294967295).toInt64 b R ++ [oI (ar (σ 1 6) fun l => 10 * M 13 l + M 14 l)])) ∧ μ2 0 = 0 := by
        rcases hI with ⟨g1, g2, g3⟩ | ⟨g1, g2, g3, j1, g4, g5⟩
        · exact ⟨_, m_240a (d := d + 27) (j := 0) (n := 0) (g := fun _ => 0) O hν (QH_i hj) hb (.inl g3), u1_s _ _ _⟩
        · exact ⟨_, m_240a (d := d + 27) O hν (QH_i hj) hb (.inr ⟨g4, QH_i g5, g2, fun z => hm ⟨g1, z⟩⟩), u1_s _ _ _⟩
      obtain ⟨μ2, e3, hμ⟩ := e3
      exact go _ _ _ rfl (if_neg hm).symm e3 hμ
set_option maxRecDepth 100000 in
theorem S_16 (h : LST n σ M ν R) (hi : i < 2000000) : SR xs d 147 i n σ M μ ν a b R y6 y7 y8 := by
  obtain ⟨O, hC', hp, hI, hO, hD⟩ := h.1
  obtain ⟨i1, i2, i3⟩ := IMG_15 hI
  have hL := (Ok_b O).2.2.2.2.2.2.2.2.1
  have p1 : M 12 0 < 2 := by rcases hp with ⟨h12, -⟩ | ⟨h12, -⟩ <;> omega
  have p2 : M 12 0 = 1 → M 12 1 = (σ 1 6) := fun z => by
    rcases hp with ⟨h12, -⟩ | ⟨h12, h121, -⟩
    · omega
    · exact h121
  have p3 : M 12 0 = 1 → ∀ l, l < (σ 1 6) → M 13 l < (σ 1 2) ∧ M 14 l < (σ 1 5) := fun z => by
    rcases hp with ⟨h12, -⟩ | ⟨h12, h121, hb, -⟩
    · omega
    · exact hb
  rcases s_138 (xs := xs) (d := d + 27) (M := M) (R := mc σ μ ν ++ QH a b R) O p1 p2 p3 i1 i2 i3 with ⟨hn, e⟩ | ⟨hy, e⟩
  · have e1 := l_294x1 (xs := xs) (d := d + 28) e
    have e2 : ∃ μ2, ev xs (d + 29) 241 0 ([.ref 62, .retAddr 9, .retAddr 9, .retAddr 9, .retAddr 9], [], mh σ M σ μ ν (QH a b (R ++ [ex9]))) = some (.inl (some (.int (nI (0)))), mh σ M σ μ2 ν (QH a b (R ++ [ex9]))) ∧ μ2 0 = 1 := by
      rcases hI with ⟨g1, g2, g3⟩ | ⟨g1, g2, g3, j1, g4, g5⟩
      · exact ⟨_, m_241x (d := d + 27) (j := 0) (n := 0) (g := fun _ => 0) O (.inl g3), u1_s _ _ _⟩
      · by_cases hm : M 15 1 = (σ 1 6)
        · rw [hm] at g3 g5
          exact ⟨_, m_241y (d := d + 27) O g4 (QH_ap g5) g3 (fun z => hn ⟨g1, hm, z⟩), u1_s _ _ _⟩
        · exact ⟨_, m_241x (d := d + 27) O (.inr ⟨g4, QH_ap g5, g2, hm⟩), u1_s _ _ _⟩
    obtain ⟨μ2, e2, hμ⟩ := e2
    exact ⟨_, _, _, _, _, _, _, _, _, _, c_16 (d := d + 29) hi e1 e2 hμ (by decide) (fun z => by cases z), LST_x h⟩
  · have e1 := l_294 (xs := xs) (d := d + 28) e
    rcases hI with ⟨g1, -⟩ | ⟨g1, g2, g3, j1, g4, g5⟩
    · omega
    · rw [hy.2.1] at g5
      have c0 : cpt M 12 15 12 0 = 1 := g1
      have c1 : cpt M 12 15 12 1 = (σ 1 6) := hy.2.1
      have fin : ∀ (v w : Nat), w = v → ev xs (d + 29) 241 0 ([.ref 62, .retAddr 9, .retAddr 9, .retAddr 9, .retAddr 9], [], mh σ (cpt M 12 15) σ μ ν (QH (nI v).toInt64 b R)) = some (.inl (some (.int (nI (w)))), mh σ (cpt M 12 15) σ (u1 μ 0 0) (uv ν 0 (.ref (72 + (R.length + 3)))) (QH (nI v).toInt64 b R ++ [oI (ar (σ 1 6) (tv σ (M 16) (M 17)))])) → v = (if M 12 0 = 1 then dif (σ 1 6) (M 13) (M 14) (M 16) (M 17) else 4294967295) → SR xs d 147 i n σ M μ ν a b R y6 y7 y8 := by
        intro v w hwv e2 hv
        subst hwv
        rw [← hv] at e1
        have e9 : (R ++ [oI (ar (σ 1 6) (tv σ (M 16) (M 17)))]).length = R.length + 1 := by rw [List.length_append]; rfl
        refine ⟨_, _, _, _, _, _, _, _, _, _, c_16 (d := d + 29) hi e1 e2 (u1_s _ _ _) (by decide) (fun _ => rfl), LST_q h (CIv_g hC' rfl rfl rfl rfl rfl rfl rfl rfl rfl rfl hC'.2.2.2) rfl (.inr ⟨c0, c1, hy.2.2, R.length + 3, if_pos rfl, gt_last (B := QH 0 0 R)⟩) (IMG_a (Q := QH 0 0 R) (.inr ⟨g1, g2, g3, j1, g4, by rw [hy.2.1]; exact g5⟩) rfl rfl rfl rfl) (OUP_a (Q := QH 0 0 R) hO rfl rfl rfl) (fun p hpp => ?_) (GT_w (GT_1 (a := 6) hL) (by decide) (by decide))⟩
        have z2 : uv ν 0 (.ref (72 + (R.length + 3))) 0 = .ref (72 + (R.length + 3)) := if_pos rfl
        rw [z2] at hpp
        have q1 : 72 + (R.length + 3) = p := ref_i hpp
        obtain ⟨-, -, o, h7, h8⟩ := hO
        constructor
        · intro z
          have z3 : ν 1 = .ref p := z
          rw [g4] at z3
          have q2 : 72 + j1 = p := ref_i z3
          exact QH_new g5 (by omega)
        · intro z
          have z3 : ν 2 = .ref p := z
          rw [h7] at z3
          have q2 : 72 + o = p := ref_i z3
          exact QH_new h8 (by omega)
      rcases hp with ⟨h12, hν⟩ | ⟨h12, h121, hb, j, hν, hj⟩
      · obtain ⟨v, e2, hv1, hv2⟩ := m_241 (xs := xs) (d := d + 27) (τ := σ) (M := cpt M 12 15) (μ := μ) (i := 0) (s := fun _ => 0) (r := fun _ => 0) (Q := QH (nI 4294967295).toInt64 b R) O g4 (QH_i g5) hy.2.2 (.inl hν)
        exact fin 4294967295 v (hv1 hν) e2 (if_neg (by omega)).symm
      · obtain ⟨v, e2, hv1, hv2⟩ := m_241 (xs := xs) (d := d + 27) (τ := σ) (M := cpt M 12 15) (μ := μ) (Q := QH (nI (dif (σ 1 6) (M 13) (M 14) (M 16) (M 17))).toInt64 b R) O g4 (QH_i g5) hy.2.2 (.inr ⟨hν, QH_i hj, hb⟩)
        exact fin _ v (hv2 ⟨_, hν⟩) e2 (if_pos h12).symm
set_option maxRecDepth 100000 in
theorem S_17 (h : LST n σ M ν R) (hi : i < 2000000) (hx1 : xs[i + 1]? = some (nI p1)) (hp1 : p1 < 4294967296) (hx2 : xs[i + 2]? = some (nI p2)) (hp2 : p2 < 4294967296) : SR xs d 156 i n σ M μ ν a b R y6 y7 y8 := by
  obtain ⟨O, hC', hp, hI, hO, hD⟩ := h.1
  have hp0 := hp
  by_cases hk : p1 ≤ 2
  · by_cases hl : p2 < bdk σ p1
    · rcases hp with ⟨h12, hν⟩ | ⟨h12, h121, hb, j, hν, hj⟩
      · have e1 := l_295x1 (xs := xs) (d := d + 28) (s_139z (d := d + 27) (M := M) (R := mc σ μ ν ++ QH a b R) O hk hl h12)
        have e2 := m_242n (xs := xs) (d := d + 27) (τ := σ) (M := M) (μ := μ) (Q := QH a b (R ++ [ex9])) O hk hl hν
        exact ⟨_, _, _, _, _, _, _, _, _, _, c_17 (d := d + 29) hi hx1 hx2 e1 e2 (u1_s _ _ _) (by decide) (fun z => by cases z), LST_x h⟩
      · obtain ⟨f, e, hf, hfb⟩ := s_139 (xs := xs) (d := d + 25) (M := M) (R := mc σ μ ν ++ QH a b R) O hk hl h12 hb
        have e1 := l_295 (xs := xs) (d := d + 28) e
        obtain ⟨g, e2, hg, hgb⟩ := m_242 (xs := xs) (d := d + 25) (τ := σ) (M := up (ur M 61 f) 0 13 ((σ 1 2) + (σ 1 0) - 1)) (μ := μ) (Q := QH (nI ((σ 1 2) + (σ 1 0) - 1)).toInt64 b R) O hk hν (QH_i hj) hb hl
        rw [show ar ((σ 1 2) + (σ 1 0) - 1) g = ar ((σ 1 2) + (σ 1 0) - 1) f from ar_cg fun k hk => PRT_u O hg hf hk] at e2
        have hS := Ok_b O
        have c0 : up (ur M 61 f) 0 13 ((σ 1 2) + (σ 1 0) - 1) 0 13 = (σ 1 2) + (σ 1 0) - 1 := rfl
        have c1 : up (ur M 61 f) 0 13 ((σ 1 2) + (σ 1 0) - 1) 61 = f := rfl
        refine ⟨_, _, _, _, _, _, _, _, _, _, c_17 (d := d + 29) hi hx1 hx2 e1 e2 (u1_s _ _ _) (by decide) (fun _ => rfl), LST_q h (CIv_g hC' rfl rfl rfl rfl rfl rfl rfl rfl rfl rfl hC'.2.2.2) rfl (PRS_a (Q := QH 0 0 R) hp0 rfl rfl rfl rfl) (IMG_a (Q := QH 0 0 R) hI rfl rfl rfl rfl) ⟨?_, ?_, R.length + 3, if_pos rfl, ?_⟩ (fun p hpp => ⟨(hD p hpp).1, ?_⟩) (GT_w (GT_1 (a := 7) (by omega)) (by decide) (by decide))⟩
        · rw [c0]
          omega
        · rw [c0, c1]
          exact hfb
        · rw [c0, c1]
          exact gt_last (B := QH 0 0 R)
        · intro z
          have z2 : uv ν 2 (.ref (72 + (R.length + 3))) 2 = .ref (72 + (R.length + 3)) := if_pos rfl
          have z3 : ν 0 = .ref p := hpp
          have z4 : (.ref (72 + (R.length + 3)) : Value) = .ref p := z2 ▸ z
          rw [hν] at z3
          have q1 : 72 + (R.length + 3) = p := ref_i z4
          have q2 : 72 + j = p := ref_i z3
          exact QH_new hj (by omega)
    · have e1 := l_295x2 (xs := xs) (d := d + 28) (s_139y (d := d + 28) (M := M) (R := mc σ μ ν ++ QH a b R) O hk hp2 hl)
      have e2 := m_242y (xs := xs) (d := d + 28) (τ := σ) (M := M) (μ := μ) (ν := ν) (Q := QH a b (R ++ [ex9])) O hk hp2 hl
      exact ⟨_, _, _, _, _, _, _, _, _, _, c_17 (d := d + 29) hi hx1 hx2 e1 e2 (u1_s _ _ _) (by decide) (fun z => by cases z), LST_x h⟩
  · have e1 := l_295x0 (xs := xs) (d := d + 28) (s_139x (d := d + 28) (σ := σ) (M := M) (R := mc σ μ ν ++ QH a b R) hp1 hk (y := nI p2))
    have e2 := m_242x (xs := xs) (d := d + 28) (τ := σ) (M := M) (μ := μ) (ν := ν) (Q := QH a b (R ++ [ex9])) O hp1 hk (y := nI p2)
    exact ⟨_, _, _, _, _, _, _, _, _, _, c_17 (d := d + 29) hi hx1 hx2 e1 e2 (u1_s _ _ _) (by decide) (fun z => by cases z), LST_x h⟩
end Lwg
