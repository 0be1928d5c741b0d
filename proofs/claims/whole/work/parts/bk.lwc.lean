/-! THE LAW: the relation, questions about the present timetable -/
abbrev QH (a : Int64) (b : UInt64) (R : ab_H) : ab_H := oI [] :: oJ [a] :: oD [b] :: R
def PRS (σ M : Nat → Nat → Nat) (ν : Nat → Value) (Q : ab_H) : Prop := (M 12 0 = 0 ∧ ν 0 = .null) ∨ (M 12 0 = 1 ∧ M 12 1 = (σ 1 6) ∧ (∀ l, l < (σ 1 6) → M 13 l < (σ 1 2) ∧ M 14 l < (σ 1 5)) ∧ ∃ i : Nat, ν 0 = .ref (72 + i) ∧ Q[i]? = some (oI (ar (σ 1 6) (tv σ (M 13) (M 14)))))
def IMG (M : Nat → Nat → Nat) (ν : Nat → Value) (Q : ab_H) : Prop := (M 15 0 = 0 ∧ M 15 1 ≤ 6 ∧ ν 1 = .null) ∨ (M 15 0 = 1 ∧ M 15 1 ≤ 6 ∧ (∀ l, l < M 15 1 → M 16 l < 6 ∧ M 17 l < 3) ∧ ∃ j : Nat, ν 1 = .ref (72 + j) ∧ Q[j]? = some (oI (ar (M 15 1) fun l => 10 * M 16 l + M 17 l)))
def OUP (M : Nat → Nat → Nat) (ν : Nat → Value) (Q : ab_H) : Prop := M 0 13 ≤ 7 ∧ (∀ k, k < M 0 13 → M 61 k < 128) ∧ ∃ o : Nat, ν 2 = .ref (72 + o) ∧ Q[o]? = some (oI (ar (M 0 13) (M 61)))
/-- what holds between class and model -/
def RLS (σ M : Nat → Nat → Nat) (ν : Nat → Value) (Q : ab_H) : Prop := Ok σ ∧ CIv σ M ∧ PRS σ M ν Q ∧ IMG M ν Q ∧ OUP M ν Q ∧ ∀ p, ν 0 = .ref p → ν 1 ≠ .ref p ∧ ν 2 ≠ .ref p
/-- the same, after n calls -/
def LST (n : Nat) (σ M : Nat → Nat → Nat) (ν : Nat → Value) (R : ab_H) : Prop := RLS σ M ν (QH 0 0 R) ∧ M 1 8 ≤ n ∧ R.length ≤ 268 * n ∧ ab_hsz R ≤ 7000 * n
/-- a call of class and model keeps it -/
def SR (xs : List Int32) (d start i n : Nat) (σ M : Nat → Nat → Nat) (μ : Nat → Nat) (ν : Nat → Value) (a : Int64) (b : UInt64) (R : ab_H) (y6 y7 y8 : Value) : Prop := ∃ σ' M' μ' ν' a' b' R' z6 z7 z8, ev xs (d + 30) 312 start ([.retAddr 1, .ref 0, .ref 62, .ref 73, .ref 74, .int (nI i), y6, y7, y8], [], mh σ M σ μ ν (QH a b R)) = ev xs (d + 30) 312 339 ([.retAddr 1, .ref 0, .ref 62, .ref 73, .ref 74, .int (nI i), z6, z7, z8], [], mh σ' M' σ' μ' ν' (QH a' b' R')) ∧ LST (n + 1) σ' M' ν' R'
section Lwc
variable {xs : List Int32} {d n k i j p p1 p2 p3 : Nat} {σ M M2 : Nat → Nat → Nat} {μ μ2 : Nat → Nat} {ν ν2 : Nat → Value} {R T Q : ab_H} {a a2 : Int64} {b b2 : UInt64} {v : Int32} {y6 y7 y8 : Value} {l : List Int32}
set_option maxRecDepth 100000 in
theorem QH_i (h : (QH a b R)[i]? = some (oI l)) : (QH a2 b2 R)[i]? = some (oI l) := by
  match i, h with
  | 0, h => exact h
  | 1, h => cases h
  | 2, h => cases h
  | (i + 3), h => exact h
set_option maxRecDepth 100000 in
theorem QH_ap (h : (QH a b R)[i]? = some (oI l)) : (QH a2 b2 (R ++ T))[i]? = some (oI l) := QH_i (a := a) (b := b) (gt_ap (B := QH a b R) (T := T) h)
set_option maxRecDepth 100000 in
theorem RLS_c (h : RLS σ M ν (QH a b R)) : RLS σ M ν (QH a2 b2 R) := by
  obtain ⟨h1, h2, h3, h4, ⟨h5, h6, o, h7, h8⟩, h9⟩ := h
  refine ⟨h1, h2, ?_, ?_, ⟨h5, h6, o, h7, QH_i h8⟩, h9⟩
  · rcases h3 with h | ⟨g1, g2, g3, i, g4, g5⟩
    · exact .inl h
    · exact .inr ⟨g1, g2, g3, i, g4, QH_i g5⟩
  · rcases h4 with h | ⟨g1, g2, g3, i, g4, g5⟩
    · exact .inl h
    · exact .inr ⟨g1, g2, g3, i, g4, QH_i g5⟩
set_option maxRecDepth 100000 in
theorem RLS_a (h : RLS σ M ν Q) (hC' : CIv σ M2) (hP : PB M M2) : RLS σ M2 ν (Q ++ T) := by
  obtain ⟨h1, h2, h3, h4, ⟨h5, h6, o, h7, h8⟩, h9⟩ := h
  obtain ⟨hp, p12, p13, p14⟩ := hP
  have q0 := hp 0 rfl
  have q15 := hp 15 rfl
  have q16 := hp 16 rfl
  have q17 := hp 17 rfl
  have q61 := hp 61 rfl
  refine ⟨h1, hC', ?_, ?_, ?_, h9⟩
  · unfold PRS
    rw [p12, p13, p14]
    rcases h3 with h | ⟨g1, g2, g3, i, g4, g5⟩
    · exact .inl h
    · exact .inr ⟨g1, g2, g3, i, g4, gt_ap g5⟩
  · unfold IMG
    rw [q15, q16, q17]
    rcases h4 with h | ⟨g1, g2, g3, i, g4, g5⟩
    · exact .inl h
    · exact .inr ⟨g1, g2, g3, i, g4, gt_ap g5⟩
  · unfold OUP
    rw [q0, q61]
    exact ⟨h5, h6, o, h7, gt_ap h8⟩
set_option maxRecDepth 100000 in
theorem LST_k (h : LST n σ M ν R) (hC' : CIv σ M2) (hP : PB M M2) (hT : GT T 268 7000) : LST (n + 1) σ M2 ν (R ++ T) := by
  obtain ⟨h1, h2, h3, h4⟩ := h
  refine ⟨RLS_a h1 hC' hP, ?_, ?_, ?_⟩
  · rw [hP.1 1 rfl]
    omega
  · rw [List.length_append]
    have := hT.1
    omega
  · rw [hsz_a]
    have := hT.2
    omega
set_option maxRecDepth 100000 in
theorem GT_x : GT [ex9] 1 6 := ⟨Nat.le_refl _, Nat.le_refl _⟩
set_option maxRecDepth 100000 in
theorem LST_0 (h : LST n σ M ν R) : LST (n + 1) σ M ν R := by
  have := LST_k (T := []) h h.1.2.1 PB_r (GT_w GT_0 (by decide) (by decide))
  rw [List.append_nil] at this
  exact this
set_option maxRecDepth 100000 in
theorem LST_x (h : LST n σ M ν R) : LST (n + 1) σ M ν (R ++ [ex9]) := LST_k h h.1.2.1 PB_r (GT_w GT_x (by decide) (by decide))

set_option maxRecDepth 100000 in
theorem S_13 (h : LST n σ M ν R) (hi : i < 2000000) : SR xs d 120 i n σ M μ ν a b R y6 y7 y8 := by
  obtain ⟨O, hC', hp, -⟩ := h.1
  rcases hp with ⟨h12, hν⟩ | ⟨h12, h121, hb, j, hν, hj⟩
  · have e1 := l_291x1 (xs := xs) (d := d + 28) (s_135y (d := d + 27) (M := M) (σ := σ) (R := mc σ μ ν ++ QH a b R) h12)
    have e2 := m_238n (xs := xs) (d := d + 27) (τ := σ) (M := M) (σ := σ) (μ := μ) (Q := QH a b (R ++ [ex9])) hν
    exact ⟨_, _, _, _, _, _, _, _, _, _, c_13 (d := d + 29) hi e1 e2 (u1_s _ _ _) (by decide) (fun z => by cases z), LST_x h⟩
  · have e1 := l_291 (xs := xs) (d := d + 28) (s_135 (d := d + 24) (M := M) (R := mc σ μ ν ++ QH a b R) O h12 hb)
    have e2 := fun c => m_238 (xs := xs) (d := d + 23) (τ := σ) (M := M) (μ := μ) (Q := QH c b R) O hν (QH_i hj) hb
    exact ⟨_, _, _, _, _, _, _, _, _, _, c_13 (d := d + 29) hi e1 (e2 _) (u1_s _ _ _) (by decide) (fun _ => rfl), LST_0 h⟩
set_option maxRecDepth 100000 in
theorem S_14 (h : LST n σ M ν R) (hi : i < 2000000) : SR xs d 129 i n σ M μ ν a b R y6 y7 y8 := by
  obtain ⟨O, hC', hp, -⟩ := h.1
  rcases hp with ⟨h12, hν⟩ | ⟨h12, h121, hb, j, hν, hj⟩
  · have e1 := l_292x1 (xs := xs) (d := d + 28) (s_136y (d := d + 27) (M := M) (σ := σ) (R := mc σ μ ν ++ QH a b R) h12)
    have e2 := m_239n (xs := xs) (d := d + 27) (τ := σ) (M := M) (σ := σ) (μ := μ) (Q := QH a b (R ++ [ex9])) hν
    exact ⟨_, _, _, _, _, _, _, _, _, _, c_14 (d := d + 29) hi e1 e2 (u1_s _ _ _) (by decide) (fun z => by cases z), LST_x h⟩
  · have e1 := l_292 (xs := xs) (d := d + 28) (s_136 (d := d + 25) (M := M) (R := mc σ μ ν ++ QH a b R) O h12 hb)
    have e2 := fun c => m_239 (xs := xs) (d := d + 24) (τ := σ) (M := M) (μ := μ) (Q := QH c b R) O hν (QH_i hj) hb
    exact ⟨_, _, _, _, _, _, _, _, _, _, c_14 (d := d + 29) hi e1 (e2 _) (u1_s _ _ _) (by decide) (fun _ => rfl), LST_0 h⟩
set_option maxRecDepth 100000 in
theorem S_26 (h : LST n σ M ν R) (hi : i < 2000000) : SR xs d 225 i n σ M μ ν a b R y6 y7 y8 := by
  obtain ⟨O, hC', hp, -⟩ := h.1
  rcases hp with ⟨h12, hν⟩ | ⟨h12, h121, hb, j, hν, hj⟩
  · have e1 := l_301x1 (xs := xs) (d := d + 28) (s_148y (d := d + 27) (M := M) (σ := σ) (R := mc σ μ ν ++ QH a b R) h12)
    have e2 := m_256n (xs := xs) (d := d + 27) (τ := σ) (M := M) (σ := σ) (μ := μ) (Q := QH a b (R ++ [ex9])) hν
    exact ⟨_, _, _, _, _, _, _, _, _, _, c_26 (d := d + 29) hi e1 e2 (u1_s _ _ _) (by decide) (fun z => by cases z), LST_x h⟩
  · have e1 := l_301 (xs := xs) (d := d + 28) (s_148 (d := d + 25) (M := M) (R := mc σ μ ν ++ QH a b R) O h12 hb)
    have e2 := fun c => m_256 (xs := xs) (d := d + 24) (τ := σ) (M := M) (μ := μ) (Q := QH c b R) O hν (QH_i hj) hb
    exact ⟨_, _, _, _, _, _, _, _, _, _, c_26 (d := d + 29) hi e1 (e2 _) (u1_s _ _ _) (by decide) (fun _ => rfl), LST_0 h⟩
set_option maxRecDepth 100000 in
theorem S_12 (h : LST n σ M ν R) (hi : i < 2000000) (hx1 : xs[i + 1]? = some (nI p1)) (hp1 : p1 < 4294967296) : SR xs d 111 i n σ M μ ν a b R y6 y7 y8 := by
  obtain ⟨O, hC', hp, -⟩ := h.1
  by_cases hl : p1 < (σ 1 6)
  · rcases hp with ⟨h12, hν⟩ | ⟨h12, h121, hb, j, hν, hj⟩
    · have e1 := l_290x1 (xs := xs) (d := d + 28) (s_134y (d := d + 27) (M := M) (R := mc σ μ ν ++ QH a b R) O hl h12)
      have e2 := m_237n (xs := xs) (d := d + 27) (τ := σ) (M := M) (μ := μ) (Q := QH a b (R ++ [ex9])) O hl hν
      exact ⟨_, _, _, _, _, _, _, _, _, _, c_12 (d := d + 29) hi hx1 e1 e2 (u1_s _ _ _) (by decide) (fun z => by cases z), LST_x h⟩
    · have e1 := l_290 (xs := xs) (d := d + 28) (s_134 (d := d + 27) (M := M) (R := mc σ μ ν ++ QH a b R) O hl h12 )
      have e2 := fun c => m_237 (xs := xs) (d := d + 27) (τ := σ) (M := M) (μ := μ) (Q := QH c b R) O hl hν (QH_i hj) hb
      exact ⟨_, _, _, _, _, _, _, _, _, _, c_12 (d := d + 29) hi hx1 e1 (e2 _) (u1_s _ _ _) (by decide) (fun _ => rfl), LST_0 h⟩
  · have e1 := l_290x2 (xs := xs) (d := d + 28) (s_134x (d := d + 27) (M := M) (R := mc σ μ ν ++ QH a b R) O hp1 hl)
    have e2 := m_237x (xs := xs) (d := d + 27) (τ := σ) (M := M) (μ := μ) (ν := ν) (Q := QH a b (R ++ [ex9])) O hp1 hl
    exact ⟨_, _, _, _, _, _, _, _, _, _, c_12 (d := d + 29) hi hx1 e1 e2 (u1_s _ _ _) (by decide) (fun z => by cases z), LST_x h⟩
set_option maxRecDepth 100000 in
theorem S_23 (h : LST n σ M ν R) (hi : i < 2000000) (hx1 : xs[i + 1]? = some (nI p1)) (hp1 : p1 < 4294967296) : SR xs d 198 i n σ M μ ν a b R y6 y7 y8 := by
  obtain ⟨O, hC', hp, -⟩ := h.1
  by_cases hl : p1 < (σ 1 2)
  · rcases hp with ⟨h12, hν⟩ | ⟨h12, h121, hb, j, hν, hj⟩
    · have e1 := l_298x1 (xs := xs) (d := d + 28) (s_145y (d := d + 27) (M := M) (R := mc σ μ ν ++ QH a b R) O hl h12)
      have e2 := m_253n (xs := xs) (d := d + 27) (τ := σ) (M := M) (μ := μ) (Q := QH a b (R ++ [ex9])) O hl hν
      exact ⟨_, _, _, _, _, _, _, _, _, _, c_23 (d := d + 29) hi hx1 e1 e2 (u1_s _ _ _) (by decide) (fun z => by cases z), LST_x h⟩
    · have e1 := l_298 (xs := xs) (d := d + 28) (s_145 (d := d + 24) (M := M) (R := mc σ μ ν ++ QH a b R) O hl h12 hb)
      have e2 := fun c => m_253 (xs := xs) (d := d + 21) (τ := σ) (M := M) (μ := μ) (Q := QH c b R) O hl hν (QH_i hj) hb
      exact ⟨_, _, _, _, _, _, _, _, _, _, c_23 (d := d + 29) hi hx1 e1 (e2 _) (u1_s _ _ _) (by decide) (fun _ => rfl), LST_0 h⟩
  · have e1 := l_298x2 (xs := xs) (d := d + 28) (s_145x (d := d + 27) (M := M) (R := mc σ μ ν ++ QH a b R) O hp1 hl)
    have e2 := m_253x (xs := xs) (d := d + 27) (τ := σ) (M := M) (μ := μ) (ν := ν) (Q := QH a b (R ++ [ex9])) O hp1 hl
    exact ⟨_, _, _, _, _, _, _, _, _, _, c_23 (d := d + 29) hi hx1 e1 e2 (u1_s _ _ _) (by decide) (fun z => by cases z), LST_x h⟩
set_option maxRecDepth 100000 in
theorem S_24 (h : LST n σ M ν R) (hi : i < 2000000) (hx1 : xs[i + 1]? = some (nI p1)) (hp1 : p1 < 4294967296) : SR xs d 207 i n σ M μ ν a b R y6 y7 y8 := by
  obtain ⟨O, hC', hp, -⟩ := h.1
  by_cases hl : p1 < (σ 1 2)
  · rcases hp with ⟨h12, hν⟩ | ⟨h12, h121, hb, j, hν, hj⟩
    · have e1 := l_299x1 (xs := xs) (d := d + 28) (s_146y (d := d + 27) (M := M) (R := mc σ μ ν ++ QH a b R) O hl h12)
      have e2 := m_254n (xs := xs) (d := d + 27) (τ := σ) (M := M) (μ := μ) (Q := QH a b (R ++ [ex9])) O hl hν
      exact ⟨_, _, _, _, _, _, _, _, _, _, c_24 (d := d + 29) hi hx1 e1 e2 (u1_s _ _ _) (by decide) (fun z => by cases z), LST_x h⟩
    · have e1 := l_299 (xs := xs) (d := d + 28) (s_146 (d := d + 24) (M := M) (R := mc σ μ ν ++ QH a b R) O hl h12 hb)
      have e2 := fun c => m_254 (xs := xs) (d := d + 25) (τ := σ) (M := M) (μ := μ) (Q := QH c b R) O hl hν (QH_i hj) hb
      exact ⟨_, _, _, _, _, _, _, _, _, _, c_24 (d := d + 29) hi hx1 e1 (e2 _) (u1_s _ _ _) (by decide) (fun _ => rfl), LST_0 h⟩
  · have e1 := l_299x2 (xs := xs) (d := d + 28) (s_146x (d := d + 27) (M := M) (R := mc σ μ ν ++ QH a b R) O hp1 hl)
    have e2 := m_254x (xs := xs) (d := d + 27) (τ := σ) (M := M) (μ := μ) (ν := ν) (Q := QH a b (R ++ [ex9])) O hp1 hl
    exact ⟨_, _, _, _, _, _, _, _, _, _, c_24 (d := d + 29) hi hx1 e1 e2 (u1_s _ _ _) (by decide) (fun z => by cases z), LST_x h⟩
set_option maxRecDepth 100000 in
theorem S_33 (h : LST n σ M ν R) (hi : i < 2000000) (hx1 : xs[i + 1]? = some (nI p1)) (hp1 : p1 < 4294967296) : SR xs d 273 i n σ M μ ν a b R y6 y7 y8 := by
  obtain ⟨O, hC', hp, -⟩ := h.1
  by_cases hl : p1 < (σ 1 4)
  · rcases hp with ⟨h12, hν⟩ | ⟨h12, h121, hb, j, hν, hj⟩
    · have e1 := l_305x1 (xs := xs) (d := d + 28) (s_155y (d := d + 27) (M := M) (R := mc σ μ ν ++ QH a b R) O hl h12)
      have e2 := m_265n (xs := xs) (d := d + 27) (τ := σ) (M := M) (μ := μ) (Q := QH a b (R ++ [ex9])) O hl hν
      exact ⟨_, _, _, _, _, _, _, _, _, _, c_33 (d := d + 29) hi hx1 e1 e2 (u1_s _ _ _) (by decide) (fun z => by cases z), LST_x h⟩
    · have e1 := l_305 (xs := xs) (d := d + 28) (s_155 (d := d + 26) (M := M) (R := mc σ μ ν ++ QH a b R) O hl h12 hb)
      have e2 := fun c => m_265 (xs := xs) (d := d + 25) (τ := σ) (M := M) (μ := μ) (Q := QH c b R) O hl hν (QH_i hj) hb
      exact ⟨_, _, _, _, _, _, _, _, _, _, c_33 (d := d + 29) hi hx1 e1 (e2 _) (u1_s _ _ _) (by decide) (fun _ => rfl), LST_0 h⟩
  · have e1 := l_305x2 (xs := xs) (d := d + 28) (s_155x (d := d + 27) (M := M) (R := mc σ μ ν ++ QH a b R) O hp1 hl)
    have e2 := m_265x (xs := xs) (d := d + 27) (τ := σ) (M := M) (μ := μ) (ν := ν) (Q := QH a b (R ++ [ex9])) O hp1 hl
    exact ⟨_, _, _, _, _, _, _, _, _, _, c_33 (d := d + 29) hi hx1 e1 e2 (u1_s _ _ _) (by decide) (fun z => by cases z), LST_x h⟩
end Lwc
