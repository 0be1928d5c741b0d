/-! THE LAW: the school changes -/
section Lwh
variable {xs : List Int32} {d n k i j p p1 p2 p3 v v2 w m L c q : Nat} {σ σ2 τ M M2 : Nat → Nat → Nat} {μ μ2 : Nat → Nat} {ν ν2 : Nat → Value} {R R2 T Q Q2 : ab_H} {a a2 : Int64} {b b2 : UInt64} {y6 y7 y8 : Value} {f g s r : Nat → Nat} {o o2 : ab_O}
set_option maxRecDepth 100000 in
theorem CIv_n (h : CIv σ M) (hn : M 1 8 < 1000000) (q1 : M2 1 8 = M 1 8 + 1) (q19 : M2 19 = M 19) (q32 : M2 32 = M 32) (q37 : M2 37 = M 37) (q40 : M2 40 = M 40) (q54 : M2 54 = M 54) (q53 : M2 53 = M 53) : CIv σ2 M2 := by
  obtain ⟨⟨⟨k1, k2, k3, k4⟩, v2, v3⟩, ⟨-, r2, r3⟩, c3, c4⟩ := h
  have hK : KI σ2 M2 := by
    refine ⟨by omega, ?_, fun z => ?_, by rw [q32]; exact k4⟩
    · rw [q19, q1]
      omega
    · rw [q19, q1] at z
      omega
  refine ⟨⟨hK, ?_, fun z => ?_⟩, ⟨hK, ?_, fun z => ?_⟩, by rw [q54]; exact c3, by rw [q53]; exact c4⟩
  · rw [q37, q1]
    omega
  · rw [q37, q1] at z
    omega
  · rw [q40, q1]
    omega
  · rw [q40, q1] at z
    omega
set_option maxRecDepth 100000 in
theorem Ok_class (O : Ok σ) (h1 : 1 ≤ p1 ∧ p1 ≤ 99) (h2 : p2 = 4294967295 ∨ p2 < (σ 1 5)) (h4 : (σ 1 3) < 4) : Ok (up (up (up σ 2 (σ 1 3) p1) 3 (σ 1 3) p2) 1 3 ((σ 1 3) + 1)) := by
  obtain ⟨o1, o2, o3, ⟨o4, o5, o6, o7, o8⟩, o9, o10, o11, o12, o13⟩ := O
  refine ⟨o1, o2, o3, ⟨h4, o5, o6, o7, o8⟩, fun l hl => ?_, fun c hc => ?_, o11, o12, fun q hq => o13 q hq⟩
  · obtain ⟨w1, w2, w3⟩ := o9 l hl
    exact ⟨Nat.lt_succ_of_lt w1, w2, w3⟩
  · show (1 ≤ u1 (σ 2) (σ 1 3) p1 c ∧ u1 (σ 2) (σ 1 3) p1 c ≤ 99) ∧ (u1 (σ 3) (σ 1 3) p2 c = 4294967295 ∨ u1 (σ 3) (σ 1 3) p2 c < (σ 1 5))
    by_cases e : c = (σ 1 3)
    · rw [e, u1_s, u1_s]
      exact ⟨h1, h2⟩
    · rw [u1_n e, u1_n e]
      have hc2 : c < (σ 1 3) + 1 := hc
      exact o10 c (by omega)
set_option maxRecDepth 100000 in
theorem Ok_teacher (O : Ok σ) (h4 : (σ 1 4) < 4) : Ok (up σ 1 4 ((σ 1 4) + 1)) := by
  obtain ⟨o1, o2, o3, ⟨o4, o5, o6, o7, o8⟩, o9, o10, o11, o12, o13⟩ := O
  refine ⟨o1, o2, o3, ⟨o4, h4, o6, o7, o8⟩, fun l hl => ?_, o10, o11, o12, fun q hq => rok_mo (o13 q hq) (Nat.le_refl _) (.inl (Nat.le_refl _)) (Nat.le_succ _) (Nat.le_refl _)⟩
  obtain ⟨w1, w2, w3⟩ := o9 l hl
  exact ⟨w1, Nat.lt_succ_of_lt w2, w3⟩
set_option maxRecDepth 100000 in
theorem Ok_room (O : Ok σ) (h1 : 1 ≤ p1 ∧ p1 ≤ 99) (h4 : (σ 1 5) < 3) : Ok (up (up σ 4 (σ 1 5) p1) 1 5 ((σ 1 5) + 1)) := by
  obtain ⟨o1, o2, o3, ⟨o4, o5, o6, o7, o8⟩, o9, o10, o11, o12, o13⟩ := O
  refine ⟨o1, o2, o3, ⟨o4, o5, h4, o7, o8⟩, o9, fun c hc => ?_, fun r hr => ?_, o12, fun q hq => rok_mo (o13 q hq) (Nat.le_refl _) (.inl (Nat.le_refl _)) (Nat.le_refl _) (Nat.le_succ _)⟩
  · obtain ⟨w1, w2⟩ := o10 c hc
    exact ⟨w1, w2.imp_right Nat.lt_succ_of_lt⟩
  · show 1 ≤ u1 (σ 4) (σ 1 5) p1 r ∧ u1 (σ 4) (σ 1 5) p1 r ≤ 99
    by_cases e : r = (σ 1 5)
    · rw [e, u1_s]
      exact h1
    · rw [u1_n e]
      have hr2 : r < (σ 1 5) + 1 := hr
      exact o11 r (by omega)
set_option maxRecDepth 100000 in
theorem Ok_lesson (O : Ok σ) (h1 : p1 < (σ 1 3)) (h2 : p2 < (σ 1 4)) (h3 : 1 ≤ p3 ∧ p3 ≤ 2) (h4 : (σ 1 6) < 6) : Ok (up (up (up (up σ 5 (σ 1 6) p1) 6 (σ 1 6) p2) 7 (σ 1 6) p3) 1 6 ((σ 1 6) + 1)) := by
  obtain ⟨o1, o2, o3, ⟨o4, o5, o6, o7, o8⟩, o9, o10, o11, o12, o13⟩ := O
  refine ⟨o1, o2, o3, ⟨o4, o5, o6, h4, o8⟩, fun l hl => ?_, o10, o11, o12, fun q hq => rok_mo (o13 q hq) (Nat.le_succ _) (.inl (Nat.le_refl _)) (Nat.le_refl _) (Nat.le_refl _)⟩
  show u1 (σ 5) (σ 1 6) p1 l < (σ 1 3) ∧ u1 (σ 6) (σ 1 6) p2 l < (σ 1 4) ∧ (u1 (σ 7) (σ 1 6) p3 l = 1 ∨ u1 (σ 7) (σ 1 6) p3 l = 2)
  by_cases e : l = (σ 1 6)
  · rw [e, u1_s, u1_s, u1_s]
    exact ⟨h1, h2, by omega⟩
  · rw [u1_n e, u1_n e, u1_n e]
    have hl2 : l < (σ 1 6) + 1 := hl
    exact o9 l (by omega)
set_option maxRecDepth 100000 in
theorem Ok_rule (O : Ok σ) (h1 : rok σ p1 p2 p3 = true) (h4 : (σ 1 7) < 10) : Ok (up (up (up (up σ 8 (σ 1 7) p1) 9 (σ 1 7) p2) 10 (σ 1 7) p3) 1 7 ((σ 1 7) + 1)) := by
  obtain ⟨o1, o2, o3, ⟨o4, o5, o6, o7, o8⟩, o9, o10, o11, o12, o13⟩ := O
  refine ⟨o1, o2, o3, ⟨o4, o5, o6, o7, h4⟩, o9, o10, o11, o12, fun q hq => ?_⟩
  show rok σ (u1 (σ 8) (σ 1 7) p1 q) (u1 (σ 9) (σ 1 7) p2 q) (u1 (σ 10) (σ 1 7) p3 q) = true
  by_cases e : q = (σ 1 7)
  · rw [e, u1_s, u1_s, u1_s]
    exact h1
  · rw [u1_n e, u1_n e, u1_n e]
    have hq2 : q < (σ 1 7) + 1 := hq
    exact o13 q (by omega)
set_option maxRecDepth 100000 in
theorem Ok_drop (O : Ok σ) (h1 : p1 < (σ 1 7)) : Ok (up (rmr σ p1 (σ 1 7)) 1 7 ((σ 1 7) - 1)) := by
  obtain ⟨o1, o2, o3, ⟨o4, o5, o6, o7, o8⟩, o9, o10, o11, o12, o13⟩ := O
  refine ⟨o1, o2, o3, ⟨o4, o5, o6, o7, ?_⟩, o9, o10, o11, o12, fun q hq => ?_⟩
  · show (σ 1 7) - 1 ≤ 10
    omega
  · show rok σ (shf p1 (σ 1 7) (σ 8) q) (shf p1 (σ 1 7) (σ 9) q) (shf p1 (σ 1 7) (σ 10) q) = true
    have hq2 : q < (σ 1 7) - 1 := hq
    unfold shf
    by_cases e : p1 ≤ q ∧ q + 1 < (σ 1 7)
    · rw [if_pos e, if_pos e, if_pos e]
      exact o13 (q + 1) e.2
    · rw [if_neg e, if_neg e, if_neg e]
      exact o13 q (by omega)
set_option maxRecDepth 100000 in
theorem Ok_weights (O : Ok σ) (h : p1 ≤ 9 ∧ p2 ≤ 9 ∧ p3 ≤ 9) : Ok (up (up (up σ 11 0 p1) 11 1 p2) 11 2 p3) := by
  obtain ⟨o1, o2, o3, o4, o9, o10, o11, o12, o13⟩ := O
  refine ⟨o1, o2, o3, o4, o9, o10, o11, fun i hi => ?_, fun q hq => o13 q hq⟩
  have : i = 0 ∨ i = 1 ∨ i = 2 := by omega
  rcases this with rfl | rfl | rfl
  · exact h.1
  · exact h.2.1
  · exact h.2.2
-- changes that leave the present timetable
set_option maxRecDepth 100000 in
theorem LST_n (h : LST n σ M ν R) (hn : n < 1000) (O2 : Ok σ2) (hp : PRS σ2 (nxc M) ν (QH 0 0 R)) : LST (n + 1) σ2 (nxc M) ν R := by
  have hh := h.2
  exact LST_g h O2 (CIv_n h.1.2.1 (by omega) rfl rfl rfl rfl rfl rfl rfl) rfl rfl rfl rfl rfl (by show M 1 8 + 1 ≤ n + 1; omega) rfl rfl hp (fun _ _ _ h => h) h.1.2.2.2.2.2 (by omega) (by omega)
-- changes that drop it
set_option maxRecDepth 100000 in
theorem LST_d (h : LST n σ M ν R) (hn : n < 1000) (O2 : Ok σ2) : LST (n + 1) σ2 (up (nxc M) 12 0 0) (uv ν 0 .null) R := by
  have hh := h.2
  have h0 : uv ν 0 .null 0 = .null := if_pos rfl
  exact LST_g h O2 (CIv_n h.1.2.1 (by omega) rfl rfl rfl rfl rfl rfl rfl) rfl rfl rfl rfl rfl (by show M 1 8 + 1 ≤ n + 1; omega) rfl rfl (.inl ⟨rfl, h0⟩) (fun _ _ _ h => h) (fun p hp => by rw [h0] at hp; cases hp) (by omega) (by omega)
set_option maxRecDepth 100000 in
theorem S_0 (h : LST n σ M ν R) (hn : n < 1000) (hi : i < 2000000) (hx1 : xs[i + 1]? = some (nI p1)) (hp1 : p1 < 4294967296) (hx2 : xs[i + 2]? = some (nI p2)) (hp2 : p2 < 4294967296) : SR xs d 5 i n σ M μ ν a b R y6 y7 y8 := by
  obtain ⟨O, hC', hp, hI, hO, hD⟩ := h.1
  by_cases hg : (1 ≤ p1 ∧ p1 ≤ 2) ∧ (1 ≤ p2 ∧ p2 ≤ 3)
  · cases hf : an (σ 1 7) fun q => decide (σ 8 q = 0) || decide (σ 8 q = 7)
    · have e := s_122g (xs := xs) (d := d + 27) (M := M) (R := mc σ μ ν ++ QH a b R) O hg.1 hg.2 _ hf
      rw [if_neg (by decide)] at e
      have e1 := l_279 (xs := xs) (d := d + 28) e
      have e2 := m_223g (xs := xs) (d := d + 28) (τ := up (up (up σ 1 0 p1) 1 1 p2) 1 2 (p1 * p2)) (M := up (nxc M) 12 0 0) (μ := μ) (ν := ν) (Q := QH (nI (p1 * p2)).toInt64 b R) O hg.1 hg.2 _ hf
      rw [if_neg (by decide)] at e2
      exact ⟨_, _, _, _, _, _, _, _, _, _, c_0 (d := d + 29) hi hx1 hx2 e1 e2 (u1_s _ _ _) (by decide) (fun _ => rfl), LST_d h hn (Ok_grid O hg.1 hg.2 hf)⟩
    · have e := s_122g (xs := xs) (d := d + 27) (M := M) (R := mc σ μ ν ++ QH a b R) O hg.1 hg.2 _ hf
      rw [if_pos rfl] at e
      have e1 := l_279x1 (xs := xs) (d := d + 28) e
      have e2 := m_223g (xs := xs) (d := d + 28) (τ := σ) (M := M) (μ := μ) (ν := ν) (Q := QH a b (R ++ [ex9])) O hg.1 hg.2 _ hf
      rw [if_pos rfl] at e2
      exact ⟨_, _, _, _, _, _, _, _, _, _, c_0 (d := d + 29) hi hx1 hx2 e1 e2 (u1_s _ _ _) (by decide) (fun z => by cases z), LST_x h⟩
  · have e1 := l_279x0 (xs := xs) (d := d + 28) (s_122x (d := d + 27) (σ := σ) (M := M) (R := mc σ μ ν ++ QH a b R) hp1 hp2 hg)
    have e2 := m_223x (xs := xs) (d := d + 28) (τ := σ) (M := M) (μ := μ) (ν := ν) (Q := QH a b (R ++ [ex9])) O hp1 hp2 hg
    exact ⟨_, _, _, _, _, _, _, _, _, _, c_0 (d := d + 29) hi hx1 hx2 e1 e2 (u1_s _ _ _) (by decide) (fun z => by cases z), LST_x h⟩
set_option maxRecDepth 100000 in
theorem S_1 (h : LST n σ M ν R) (hn : n < 1000) (hi : i < 2000000) (hx1 : xs[i + 1]? = some (nI p1)) (hp1 : p1 < 4294967296) (hx2 : xs[i + 2]? = some (nI p2)) (hp2 : p2 < 4294967296) : SR xs d 14 i n σ M μ ν a b R y6 y7 y8 := by
  obtain ⟨O, hC', hp, hI, hO, hD⟩ := h.1
  by_cases h1 : p2 = 4294967295 ∨ p2 < (σ 1 5)
  · have e := s_123g (xs := xs) (d := d + 27) (M := M) (R := mc σ μ ν ++ QH a b R) O hp1 hp2 h1
    have e2 := fun τ M c R => m_224 (xs := xs) (d := d + 27) (τ := τ) (M := M) (μ := μ) (ν := ν) (Q := QH c b R) O hp1 hp2
    by_cases h2 : 1 ≤ p1 ∧ p1 ≤ 99
    · rw [if_neg fun z => z h2] at e
      by_cases h3 : (σ 1 3) < 4
      · rw [if_neg fun z => z h3] at e
        have e1 := l_280 (xs := xs) (d := d + 28) e
        have e2 := e2 (up (up (up σ 2 (σ 1 3) p1) 3 (σ 1 3) p2) 1 3 ((σ 1 3) + 1)) (nxc M) (nI (σ 1 3)).toInt64 R
        rw [if_neg fun z => z h1, if_neg fun z => z h2, if_neg fun z => z h3] at e2
        exact ⟨_, _, _, _, _, _, _, _, _, _, c_1 (d := d + 29) hi hx1 hx2 e1 e2 (u1_s _ _ _) (by decide) (fun _ => rfl), LST_n h hn (Ok_class O h2 h1 h3) hp⟩
      · rw [if_pos h3] at e
        have e1 := l_280x1 (xs := xs) (d := d + 28) e
        have e2 := e2 σ M a (R ++ [ex9])
        rw [if_neg fun z => z h1, if_neg fun z => z h2, if_pos h3] at e2
        exact ⟨_, _, _, _, _, _, _, _, _, _, c_1 (d := d + 29) hi hx1 hx2 e1 e2 (u1_s _ _ _) (by decide) (fun z => by cases z), LST_x h⟩
    · rw [if_pos h2] at e
      have e1 := l_280x0 (xs := xs) (d := d + 28) e
      have e2 := e2 σ M a (R ++ [ex9])
      rw [if_neg fun z => z h1, if_pos h2] at e2
      exact ⟨_, _, _, _, _, _, _, _, _, _, c_1 (d := d + 29) hi hx1 hx2 e1 e2 (u1_s _ _ _) (by decide) (fun z => by cases z), LST_x h⟩
  · have e1 := l_280x2 (xs := xs) (d := d + 28) (s_123a (d := d + 27) (M := M) (R := mc σ μ ν ++ QH a b R) O hp1 hp2 h1)
    have e2 := m_224 (xs := xs) (d := d + 27) (τ := σ) (M := M) (μ := μ) (ν := ν) (Q := QH a b (R ++ [ex9])) O hp1 hp2
    rw [if_pos h1] at e2
    exact ⟨_, _, _, _, _, _, _, _, _, _, c_1 (d := d + 29) hi hx1 hx2 e1 e2 (u1_s _ _ _) (by decide) (fun z => by cases z), LST_x h⟩
set_option maxRecDepth 100000 in
theorem S_2 (h : LST n σ M ν R) (hn : n < 1000) (hi : i < 2000000) : SR xs d 23 i n σ M μ ν a b R y6 y7 y8 := by
  obtain ⟨O, hC', hp, hI, hO, hD⟩ := h.1
  have e := s_124 (xs := xs) (d := d + 28) (M := M) (R := mc σ μ ν ++ QH a b R) O
  by_cases h3 : (σ 1 4) < 4
  · rw [if_neg fun z => z h3] at e
    have e1 := l_281 (xs := xs) (d := d + 28) e
    have e2 := m_225 (xs := xs) (d := d + 28) (τ := up σ 1 4 ((σ 1 4) + 1)) (M := nxc M) (μ := μ) (ν := ν) (Q := QH (nI (σ 1 4)).toInt64 b R) O
    rw [if_neg fun z => z h3] at e2
    exact ⟨_, _, _, _, _, _, _, _, _, _, c_2 (d := d + 29) hi e1 e2 (u1_s _ _ _) (by decide) (fun _ => rfl), LST_n h hn (Ok_teacher O h3) hp⟩
  · rw [if_pos h3] at e
    have e1 := l_281x1 (xs := xs) (d := d + 28) e
    have e2 := m_225 (xs := xs) (d := d + 28) (τ := σ) (M := M) (μ := μ) (ν := ν) (Q := QH a b (R ++ [ex9])) O
    rw [if_pos h3] at e2
    exact ⟨_, _, _, _, _, _, _, _, _, _, c_2 (d := d + 29) hi e1 e2 (u1_s _ _ _) (by decide) (fun z => by cases z), LST_x h⟩
set_option maxRecDepth 100000 in
theorem S_3 (h : LST n σ M ν R) (hn : n < 1000) (hi : i < 2000000) (hx1 : xs[i + 1]? = some (nI p1)) (hp1 : p1 < 4294967296) : SR xs d 32 i n σ M μ ν a b R y6 y7 y8 := by
  obtain ⟨O, hC', hp, hI, hO, hD⟩ := h.1
  have e := s_125 (xs := xs) (d := d + 28) (M := M) (R := mc σ μ ν ++ QH a b R) O hp1
  by_cases h2 : 1 ≤ p1 ∧ p1 ≤ 99
  · rw [if_neg fun z => z h2] at e
    by_cases h3 : (σ 1 5) < 3
    · rw [if_neg fun z => z h3] at e
      have e1 := l_282 (xs := xs) (d := d + 28) e
      rcases hp with ⟨h12, hν⟩ | ⟨h12, h121, hb, j, hν, hj⟩
      · have e2 := m_226n (xs := xs) (d := d + 28) (τ := up (up σ 4 (σ 1 5) p1) 1 5 ((σ 1 5) + 1)) (M := nxc M) (μ := μ) (Q := QH (nI (σ 1 5)).toInt64 b R) O h2 h3 hν
        exact ⟨_, _, _, _, _, _, _, _, _, _, c_3 (d := d + 29) hi hx1 e1 e2 (u1_s _ _ _) (by decide) (fun _ => rfl), LST_n h hn (Ok_room O h2 h3) (.inl ⟨h12, hν⟩)⟩
      · have e2 := m_226r (xs := xs) (d := d + 28) (τ := up (up σ 4 (σ 1 5) p1) 1 5 ((σ 1 5) + 1)) (M := nxc M) (μ := μ) (Q := QH (nI (σ 1 5)).toInt64 b R) O h2 h3 hν (QH_i hj) hb
        obtain ⟨R2, z1, z2, z3, z4, z5⟩ := QH_set (g := tv (up (up σ 4 (σ 1 5) p1) 1 5 ((σ 1 5) + 1)) (M 13) (M 14)) hj
        rw [z1] at e2
        have hh := h.2
        refine ⟨_, _, _, _, _, _, _, _, _, _, c_3 (d := d + 29) hi hx1 e1 e2 (u1_s _ _ _) (by decide) (fun _ => rfl), LST_g h (Ok_room O h2 h3) (CIv_n hC' (by omega) rfl rfl rfl rfl rfl rfl rfl) rfl rfl rfl rfl rfl (by show M 1 8 + 1 ≤ n + 1; omega) rfl rfl (.inr ⟨h12, h121, fun l hl => ⟨(hb l hl).1, Nat.lt_succ_of_lt (hb l hl).2⟩, j, hν, z4⟩) (fun j2 x g1 g2 => ?_) hD (by rw [z2]; omega) (by rw [z3]; omega)⟩
        rw [z5 j2 fun z => ?_]
        · exact g2
        · rw [z] at g1
          rcases g1 with g1 | g1
          · exact (hD _ hν).1 g1
          · exact (hD _ hν).2 g1
    · rw [if_pos h3] at e
      have e1 := l_282x1 (xs := xs) (d := d + 28) e
      have e2 := m_226x (xs := xs) (d := d + 28) (τ := σ) (M := M) (μ := μ) (ν := ν) (Q := QH a b (R ++ [ex9])) O hp1 (fun z => h3 z.2)
      rw [if_pos h2] at e2
      exact ⟨_, _, _, _, _, _, _, _, _, _, c_3 (d := d + 29) hi hx1 e1 e2 (u1_s _ _ _) (by decide) (fun z => by cases z), LST_x h⟩
  · rw [if_pos h2] at e
    have e1 := l_282x0 (xs := xs) (d := d + 28) e
    have e2 := m_226x (xs := xs) (d := d + 28) (τ := σ) (M := M) (μ := μ) (ν := ν) (Q := QH a b (R ++ [ex9])) O hp1 (fun z => h2 z.1)
    rw [if_neg h2] at e2
    exact ⟨_, _, _, _, _, _, _, _, _, _, c_3 (d := d + 29) hi hx1 e1 e2 (u1_s _ _ _) (by decide) (fun z => by cases z), LST_x h⟩
set_option maxRecDepth 100000 in
theorem S_4 (h : LST n σ M ν R) (hn : n < 1000) (hi : i < 2000000) (hx1 : xs[i + 1]? = some (nI p1)) (hp1 : p1 < 4294967296) (hx2 : xs[i + 2]? = some (nI p2)) (hp2 : p2 < 4294967296) (hx3 : xs[i + 3]? = some (nI p3)) (hp3 : p3 < 4294967296) : SR xs d 41 i n σ M μ ν a b R y6 y7 y8 := by
  obtain ⟨O, hC', hp, hI, hO, hD⟩ := h.1
  have e2 := fun τ M c R => m_227 (xs := xs) (d := d + 27) (τ := τ) (M := M) (μ := μ) (ν := ν) (Q := QH c b R) O hp1 hp2 hp3
  by_cases h1 : p1 < (σ 1 3) ∧ p2 < (σ 1 4)
  · have e := s_126 (xs := xs) (d := d + 27) (M := M) (R := mc σ μ ν ++ QH a b R) O h1.1 h1.2 hp3
    by_cases h2 : 1 ≤ p3 ∧ p3 ≤ 2
    · rw [if_neg fun z => z h2] at e
      by_cases h3 : (σ 1 6) < 6
      · rw [if_neg fun z => z h3] at e
        have e1 := l_283 (xs := xs) (d := d + 28) e
        have e2 := e2 (up (up (up (up σ 5 (σ 1 6) p1) 6 (σ 1 6) p2) 7 (σ 1 6) p3) 1 6 ((σ 1 6) + 1)) (up (nxc M) 12 0 0) (nI (σ 1 6)).toInt64 R
        rw [if_neg fun z => z h1, if_neg fun z => z h2, if_neg fun z => z h3] at e2
        exact ⟨_, _, _, _, _, _, _, _, _, _, c_4 (d := d + 29) hi hx1 hx2 hx3 e1 e2 (u1_s _ _ _) (by decide) (fun _ => rfl), LST_d h hn (Ok_lesson O h1.1 h1.2 h2 h3)⟩
      · rw [if_pos h3] at e
        have e1 := l_283x1 (xs := xs) (d := d + 28) e
        have e2 := e2 σ M a (R ++ [ex9])
        rw [if_neg fun z => z h1, if_neg fun z => z h2, if_pos h3] at e2
        exact ⟨_, _, _, _, _, _, _, _, _, _, c_4 (d := d + 29) hi hx1 hx2 hx3 e1 e2 (u1_s _ _ _) (by decide) (fun z => by cases z), LST_x h⟩
    · rw [if_pos h2] at e
      have e1 := l_283x0 (xs := xs) (d := d + 28) e
      have e2 := e2 σ M a (R ++ [ex9])
      rw [if_neg fun z => z h1, if_pos h2] at e2
      exact ⟨_, _, _, _, _, _, _, _, _, _, c_4 (d := d + 29) hi hx1 hx2 hx3 e1 e2 (u1_s _ _ _) (by decide) (fun z => by cases z), LST_x h⟩
  · have e : ev xs (d + 28) 126 0 ([.ref 0, .int (nI p1), .int (nI p2), .int (nI p3), .retAddr 9], [], hc σ M (mc σ μ ν ++ QH a b R)) = some (.inr 2, hc σ M ((mc σ μ ν ++ QH a b R) ++ [ex9])) := by
      by_cases g1 : p1 < (σ 1 3)
      · exact s_126b (d := d + 27) O g1 hp2 fun z => h1 ⟨g1, z⟩
      · exact s_126a (d := d + 27) O hp1 g1
    have e1 := l_283x2 (xs := xs) (d := d + 28) e
    have e2 := e2 σ M a (R ++ [ex9])
    rw [if_pos h1] at e2
    exact ⟨_, _, _, _, _, _, _, _, _, _, c_4 (d := d + 29) hi hx1 hx2 hx3 e1 e2 (u1_s _ _ _) (by decide) (fun z => by cases z), LST_x h⟩
set_option maxRecDepth 100000 in
theorem S_5 (h : LST n σ M ν R) (hn : n < 1000) (hi : i < 2000000) (hx1 : xs[i + 1]? = some (nI p1)) (hp1 : p1 < 4294967296) (hx2 : xs[i + 2]? = some (nI p2)) (hp2 : p2 < 4294967296) (hx3 : xs[i + 3]? = some (nI p3)) (hp3 : p3 < 4294967296) : SR xs d 50 i n σ M μ ν a b R y6 y7 y8 := by
  obtain ⟨O, hC', hp, hI, hO, hD⟩ := h.1
  have e := s_127 (xs := xs) (d := d + 27) (M := M) (R := mc σ μ ν ++ QH a b R) O hp1 hp2 hp3
  have e2 := fun τ M c R => m_229 (xs := xs) (d := d + 26) (τ := τ) (M := M) (μ := μ) (ν := ν) (Q := QH c b R) O hp1 hp2 hp3
  cases h1 : rok σ p1 p2 p3
  · rw [if_pos h1] at e
    have e1 := l_284x0 (xs := xs) (d := d + 28) e
    have e2 := e2 σ M a (R ++ [ex9])
    rw [if_pos h1] at e2
    exact ⟨_, _, _, _, _, _, _, _, _, _, c_5 (d := d + 29) hi hx1 hx2 hx3 e1 e2 (u1_s _ _ _) (by decide) (fun z => by cases z), LST_x h⟩
  · have h1' : ¬ rok σ p1 p2 p3 = false := by rw [h1]; decide
    rw [if_neg h1'] at e
    by_cases h3 : (σ 1 7) < 10
    · rw [if_neg fun z => z h3] at e
      have e1 := l_284 (xs := xs) (d := d + 28) e
      have e2 := e2 (up (up (up (up σ 8 (σ 1 7) p1) 9 (σ 1 7) p2) 10 (σ 1 7) p3) 1 7 ((σ 1 7) + 1)) (nxc M) (nI (σ 1 7)).toInt64 R
      rw [if_neg h1', if_neg fun z => z h3] at e2
      exact ⟨_, _, _, _, _, _, _, _, _, _, c_5 (d := d + 29) hi hx1 hx2 hx3 e1 e2 (u1_s _ _ _) (by decide) (fun _ => rfl), LST_n h hn (Ok_rule O h1 h3) hp⟩
    · rw [if_pos h3] at e
      have e1 := l_284x1 (xs := xs) (d := d + 28) e
      have e2 := e2 σ M a (R ++ [ex9])
      rw [if_neg h1', if_pos h3] at e2
      exact ⟨_, _, _, _, _, _, _, _, _, _, c_5 (d := d + 29) hi hx1 hx2 hx3 e1 e2 (u1_s _ _ _) (by decide) (fun z => by cases z), LST_x h⟩
set_option maxRecDepth 100000 in
theorem S_6 (h : LST n σ M ν R) (hn : n < 1000) (hi : i < 2000000) (hx1 : xs[i + 1]? = some (nI p1)) (hp1 : p1 < 4294967296) : SR xs d 59 i n σ M μ ν a b R y6 y7 y8 := by
  obtain ⟨O, hC', hp, hI, hO, hD⟩ := h.1
  have e := s_128 (xs := xs) (d := d + 27) (M := M) (R := mc σ μ ν ++ QH a b R) O hp1
  have e2 := fun τ M c R => m_230 (xs := xs) (d := d + 27) (τ := τ) (M := M) (μ := μ) (ν := ν) (Q := QH c b R) O hp1
  by_cases h3 : p1 < (σ 1 7)
  · rw [if_neg fun z => z h3] at e
    have e1 := l_285 (xs := xs) (d := d + 28) e
    have e2 := e2 (up (rmr σ p1 (σ 1 7)) 1 7 ((σ 1 7) - 1)) (nxc M) (nI ((σ 1 7) - 1)).toInt64 R
    rw [if_neg fun z => z h3] at e2
    exact ⟨_, _, _, _, _, _, _, _, _, _, c_6 (d := d + 29) hi hx1 e1 e2 (u1_s _ _ _) (by decide) (fun _ => rfl), LST_n h hn (Ok_drop O h3) hp⟩
  · rw [if_pos h3] at e
    have e1 := l_285x2 (xs := xs) (d := d + 28) e
    have e2 := e2 σ M a (R ++ [ex9])
    rw [if_pos h3] at e2
    exact ⟨_, _, _, _, _, _, _, _, _, _, c_6 (d := d + 29) hi hx1 e1 e2 (u1_s _ _ _) (by decide) (fun z => by cases z), LST_x h⟩
set_option maxRecDepth 100000 in
theorem w_CR {X : Nat → Nat} : CR (up (up (up σ 11 0 p1) 11 1 p2) 11 2 p3) X ↔ CR σ X := by
  constructor
  · intro h p hp u hu
    rcases hp with rfl | rfl
    · exact h 5 (.inl rfl) u hu
    · exact h 6 (.inr rfl) u hu
  · intro h p hp u hu
    rcases hp with rfl | rfl
    · exact h 5 (.inl rfl) u hu
    · exact h 6 (.inr rfl) u hu
set_option maxRecDepth 100000 in
theorem w_SS {X : Nat → Nat} : SS (up (up (up σ 11 0 p1) 11 1 p2) 11 2 p3) X ↔ SS σ X := ⟨fun h => ⟨h.1, h.2.1, w_CR.mp h.2.2⟩, fun h => ⟨h.1, h.2.1, w_CR.mpr h.2.2⟩⟩
set_option maxRecDepth 100000 in
theorem w_CI (h : CIv σ M) : CIv (up (up (up σ 11 0 p1) 11 1 p2) 11 2 p3) M := by
  obtain ⟨⟨k, v2, v3⟩, ⟨-, r2, r3⟩, c3, c4⟩ := h
  exact ⟨⟨k, v2, fun z => ⟨w_SS.mpr (v3 z).1, fun X hX => (v3 z).2 X (w_SS.mp hX)⟩⟩, ⟨k, r2, r3⟩, c3, c4⟩
set_option maxRecDepth 100000 in
theorem S_25 (h : LST n σ M ν R) (hi : i < 2000000) (hx1 : xs[i + 1]? = some (nI p1)) (hp1 : p1 < 4294967296) (hx2 : xs[i + 2]? = some (nI p2)) (hp2 : p2 < 4294967296) (hx3 : xs[i + 3]? = some (nI p3)) (hp3 : p3 < 4294967296) : SR xs d 216 i n σ M μ ν a b R y6 y7 y8 := by
  obtain ⟨O, hC', hp, hI, hO, hD⟩ := h.1
  have e := s_147 (xs := xs) (d := d + 28) (M := M) (R := mc σ μ ν ++ QH a b R) O hp1 hp2 hp3
  have e2 := fun τ M c R => m_255 (xs := xs) (d := d + 28) (τ := τ) (M := M) (σ := σ) (μ := μ) (ν := ν) (Q := QH c b R) hp1 hp2 hp3
  by_cases h3 : p1 ≤ 9 ∧ p2 ≤ 9 ∧ p3 ≤ 9
  · rw [if_neg fun z => z h3] at e
    have e1 := l_300 (xs := xs) (d := d + 28) e
    have e2 := e2 (up (up (up σ 11 0 p1) 11 1 p2) 11 2 p3) M (nI (σ 11 0)).toInt64 R
    rw [if_neg fun z => z h3] at e2
    have hC2 : CIv (up (up (up σ 11 0 p1) 11 1 p2) 11 2 p3) M := w_CI hC'
    have hh := h.2
    exact ⟨_, _, _, _, _, _, _, _, _, _, c_25 (d := d + 29) hi hx1 hx2 hx3 e1 e2 (u1_s _ _ _) (by decide) (fun _ => rfl), LST_g h (Ok_weights O h3) hC2 rfl rfl rfl rfl rfl (by omega) rfl rfl hp (fun _ _ _ h => h) hD (by omega) (by omega)⟩
  · rw [if_pos h3] at e
    have e1 := l_300x0 (xs := xs) (d := d + 28) e
    have e2 := e2 σ M a (R ++ [ex9])
    rw [if_pos h3] at e2
    exact ⟨_, _, _, _, _, _, _, _, _, _, c_25 (d := d + 29) hi hx1 hx2 hx3 e1 e2 (u1_s _ _ _) (by decide) (fun z => by cases z), LST_x h⟩
end Lwh
