/-! THE CLASS: its school changes (as in whole) -/
section P2b
variable {d n k i j p p1 p2 p3 v w m L c q a b : Nat} {σ σ2 τ M M2 : Nat → Nat → Nat}
set_option maxRecDepth 100000 in
theorem rok_mo {τ : Nat → Nat → Nat} (h : rok σ k a b = true) (h1 : (σ 1 6) ≤ τ 1 6) (h2 : (σ 1 2) ≤ τ 1 2 ∨ (¬ k = 0 ∧ ¬ k = 7)) (h3 : (σ 1 4) ≤ τ 1 4) (h4 : (σ 1 5) ≤ τ 1 5) : rok τ k a b = true := by
  unfold rok at h ⊢
  split at h
  · rename_i h5
    rw [if_pos h5]
    simp at h ⊢
    omega
  · rename_i h5
    rw [if_neg h5]
    split at h
    · rename_i h6
      rw [if_pos h6]
      simp at h ⊢
      omega
    · rename_i h6
      rw [if_neg h6]
      split at h
      · rename_i h7
        rw [if_pos h7]
        simp at h ⊢
        omega
      · rename_i h7
        rw [if_neg h7]
        split at h
        · rename_i h8
          rw [if_pos h8]
          simp at h ⊢
          omega
        · rename_i h8
          rw [if_neg h8]
          simp at h ⊢
          omega
set_option maxRecDepth 100000 in
theorem Ok_grid (O : Ok σ) (ha : 1 ≤ a ∧ a ≤ 2) (hb : 1 ≤ b ∧ b ≤ 3) (hf : (an (σ 1 7) fun q => decide (σ 8 q = 0) || decide (σ 8 q = 7)) = false) : Ok (up (up (up σ 1 0 a) 1 1 b) 1 2 (a * b)) := by
  obtain ⟨o1, o2, o3, o4, o5, o6, o7, o8, o9⟩ := O
  refine ⟨ha, hb, rfl, o4, o5, o6, o7, o8, fun q hq => ?_⟩
  have hn : ¬ σ 8 q = 0 ∧ ¬ σ 8 q = 7 := by
    constructor
    · intro z
      have := (an_t (n := (σ 1 7)) (p := fun q => decide (σ 8 q = 0) || decide (σ 8 q = 7))).mpr ⟨q, hq, (by show (decide (σ 8 q = 0) || decide (σ 8 q = 7)) = true; rw [decide_eq_true z]; rfl : ((fun q => decide (σ 8 q = 0) || decide (σ 8 q = 7)) q) = true)⟩
      rw [this] at hf
      cases hf
    · intro z
      have := (an_t (n := (σ 1 7)) (p := fun q => decide (σ 8 q = 0) || decide (σ 8 q = 7))).mpr ⟨q, hq, (by show (decide (σ 8 q = 0) || decide (σ 8 q = 7)) = true; rw [decide_eq_true z, Bool.or_true] : ((fun q => decide (σ 8 q = 0) || decide (σ 8 q = 7)) q) = true)⟩
      rw [this] at hf
      cases hf
  exact rok_mo (o9 q hq) (Nat.le_refl _) (.inr hn) (Nat.le_refl _) (Nat.le_refl _)
set_option maxRecDepth 100000 in
theorem CIv_n (h : CIv σ M) (hn : M 1 8 < 1000000) (q1 : M2 1 8 = M 1 8 + 1) (q19 : M2 19 = M 19) (q32 : M2 32 = M 32) (q37 : M2 37 = M 37) (q40 : M2 40 = M 40) (q54 : M2 54 = M 54) (q53 : M2 53 = M 53) : CIv σ2 M2 := by
  obtain ⟨⟨⟨k1, k2, k3, k4⟩, v2, v3⟩, ⟨-, r2, r3⟩, c3, c4⟩ := h
  have hK : KI σ2 M2 := by
    refine ⟨by omega, ?_, fun z => ?_, by rw [q32]; exact k4⟩
    · rw [q19, q1]
      omega
    · rw [q19, q1] at z
      omega
  refine ⟨⟨hK, ?_, fun z => ?_⟩, ⟨hK, ?_, fun z => ?_⟩, by rw [q54]; exact c3, by rw [q53]; exact c4⟩
  · rw [q37, q1]
    omega
  · rw [q37, q1] at z
    omega
  · rw [q40, q1]
    omega
  · rw [q40, q1] at z
    omega
set_option maxRecDepth 100000 in
theorem Ok_class (O : Ok σ) (h1 : 1 ≤ p1 ∧ p1 ≤ 99) (h2 : p2 = 4294967295 ∨ p2 < (σ 1 5)) (h4 : (σ 1 3) < 4) : Ok (up (up (up σ 2 (σ 1 3) p1) 3 (σ 1 3) p2) 1 3 ((σ 1 3) + 1)) := by
  obtain ⟨o1, o2, o3, ⟨o4, o5, o6, o7, o8⟩, o9, o10, o11, o12, o13⟩ := O
  refine ⟨o1, o2, o3, ⟨h4, o5, o6, o7, o8⟩, fun l hl => ?_, fun c hc => ?_, o11, o12, fun q hq => o13 q hq⟩
  · obtain ⟨w1, w2, w3⟩ := o9 l hl
    exact ⟨Nat.lt_succ_of_lt w1, w2, w3⟩
  · show (1 ≤ u1 (σ 2) (σ 1 3) p1 c ∧ u1 (σ 2) (σ 1 3) p1 c ≤ 99) ∧ (u1 (σ 3) (σ 1 3) p2 c = 4294967295 ∨ u1 (σ 3) (σ 1 3) p2 c < (σ 1 5))
    by_cases e : c = (σ 1 3)
    · rw [e, u1_s, u1_s]
      exact ⟨h1, h2⟩
    · rw [u1_n e, u1_n e]
      have hc2 : c < (σ 1 3) + 1 := hc
      exact o10 c (by omega)
set_option maxRecDepth 100000 in
theorem Ok_teacher (O : Ok σ) (h4 : (σ 1 4) < 4) : Ok (up σ 1 4 ((σ 1 4) + 1)) := by
  obtain ⟨o1, o2, o3, ⟨o4, o5, o6, o7, o8⟩, o9, o10, o11, o12, o13⟩ := O
  refine ⟨o1, o2, o3, ⟨o4, h4, o6, o7, o8⟩, fun l hl => ?_, o10, o11, o12, fun q hq => rok_mo (o13 q hq) (Nat.le_refl _) (.inl (Nat.le_refl _)) (Nat.le_succ _) (Nat.le_refl _)⟩
  obtain ⟨w1, w2, w3⟩ := o9 l hl
  exact ⟨w1, Nat.lt_succ_of_lt w2, w3⟩
set_option maxRecDepth 100000 in
theorem Ok_room (O : Ok σ) (h1 : 1 ≤ p1 ∧ p1 ≤ 99) (h4 : (σ 1 5) < 3) : Ok (up (up σ 4 (σ 1 5) p1) 1 5 ((σ 1 5) + 1)) := by
  obtain ⟨o1, o2, o3, ⟨o4, o5, o6, o7, o8⟩, o9, o10, o11, o12, o13⟩ := O
  refine ⟨o1, o2, o3, ⟨o4, o5, h4, o7, o8⟩, o9, fun c hc => ?_, fun r hr => ?_, o12, fun q hq => rok_mo (o13 q hq) (Nat.le_refl _) (.inl (Nat.le_refl _)) (Nat.le_refl _) (Nat.le_succ _)⟩
  · obtain ⟨w1, w2⟩ := o10 c hc
    exact ⟨w1, w2.imp_right Nat.lt_succ_of_lt⟩
  · show 1 ≤ u1 (σ 4) (σ 1 5) p1 r ∧ u1 (σ 4) (σ 1 5) p1 r ≤ 99
    by_cases e : r = (σ 1 5)
    · rw [e, u1_s]
      exact h1
    · rw [u1_n e]
      have hr2 : r < (σ 1 5) + 1 := hr
      exact o11 r (by omega)
set_option maxRecDepth 100000 in
theorem Ok_lesson (O : Ok σ) (h1 : p1 < (σ 1 3)) (h2 : p2 < (σ 1 4)) (h3 : 1 ≤ p3 ∧ p3 ≤ 2) (h4 : (σ 1 6) < 6) : Ok (up (up (up (up σ 5 (σ 1 6) p1) 6 (σ 1 6) p2) 7 (σ 1 6) p3) 1 6 ((σ 1 6) + 1)) := by
  obtain ⟨o1, o2, o3, ⟨o4, o5, o6, o7, o8⟩, o9, o10, o11, o12, o13⟩ := O
  refine ⟨o1, o2, o3, ⟨o4, o5, o6, h4, o8⟩, fun l hl => ?_, o10, o11, o12, fun q hq => rok_mo (o13 q hq) (Nat.le_succ _) (.inl (Nat.le_refl _)) (Nat.le_refl _) (Nat.le_refl _)⟩
  show u1 (σ 5) (σ 1 6) p1 l < (σ 1 3) ∧ u1 (σ 6) (σ 1 6) p2 l < (σ 1 4) ∧ (u1 (σ 7) (σ 1 6) p3 l = 1 ∨ u1 (σ 7) (σ 1 6) p3 l = 2)
  by_cases e : l = (σ 1 6)
  · rw [e, u1_s, u1_s, u1_s]
    exact ⟨h1, h2, by omega⟩
  · rw [u1_n e, u1_n e, u1_n e]
    have hl2 : l < (σ 1 6) + 1 := hl
    exact o9 l (by omega)
set_option maxRecDepth 100000 in
theorem Ok_rule (O : Ok σ) (h1 : rok σ p1 p2 p3 = true) (h4 : (σ 1 7) < 10) : Ok (up (up (up (up σ 8 (σ 1 7) p1) 9 (σ 1 7) p2) 10 (σ 1 7) p3) 1 7 ((σ 1 7) + 1)) := by
  obtain ⟨o1, o2, o3, ⟨o4, o5, o6, o7, o8⟩, o9, o10, o11, o12, o13⟩ := O
  refine ⟨o1, o2, o3, ⟨o4, o5, o6, o7, h4⟩, o9, o10, o11, o12, fun q hq => ?_⟩
  show rok σ (u1 (σ 8) (σ 1 7) p1 q) (u1 (σ 9) (σ 1 7) p2 q) (u1 (σ 10) (σ 1 7) p3 q) = true
  by_cases e : q = (σ 1 7)
  · rw [e, u1_s, u1_s, u1_s]
    exact h1
  · rw [u1_n e, u1_n e, u1_n e]
    have hq2 : q < (σ 1 7) + 1 := hq
    exact o13 q (by omega)
set_option maxRecDepth 100000 in
theorem Ok_weights (O : Ok σ) (h : p1 ≤ 9 ∧ p2 ≤ 9 ∧ p3 ≤ 9) : Ok (up (up (up σ 11 0 p1) 11 1 p2) 11 2 p3) := by
  obtain ⟨o1, o2, o3, o4, o9, o10, o11, o12, o13⟩ := O
  refine ⟨o1, o2, o3, o4, o9, o10, o11, fun i hi => ?_, fun q hq => o13 q hq⟩
  have : i = 0 ∨ i = 1 ∨ i = 2 := by omega
  rcases this with rfl | rfl | rfl
  · exact h.1
  · exact h.2.1
  · exact h.2.2
set_option maxRecDepth 100000 in
theorem w_CR {X : Nat → Nat} : CR (up (up (up σ 11 0 p1) 11 1 p2) 11 2 p3) X ↔ CR σ X := by
  constructor
  · intro h p hp u hu
    rcases hp with rfl | rfl
    · exact h 5 (.inl rfl) u hu
    · exact h 6 (.inr rfl) u hu
  · intro h p hp u hu
    rcases hp with rfl | rfl
    · exact h 5 (.inl rfl) u hu
    · exact h 6 (.inr rfl) u hu
set_option maxRecDepth 100000 in
theorem w_SS {X : Nat → Nat} : SS (up (up (up σ 11 0 p1) 11 1 p2) 11 2 p3) X ↔ SS σ X := ⟨fun h => ⟨h.1, h.2.1, w_CR.mp h.2.2⟩, fun h => ⟨h.1, h.2.1, w_CR.mpr h.2.2⟩⟩
set_option maxRecDepth 100000 in
theorem w_CI (h : CIv σ M) : CIv (up (up (up σ 11 0 p1) 11 1 p2) 11 2 p3) M := by
  obtain ⟨⟨k, v2, v3⟩, ⟨-, r2, r3⟩, c3, c4⟩ := h
  exact ⟨⟨k, v2, fun z => ⟨w_SS.mpr (v3 z).1, fun X hX => (v3 z).2 X (w_SS.mp hX)⟩⟩, ⟨k, r2, r3⟩, c3, c4⟩
end P2b
