/-! THE MODEL'S LOOPS THAT ONLY READ -/
section Me
variable {xs : List Int32} {d : Nat} {σ : Nat → Nat → Nat} {μ : Nat → Nat} {ν : Nat → Value} {h : ab_H} {l o u v q p n : Nat} {tab : Nat → Nat}
/-- what a teacher's first lessons cover -/
def bus (σ : Nat → Nat → Nat) (t : Nat) (tab : Nat → Nat) (m : Nat) : Nat := orn m fun l => if σ 6 l = t then cov σ l (tab l / (σ 1 5)) else 0
set_option maxRecDepth 100000 in
theorem bus_ctc (t : Nat) (tab : Nat → Nat) : bus σ t tab (σ 1 6) = ctc σ (fun l => tab l / (σ 1 5)) t := rfl
set_option maxRecDepth 100000 in
theorem bus_lt (O : Ok σ) {t : Nat} {m : Nat} (hm : m ≤ (σ 1 6)) (ht : ∀ l, l < m → tab l < (σ 1 2) * (σ 1 5)) : bus σ t tab m < 64 := by
  refine orn_lt (e := 6) fun i hi => ?_
  split
  · exact cov_lt O (vb O (ht i hi)).2.1
  · decide
set_option maxRecDepth 100000 in
theorem al_lgd (u v : Nat) (s : Nat → Nat) : (al (σ 1 0) fun y => decide (pc 10 (ctc σ s u &&& dm σ y) ≤ v)) = decide (lgd σ s u ≤ v) := by
  rw [Bool.eq_iff_iff, al_t]
  simp only [decide_eq_true_eq]
  unfold lgd
  rw [mxn_le]
set_option maxRecDepth 100000 in
theorem al_ka0 (O : Ok σ) (hq : q < (σ 1 7)) (h0 : σ 8 q = 0) : (al (σ 1 6) fun l => ka σ q l (tab l)) = !(cov σ (σ 9 q) (tab (σ 9 q) / (σ 1 5))).testBit (σ 10 q) := by
  obtain ⟨ha, hb⟩ := rk_0 O hq h0
  rw [Bool.eq_iff_iff, al_t]
  unfold ka
  simp only [if_pos h0, Bool.or_eq_true, decide_eq_true_eq]
  constructor
  · intro h
    rcases h _ ha with h | h
    · exact absurd rfl h
    · exact h
  · intro h i hi
    by_cases e : σ 9 q = i
    · subst e; exact .inr h
    · exact .inl e
set_option maxRecDepth 100000 in
theorem al_ka6 (O : Ok σ) (hq : q < (σ 1 7)) (h0 : σ 8 q = 6) : (al (σ 1 6) fun l => ka σ q l (tab l)) = decide (tab (σ 9 q) % (σ 1 5) = σ 10 q) := by
  obtain ⟨ha, hb⟩ := rk_6 O hq h0
  rw [Bool.eq_iff_iff, al_t]
  unfold ka
  simp only [h0, Nat.reduceEqDiff, if_false, if_true, Bool.or_eq_true, decide_eq_true_eq]
  constructor
  · intro h
    rcases h _ ha with h | h
    · exact absurd rfl h
    · exact h
  · intro h i hi
    by_cases e : σ 9 q = i
    · subst e; exact .inr h
    · exact .inl e
set_option maxRecDepth 100000 in
theorem al_ka7 (O : Ok σ) (hq : q < (σ 1 7)) (h0 : σ 8 q = 7) : (al (σ 1 6) fun l => ka σ q l (tab l)) = !(ctc σ (fun l => tab l / (σ 1 5)) (σ 9 q)).testBit (σ 10 q) := by
  obtain ⟨ha, hb⟩ := rk_7 O hq h0
  rw [Bool.eq_iff_iff, al_t, Bool.not_eq_true', ← Bool.not_eq_true]
  unfold ka ctc
  simp only [h0, Nat.reduceEqDiff, if_false, if_true, Bool.or_eq_true, decide_eq_true_eq]
  rw [orn_tb]
  constructor
  · rintro h ⟨k, hk, h2⟩
    by_cases e : σ 6 k = σ 9 q
    · rw [if_pos e] at h2
      rcases h k hk with h | h
      · exact h e.symm
      · rw [h2] at h; cases h
    · rw [if_neg e] at h2
      simp at h2
  · intro h i hi
    by_cases e : σ 9 q = σ 6 i
    · right
      by_cases h2 : (cov σ i (tab i / (σ 1 5))).testBit (σ 10 q) = true
      · exact absurd ⟨i, hi, by rw [if_pos e.symm]; exact h2⟩ h
      · simpa using h2
    · exact .inl e
end Me
