/-! THE CLASS ITSELF: print, count, sums, errors -/
def bdk (σ : Nat → Nat → Nat) (kd : Nat) : Nat := if kd = 0 then (σ 1 3) else if kd = 1 then (σ 1 4) else (σ 1 5)
def plen (σ : Nat → Nat → Nat) (y : Nat) : Nat := y + if (σ 1 1) < y then 1 else 0
section Clf
variable {xs : List Int32} {σ M N K M' : Nat → Nat → Nat} {R : ab_H} {d e k a b c u i n m l x y v set g t kd : Nat} {s r s0 r0 f : Nat → Nat} {p : Nat → Prop}
set_option maxRecDepth 100000 in
theorem CHs_u (h : CHs p n a) (h2 : CHs p n b) : a = b := by
  rcases h with ⟨l, h1, h3, h4, h5⟩ | ⟨h1, h5⟩
  · rcases h2 with ⟨k, g1, g3, g4, g5⟩ | ⟨g1, g5⟩
    · have : l = k := by
        rcases Nat.lt_trichotomy l k with z | z | z
        · exact absurd h3 (g4 l z)
        · exact z
        · exact absurd g3 (h4 k z)
      omega
    · exact absurd h3 (g1 l h1)
  · rcases h2 with ⟨k, g1, g3, g4, g5⟩ | ⟨g1, g5⟩
    · exact absurd g3 (h1 k g1)
    · omega
set_option maxRecDepth 100000 in
theorem PRT_u (O : Ok σ) {f g : Nat → Nat} (h : PRT σ s r kd n f) (h2 : PRT σ s r kd n g) (hk : k < (σ 1 2) + (σ 1 0) - 1) : f k = g k := by
  obtain ⟨hD1, hD2, hH1, hH2, hS, hC, hT, hR, hL, hQ⟩ := Ok_b O
  by_cases h3 : (σ 1 0) = 2 ∧ k = (σ 1 1)
  · rw [h3.2, h.2 h3.1, h2.2 h3.1]
  · have key : ∀ y, y < (σ 1 2) → y + y / (σ 1 1) = k → f k = g k := fun y hy e => by
      rw [← e]
      exact CHs_u (h.1 y hy) (h2.1 y hy)
    by_cases h4 : k < (σ 1 1)
    · exact key k (by omega) (by rw [Nat.div_eq_of_lt h4, Nat.add_zero])
    · have h5 : (σ 1 0) = 2 := by omega
      have h6 : k ≠ (σ 1 1) := fun z => h3 ⟨h5, z⟩
      refine key (k - 1) (by omega) ?_
      have h7 : (k - 1) / (σ 1 1) = 1 := Nat.div_eq_of_lt_le (by omega) (by omega)
      omega
set_option maxRecDepth 100000 in
theorem bdk_4 (O : Ok σ) : bdk σ kd ≤ 4 := by
  obtain ⟨hD1, hD2, hH1, hH2, hS, hC, hT, hR, hL, hQ⟩ := Ok_b O
  unfold bdk
  split
  · exact hC
  · split <;> omega
set_option maxRecDepth 100000 in
theorem stx {v : Nat} : up (up (up (ur M 61 f) 0 13 n) 61 n v) 0 13 (n + 1) = up (ur M 61 (u1 f n v)) 0 13 (n + 1) := by
  funext b j
  by_cases h0 : b = 0
  · subst h0
    rw [up_s, up_s, up_n (by decide), up_s]
    by_cases hj : j = 13
    · rw [hj, u1_s, u1_s]
    · rw [u1_n hj, u1_n hj, u1_n hj, ur_n (by decide), ur_n (by decide)]
  · by_cases h1 : b = 61
    · subst h1
      rw [up_n (by decide), up_s, up_n (by decide), ur_s, up_n (by decide), ur_s]
    · rw [up_n h0, up_n h1, up_n h0, ur_n h1, up_n h0, ur_n h1]
end Clf
