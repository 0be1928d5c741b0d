/-! THE SCHOOL IN NUMBERS -/
/-- whether a rule of a kind may name a and b -/
def rok (σ : Nat → Nat → Nat) (k a b : Nat) : Bool :=
  if k = 0 then decide (a < (σ 1 6)) && decide (b < (σ 1 2))
  else if k = 1 then decide (a < (σ 1 4)) && decide (b ≤ 3)
  else if k = 6 then decide (a < (σ 1 6)) && decide (b < (σ 1 5))
  else if k = 7 then decide (a < (σ 1 4)) && decide (b < (σ 1 2))
  else decide (k ≤ 5) && (decide (a < (σ 1 6)) && (decide (b < (σ 1 6)) && decide (a ≠ b)))
def Ok (σ : Nat → Nat → Nat) : Prop := (1 ≤ (σ 1 0) ∧ (σ 1 0) ≤ 2) ∧ (1 ≤ (σ 1 1) ∧ (σ 1 1) ≤ 3) ∧ (σ 1 2) = (σ 1 0) * (σ 1 1) ∧ ((σ 1 3) ≤ 4 ∧ (σ 1 4) ≤ 4 ∧ (σ 1 5) ≤ 3 ∧ (σ 1 6) ≤ 6 ∧ (σ 1 7) ≤ 10) ∧ (∀ l, l < (σ 1 6) → σ 5 l < (σ 1 3) ∧ σ 6 l < (σ 1 4) ∧ (σ 7 l = 1 ∨ σ 7 l = 2)) ∧ (∀ c, c < (σ 1 3) → (1 ≤ σ 2 c ∧ σ 2 c ≤ 99) ∧ (σ 3 c = 4294967295 ∨ σ 3 c < (σ 1 5))) ∧ (∀ r, r < (σ 1 5) → 1 ≤ σ 4 r ∧ σ 4 r ≤ 99) ∧ (∀ i, i < 3 → σ 11 i ≤ 9) ∧ (∀ r, r < (σ 1 7) → rok σ (σ 8 r) (σ 9 r) (σ 10 r) = true)
section Ma
variable {σ : Nat → Nat → Nat}
theorem Ok_b (O : Ok σ) : 1 ≤ (σ 1 0) ∧ (σ 1 0) ≤ 2 ∧ 1 ≤ (σ 1 1) ∧ (σ 1 1) ≤ 3 ∧ ((σ 1 0) = 1 ∧ (σ 1 2) = (σ 1 1) ∨ (σ 1 0) = 2 ∧ (σ 1 2) = 2 * (σ 1 1)) ∧ (σ 1 3) ≤ 4 ∧ (σ 1 4) ≤ 4 ∧ (σ 1 5) ≤ 3 ∧ (σ 1 6) ≤ 6 ∧ (σ 1 7) ≤ 10 := by
  obtain ⟨⟨h1, h2⟩, ⟨h3, h4⟩, h5, ⟨h6, h7, h8, h9, h10⟩, -⟩ := O
  refine ⟨h1, h2, h3, h4, ?_, h6, h7, h8, h9, h10⟩
  have : (σ 1 0) = 1 ∨ (σ 1 0) = 2 := by omega
  rcases this with h | h
  · rw [h] at h5
    exact .inl ⟨h, by omega⟩
  · rw [h] at h5
    exact .inr ⟨h, by omega⟩
theorem Ok_l (O : Ok σ) {l : Nat} (hl : l < (σ 1 6)) : σ 5 l < (σ 1 3) ∧ σ 6 l < (σ 1 4) ∧ (σ 7 l = 1 ∨ σ 7 l = 2) := O.2.2.2.2.1 l hl
theorem Ok_c (O : Ok σ) {c : Nat} (h : c < (σ 1 3)) : (1 ≤ σ 2 c ∧ σ 2 c ≤ 99) ∧ (σ 3 c = 4294967295 ∨ σ 3 c < (σ 1 5)) := O.2.2.2.2.2.1 c h
theorem Ok_r (O : Ok σ) {r : Nat} (h : r < (σ 1 5)) : 1 ≤ σ 4 r ∧ σ 4 r ≤ 99 := O.2.2.2.2.2.2.1 r h
theorem Ok_w (O : Ok σ) {i : Nat} (h : i < 3) : σ 11 i ≤ 9 := O.2.2.2.2.2.2.2.1 i h
theorem Ok_q (O : Ok σ) {q : Nat} (h : q < (σ 1 7)) : rok σ (σ 8 q) (σ 9 q) (σ 10 q) = true := O.2.2.2.2.2.2.2.2 q h
end Ma
def hou (σ : Nat → Nat → Nat) (s : Nat) : Nat := if s < (σ 1 1) then s else s - (σ 1 1)
def dy (σ : Nat → Nat → Nat) (s : Nat) : Nat := if s < (σ 1 1) then 0 else 1
def las (σ : Nat → Nat → Nat) (l s : Nat) : Nat := if σ 7 l = 2 ∧ s + 1 < (σ 1 2) then s + 1 else s
def cov (σ : Nat → Nat → Nat) (l s : Nat) : Nat := (if σ 7 l = 2 ∧ s + 1 < (σ 1 2) then 3 else 1) <<< s
def sty (σ : Nat → Nat → Nat) (l s : Nat) : Bool := decide (σ 7 l = 1) || decide (hou σ s + 1 < (σ 1 1))
def sts (σ : Nat → Nat → Nat) (l r : Nat) : Bool := decide (σ 2 (σ 5 l) ≤ σ 4 r)
def sc (σ : Nat → Nat → Nat) (l o : Nat) : Bool := decide (σ 5 l = σ 5 o)
def stc (σ : Nat → Nat → Nat) (l o : Nat) : Bool := decide (σ 6 l = σ 6 o)
def dm (σ : Nat → Nat → Nat) (d : Nat) : Nat := ((1 <<< (σ 1 1)) - 1) <<< (d * (σ 1 1))
def lh (σ : Nat → Nat → Nat) : Nat := en ((σ 1 0) * (σ 1 1)) fun i => decide (i % (σ 1 1) = (σ 1 1) - 1)
/-- the weight of late hours and rooms of a value -/
def wv (σ : Nat → Nat → Nat) (l s r : Nat) : Nat := σ 11 0 * hou σ (las σ l s) + (if σ 3 (σ 5 l) ≠ 4294967295 ∧ σ 3 (σ 5 l) ≠ r then σ 11 1 else 0)
/-- a rule of two lessons, when they begin in s and u -/
def kp2 (σ : Nat → Nat → Nat) (q s u : Nat) : Bool :=
  if σ 8 q = 2 then decide (s = u)
  else if σ 8 q = 3 then decide (dy σ s ≠ dy σ u)
  else if σ 8 q = 4 then decide (las σ (σ 9 q) s < u)
  else decide (dy σ s = dy σ u) && (decide (u = las σ (σ 9 q) s + 1) || decide (s = las σ (σ 10 q) u + 1))
theorem one_shl (k : Nat) : 1 ≤ 1 <<< k := by
  rw [Nat.one_shiftLeft]
  exact Nat.one_le_two_pow
theorem dm_lt {σ : Nat → Nat → Nat} (O : Ok σ) {d : Nat} (hd : d < (σ 1 0)) : dm σ d < 64 := by
  obtain ⟨hD1, hD2, hH1, hH2, hS, hC, hT, hR, hL, hQ⟩ := Ok_b O
  unfold dm
  have h1 : (σ 1 1) = 1 ∨ (σ 1 1) = 2 ∨ (σ 1 1) = 3 := by omega
  have h2 : d = 0 ∨ d = 1 := by omega
  rcases h1 with h | h | h <;> rw [h] <;> rcases h2 with rfl | rfl <;> decide
