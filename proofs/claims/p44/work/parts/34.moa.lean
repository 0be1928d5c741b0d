/-! THE MODEL'S METHODS THAT ONLY READ -/
/-- whether all of n are so -/
def al (n : Nat) (p : Nat → Bool) : Bool := match n with
  | 0 => true
  | n + 1 => al n p && p n
set_option maxRecDepth 100000 in
theorem al_t {n : Nat} {p : Nat → Bool} : al n p = true ↔ ∀ i, i < n → p i = true := by
  induction n with
  | zero => simp [al]
  | succ n ih =>
    rw [al, Bool.and_eq_true, ih]
    constructor
    · intro ⟨h1, h2⟩ i hi
      by_cases hn : i = n
      · subst hn; exact h2
      · exact h1 i (by omega)
    · intro h
      exact ⟨fun i hi => h i (by omega), h n (by omega)⟩
set_option maxRecDepth 100000 in
theorem al_f {n : Nat} {p : Nat → Bool} : al n p = false ↔ ∃ i, i < n ∧ p i = false := by
  rw [← Bool.not_eq_true, al_t]
  simp
/-- whether one of n is so -/
def an (n : Nat) (p : Nat → Bool) : Bool := match n with
  | 0 => false
  | n + 1 => an n p || p n
set_option maxRecDepth 100000 in
theorem an_t {n : Nat} {p : Nat → Bool} : an n p = true ↔ ∃ i, i < n ∧ p i = true := by
  induction n with
  | zero => simp [an]
  | succ n ih =>
    rw [an, Bool.or_eq_true, ih]
    constructor
    · intro h
      rcases h with ⟨i, hi, h⟩ | h
      · exact ⟨i, by omega, h⟩
      · exact ⟨n, by omega, h⟩
    · intro ⟨i, hi, h⟩
      by_cases hn : i = n
      · subst hn; exact .inr h
      · exact .inl ⟨i, by omega, h⟩
set_option maxRecDepth 100000 in
theorem vb {σ : Nat → Nat → Nat} (O : Ok σ) {v : Nat} (hv : v < (σ 1 2) * (σ 1 5)) : v < 18 ∧ v / (σ 1 5) < (σ 1 2) ∧ v % (σ 1 5) < (σ 1 5) ∧ 0 < (σ 1 5) ∧ v / (σ 1 5) < 6 := by
  obtain ⟨hD1, hD2, hH1, hH2, hS, hC, hT, hR, hL, hQ⟩ := Ok_b O
  have h1 : 0 < (σ 1 5) := by
    rcases Nat.eq_zero_or_pos (σ 1 5) with h | h
    · rw [h] at hv; omega
    · exact h
  have h2 : (σ 1 2) * (σ 1 5) ≤ 6 * 3 := Nat.mul_le_mul (by omega) hR
  have h3 : v / (σ 1 5) < (σ 1 2) := (Nat.div_lt_iff_lt_mul h1).mpr hv
  exact ⟨by omega, h3, Nat.mod_lt _ h1, h1, by omega⟩
set_option maxRecDepth 100000 in
theorem hou_m {σ : Nat → Nat → Nat} (O : Ok σ) {s : Nat} (hs : s < (σ 1 2)) : s % (σ 1 1) = hou σ s := by
  obtain ⟨hD1, hD2, hH1, hH2, hS, hC, hT, hR, hL, hQ⟩ := Ok_b O
  unfold hou
  have h1 : (σ 1 1) = 1 ∨ (σ 1 1) = 2 ∨ (σ 1 1) = 3 := by omega
  rcases h1 with h | h | h <;> rw [h] at hS ⊢ <;> split <;> omega
set_option maxRecDepth 100000 in
theorem dy_m {σ : Nat → Nat → Nat} (O : Ok σ) {s : Nat} (hs : s < (σ 1 2)) : s / (σ 1 1) = dy σ s := by
  obtain ⟨hD1, hD2, hH1, hH2, hS, hC, hT, hR, hL, hQ⟩ := Ok_b O
  unfold dy
  have h1 : (σ 1 1) = 1 ∨ (σ 1 1) = 2 ∨ (σ 1 1) = 3 := by omega
  rcases h1 with h | h | h <;> rw [h] at hS ⊢ <;> split <;> omega
set_option maxRecDepth 100000 in
theorem las_m {σ : Nat → Nat → Nat} (O : Ok σ) {l s : Nat} (hl : l < (σ 1 6)) (hs : s < (σ 1 2)) : min (s + σ 7 l - 1) ((σ 1 2) - 1) = las σ l s := by
  obtain ⟨hD1, hD2, hH1, hH2, hS, hC, hT, hR, hL, hQ⟩ := Ok_b O
  obtain ⟨h1, h2, h3⟩ := Ok_l O hl
  unfold las
  split <;> omega
set_option maxRecDepth 100000 in
theorem cov_m {σ : Nat → Nat → Nat} (O : Ok σ) {l s : Nat} (hl : l < (σ 1 6)) (hs : s < (σ 1 2)) : 1 <<< s ||| 1 <<< las σ l s = cov σ l s := by
  obtain ⟨hD1, hD2, hH1, hH2, hS, hC, hT, hR, hL, hQ⟩ := Ok_b O
  unfold las cov
  have h2 : s = 0 ∨ s = 1 ∨ s = 2 ∨ s = 3 ∨ s = 4 ∨ s = 5 := by omega
  split <;> rcases h2 with rfl | rfl | rfl | rfl | rfl | rfl <;> decide
/-- whether a lesson keeps a rule that names it or its teacher alone -/
def ka (σ : Nat → Nat → Nat) (q l v : Nat) : Bool :=
  if σ 8 q = 0 then decide (σ 9 q ≠ l) || !(cov σ l (v / (σ 1 5))).testBit (σ 10 q)
  else if σ 8 q = 6 then decide (σ 9 q ≠ l) || decide (v % (σ 1 5) = σ 10 q)
  else if σ 8 q = 7 then decide (σ 9 q ≠ σ 6 l) || !(cov σ l (v / (σ 1 5))).testBit (σ 10 q)
  else true
section Md
variable {xs : List Int32} {d : Nat} {σ : Nat → Nat → Nat} {μ : Nat → Nat} {ν : Nat → Value} {h : ab_H} {l o u v q : Nat} {tab : Nat → Nat} {n p : Nat}
set_option maxRecDepth 100000 in
theorem isn (k n : Nat) (hk : k < 4294967296) (hn : n < 1000) : (!decide (nI k < nI 0) && !decide (nI n - nI 1 < nI k)) = decide (k < n) := by
  simp only [iN_ltg hk (show 0 < 4294967296 by decide)]
  by_cases h0 : n = 0
  · subst h0
    simp only [show nI 0 - nI 1 = nI 4294967295 from rfl, iN_ltg (show 4294967295 < 4294967296 by decide) hk]
    by_cases h1 : (k + 2147483648) % 4294967296 < (0 + 2147483648) % 4294967296
    · simp [h1]
    · have h2 : (4294967295 + 2147483648) % 4294967296 < (k + 2147483648) % 4294967296 := by omega
      simp [h1, h2]
  · simp only [iN_sub (show 1 ≤ n by omega), iN_ltg (show n - 1 < 4294967296 by omega) hk]
    by_cases h1 : (k + 2147483648) % 4294967296 < (0 + 2147483648) % 4294967296
    · have : ¬ k < n := by omega
      simp [h1, this]
    · by_cases h2 : (n - 1 + 2147483648) % 4294967296 < (k + 2147483648) % 4294967296
      · have : ¬ k < n := by omega
        simp [h1, h2, this]
      · have : k < n := by omega
        simp [h1, h2, this]
def cl2 (σ : Nat → Nat → Nat) (l u o v : Nat) : Nat := if cov σ l (u / (σ 1 5)) &&& cov σ o (v / (σ 1 5)) = 0 then 0 else b1 (sc σ l o) + b1 (stc σ l o) + b1 (decide (u % (σ 1 5) = v % (σ 1 5)))
set_option maxRecDepth 100000 in
theorem lks_k (k : Nat) : lks [0, 6, 7] [1, 7, 12, 18] k = if k = 0 then 1 else if k = 6 then 7 else if k = 7 then 12 else 18 := by
  unfold lks
  by_cases h0 : k = 0
  · subst h0; rfl
  · by_cases h1 : k = 6
    · subst h1; rfl
    · by_cases h2 : k = 7
      · subst h2; rfl
      · have : [0, 6, 7].findIdx? (fun q => q == k) = none := by
          rw [List.findIdx?_eq_none_iff]
          intro x hx
          simp at hx
          rcases hx with rfl | rfl | rfl <;> simp <;> omega
        rw [this, if_neg h0, if_neg h1, if_neg h2]
        rfl
set_option maxRecDepth 100000 in
theorem xt_ka {xs : List Int32} {d m n : Nat} {hs : List (Nat × Nat)} {c : Nat × Nat × Nat} {L st : List Value} {h : ab_H} {x : Nat} (hx : x < 2147483648) : rt xs d m hs (.lookupswitch 138 #[(0, 34), (6, 68), (7, 99)], n, c, [1, 7, 12, 18]) [] (L, .int (nI x) :: st, h) = ev xs d m (if x = 0 then 1 else if x = 6 then 7 else if x = 7 then 12 else 18) (L, st, h) := by
  rw [← lks_k]
  refine xt_ls hx fun y => ?_
  have e0 : ((0 : Int) == (y : Int)) = (0 == y) := by rw [Bool.eq_iff_iff]; simp; omega
  have e6 : ((6 : Int) == (y : Int)) = (6 == y) := by rw [Bool.eq_iff_iff]; simp; omega
  have e7 : ((7 : Int) == (y : Int)) = (7 == y) := by rw [Bool.eq_iff_iff]; simp; omega
  simp only [List.findIdx?_cons, List.findIdx?_nil, e0, e6, e7]
end Md
