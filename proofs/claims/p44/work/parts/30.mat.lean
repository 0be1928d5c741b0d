/-! THE SCHOOL IN NUMBERS -/
theorem st8_a {st : List Value} (h : (st.map fun v => v.category).sum ≤ 8) : st8 st = true := decide_eq_true h
/-- whether a rule of a kind may name a and b -/
def rok (σ : Nat → Nat → Nat) (k a b : Nat) : Bool :=
  if k = 0 then decide (a < (σ 1 6)) && decide (b < (σ 1 2))
  else if k = 1 then decide (a < (σ 1 4)) && decide (b ≤ 3)
  else if k = 6 then decide (a < (σ 1 6)) && decide (b < (σ 1 5))
  else if k = 7 then decide (a < (σ 1 4)) && decide (b < (σ 1 2))
  else decide (k ≤ 5) && (decide (a < (σ 1 6)) && (decide (b < (σ 1 6)) && decide (a ≠ b)))
def Ok (σ : Nat → Nat → Nat) : Prop := (1 ≤ (σ 1 0) ∧ (σ 1 0) ≤ 2) ∧ (1 ≤ (σ 1 1) ∧ (σ 1 1) ≤ 3) ∧ (σ 1 2) = (σ 1 0) * (σ 1 1) ∧ ((σ 1 3) ≤ 4 ∧ (σ 1 4) ≤ 4 ∧ (σ 1 5) ≤ 3 ∧ (σ 1 6) ≤ 6 ∧ (σ 1 7) ≤ 10) ∧ (∀ l, l < (σ 1 6) → σ 5 l < (σ 1 3) ∧ σ 6 l < (σ 1 4) ∧ (σ 7 l = 1 ∨ σ 7 l = 2)) ∧ (∀ c, c < (σ 1 3) → (1 ≤ σ 2 c ∧ σ 2 c ≤ 99) ∧ (σ 3 c = 4294967295 ∨ σ 3 c < (σ 1 5))) ∧ (∀ r, r < (σ 1 5) → 1 ≤ σ 4 r ∧ σ 4 r ≤ 99) ∧ (∀ i, i < 3 → σ 11 i ≤ 9) ∧ (∀ r, r < (σ 1 7) → rok σ (σ 8 r) (σ 9 r) (σ 10 r) = true)
section Ma
variable {σ : Nat → Nat → Nat}
theorem Ok_b (O : Ok σ) : 1 ≤ (σ 1 0) ∧ (σ 1 0) ≤ 2 ∧ 1 ≤ (σ 1 1) ∧ (σ 1 1) ≤ 3 ∧ ((σ 1 0) = 1 ∧ (σ 1 2) = (σ 1 1) ∨ (σ 1 0) = 2 ∧ (σ 1 2) = 2 * (σ 1 1)) ∧ (σ 1 3) ≤ 4 ∧ (σ 1 4) ≤ 4 ∧ (σ 1 5) ≤ 3 ∧ (σ 1 6) ≤ 6 ∧ (σ 1 7) ≤ 10 := by
  obtain ⟨⟨h1, h2⟩, ⟨h3, h4⟩, h5, ⟨h6, h7, h8, h9, h10⟩, -⟩ := O
  refine ⟨h1, h2, h3, h4, ?_, h6, h7, h8, h9, h10⟩
  have : (σ 1 0) = 1 ∨ (σ 1 0) = 2 := by omega
  rcases this with h | h
  · rw [h] at h5
    exact .inl ⟨h, by omega⟩
  · rw [h] at h5
    exact .inr ⟨h, by omega⟩
theorem Ok_l (O : Ok σ) {l : Nat} (hl : l < (σ 1 6)) : σ 5 l < (σ 1 3) ∧ σ 6 l < (σ 1 4) ∧ (σ 7 l = 1 ∨ σ 7 l = 2) := O.2.2.2.2.1 l hl
theorem Ok_c (O : Ok σ) {c : Nat} (h : c < (σ 1 3)) : (1 ≤ σ 2 c ∧ σ 2 c ≤ 99) ∧ (σ 3 c = 4294967295 ∨ σ 3 c < (σ 1 5)) := O.2.2.2.2.2.1 c h
theorem Ok_r (O : Ok σ) {r : Nat} (h : r < (σ 1 5)) : 1 ≤ σ 4 r ∧ σ 4 r ≤ 99 := O.2.2.2.2.2.2.1 r h
theorem Ok_w (O : Ok σ) {i : Nat} (h : i < 3) : σ 11 i ≤ 9 := O.2.2.2.2.2.2.2.1 i h
theorem Ok_q (O : Ok σ) {q : Nat} (h : q < (σ 1 7)) : rok σ (σ 8 q) (σ 9 q) (σ 10 q) = true := O.2.2.2.2.2.2.2.2 q h
end Ma
def hou (σ : Nat → Nat → Nat) (s : Nat) : Nat := if s < (σ 1 1) then s else s - (σ 1 1)
def dy (σ : Nat → Nat → Nat) (s : Nat) : Nat := if s < (σ 1 1) then 0 else 1
def las (σ : Nat → Nat → Nat) (l s : Nat) : Nat := if σ 7 l = 2 ∧ s + 1 < (σ 1 2) then s + 1 else s
def cov (σ : Nat → Nat → Nat) (l s : Nat) : Nat := (if σ 7 l = 2 ∧ s + 1 < (σ 1 2) then 3 else 1) <<< s
def sty (σ : Nat → Nat → Nat) (l s : Nat) : Bool := decide (σ 7 l = 1) || decide (hou σ s + 1 < (σ 1 1))
def sts (σ : Nat → Nat → Nat) (l r : Nat) : Bool := decide (σ 2 (σ 5 l) ≤ σ 4 r)
def sc (σ : Nat → Nat → Nat) (l o : Nat) : Bool := decide (σ 5 l = σ 5 o)
def stc (σ : Nat → Nat → Nat) (l o : Nat) : Bool := decide (σ 6 l = σ 6 o)
def dm (σ : Nat → Nat → Nat) (d : Nat) : Nat := ((1 <<< (σ 1 1)) - 1) <<< (d * (σ 1 1))
def lh (σ : Nat → Nat → Nat) : Nat := en ((σ 1 0) * (σ 1 1)) fun i => decide (i % (σ 1 1) = (σ 1 1) - 1)
/-- the weight of late hours and rooms of a value -/
def wv (σ : Nat → Nat → Nat) (l s r : Nat) : Nat := σ 11 0 * hou σ (las σ l s) + (if σ 3 (σ 5 l) ≠ 4294967295 ∧ σ 3 (σ 5 l) ≠ r then σ 11 1 else 0)
/-- a rule of two lessons, when they begin in s and u -/
def kp2 (σ : Nat → Nat → Nat) (q s u : Nat) : Bool :=
  if σ 8 q = 2 then decide (s = u)
  else if σ 8 q = 3 then decide (dy σ s ≠ dy σ u)
  else if σ 8 q = 4 then decide (las σ (σ 9 q) s < u)
  else decide (dy σ s = dy σ u) && (decide (u = las σ (σ 9 q) s + 1) || decide (s = las σ (σ 10 q) u + 1))
theorem one_shl (k : Nat) : 1 ≤ 1 <<< k := by
  rw [Nat.one_shiftLeft]
  exact Nat.one_le_two_pow
theorem dm_lt {σ : Nat → Nat → Nat} (O : Ok σ) {d : Nat} (hd : d < (σ 1 0)) : dm σ d < 64 := by
  obtain ⟨hD1, hD2, hH1, hH2, hS, hC, hT, hR, hL, hQ⟩ := Ok_b O
  unfold dm
  have h1 : (σ 1 1) = 1 ∨ (σ 1 1) = 2 ∨ (σ 1 1) = 3 := by omega
  have h2 : d = 0 ∨ d = 1 := by omega
  rcases h1 with h | h | h <;> rw [h] <;> rcases h2 with rfl | rfl <;> decide
theorem cov_lt {σ : Nat → Nat → Nat} (O : Ok σ) {l s : Nat} (hs : s < (σ 1 2)) : cov σ l s < 64 := by
  obtain ⟨hD1, hD2, hH1, hH2, hS, hC, hT, hR, hL, hQ⟩ := Ok_b O
  unfold cov
  have h2 : s = 0 ∨ s = 1 ∨ s = 2 ∨ s = 3 ∨ s = 4 ∨ s = 5 := by omega
  split
  · rcases h2 with rfl | rfl | rfl | rfl | rfl | rfl
    all_goals first | decide | omega
  · rcases h2 with rfl | rfl | rfl | rfl | rfl | rfl <;> decide
theorem lh_lt (σ : Nat → Nat → Nat) (O : Ok σ) : lh σ < 64 := by
  obtain ⟨hD1, hD2, hH1, hH2, hS, hC, hT, hR, hL, hQ⟩ := Ok_b O
  have h1 : (σ 1 1) = 1 ∨ (σ 1 1) = 2 ∨ (σ 1 1) = 3 := by omega
  have h2 : (σ 1 0) = 1 ∨ (σ 1 0) = 2 := by omega
  unfold lh
  rcases h1 with h | h | h <;> rw [h] <;> rcases h2 with h2 | h2 <;> rw [h2] <;> decide
theorem hou_lt {σ : Nat → Nat → Nat} (O : Ok σ) {s : Nat} (hs : s < (σ 1 2)) : hou σ s < (σ 1 1) := by
  obtain ⟨hD1, hD2, hH1, hH2, hS, hC, hT, hR, hL, hQ⟩ := Ok_b O
  unfold hou
  split <;> omega
theorem las_lt {σ : Nat → Nat → Nat} {l s : Nat} (hs : s < (σ 1 2)) : las σ l s < (σ 1 2) := by
  unfold las
  split <;> omega
theorem wv_le {σ : Nat → Nat → Nat} (O : Ok σ) {l s r : Nat} (hs : s < (σ 1 2)) : wv σ l s r ≤ 27 := by
  obtain ⟨hD1, hD2, hH1, hH2, hS, hC, hT, hR, hL, hQ⟩ := Ok_b O
  have h1 := hou_lt O (las_lt (l := l) hs)
  have h2 := Ok_w O (i := 0) (by decide)
  have h3 := Ok_w O (i := 1) (by decide)
  unfold wv
  have : σ 11 0 * hou σ (las σ l s) ≤ 9 * 2 := Nat.mul_le_mul h2 (by omega)
  split <;> omega
section Mb
variable (σ : Nat → Nat → Nat) (s r : Nat → Nat)
/-- how often two lessons break the rules (c) to (e) -/
def pf (l o : Nat) : Nat := if cov σ l (s l) &&& cov σ o (s o) = 0 then 0 else b1 (sc σ l o) + b1 (stc σ l o) + b1 (decide (r l = r o))
def flt : Nat := sm (σ 1 6) fun l => b1 (!sty σ l (s l)) + b1 (!sts σ l (r l)) + sm l fun o => pf σ s r l o
def ctc (t : Nat) : Nat := orn (σ 1 6) fun l => if σ 6 l = t then cov σ l (s l) else 0
def crm (y : Nat) : Nat := orn (σ 1 6) fun l => if r l = y then cov σ l (s l) else 0
def lgd (t : Nat) : Nat := mxn (σ 1 0) fun d => pc 10 (ctc σ s t &&& dm σ d)
def lin (y : Nat) : Nat := en (σ 1 6) fun l => (cov σ l (s l)).testBit y
def kpq (q : Nat) : Bool :=
  if σ 8 q = 0 then !(cov σ (σ 9 q) (s (σ 9 q))).testBit (σ 10 q)
  else if σ 8 q = 1 then decide (lgd σ s (σ 9 q) ≤ σ 10 q)
  else if σ 8 q = 6 then decide (r (σ 9 q) = σ 10 q)
  else if σ 8 q = 7 then !(ctc σ s (σ 9 q)).testBit (σ 10 q)
  else kp2 σ q (s (σ 9 q)) (s (σ 10 q))
def brk : Nat := en (σ 1 7) fun q => !kpq σ s r q
def gap (c : Nat) : Nat := sm (σ 1 0) fun d => b1 (decide ((c &&& dm σ d) >>> (d * (σ 1 1)) = 5))
def wt : Nat := sm (σ 1 6) (fun l => wv σ l (s l) (r l)) + sm (σ 1 4) fun t => σ 11 2 * gap σ (ctc σ s t)
def shr (t : Nat) : Nat := sm (σ 1 6) fun l => b1 (decide (σ 6 l = t) && decide (cov σ l (s l) &&& lh σ ≠ 0))
end Mb
theorem ctc_lt {σ : Nat → Nat → Nat} (O : Ok σ) {s : Nat → Nat} (hs : ∀ l, l < (σ 1 6) → s l < (σ 1 2)) (t : Nat) : ctc σ s t < 64 := by
  refine orn_lt (e := 6) fun i hi => ?_
  split
  · exact cov_lt O (hs i hi)
  · decide
theorem gap_le {σ : Nat → Nat → Nat} (O : Ok σ) (c : Nat) : gap σ c ≤ 2 := by
  obtain ⟨hD1, hD2, hH1, hH2, hS, hC, hT, hR, hL, hQ⟩ := Ok_b O
  have := sm_le (n := (σ 1 0)) (c := 1) (f := fun d => b1 (decide ((c &&& dm σ d) >>> (d * (σ 1 1)) = 5))) fun i _ => Nat.le_of_lt_succ (b1_lt _)
  unfold gap
  omega
theorem lgd_le {σ : Nat → Nat → Nat} (s : Nat → Nat) (t : Nat) : lgd σ s t ≤ 10 := mxn_le.mpr fun _ _ => pc_le _ _
