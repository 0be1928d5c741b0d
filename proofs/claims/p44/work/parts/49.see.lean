/-! THE CLASS Search: explore -/
abbrev FS : List Nat := [28, 29, 30, 31, 32, 33, 34, 35, 36]
/-- what came of a search among the timetables A -/
def XO (σ M : Nat → Nat → Nat) (A : (Nat → Nat) → Prop) (M' : Nat → Nat → Nat) (b : Bool) : Prop :=
  (b = false ∧ M' 28 = M 28 ∧ M' 29 = M 29 ∧ M' 30 = M 30 ∧ M' 31 = M 31 ∧ ∀ s r, QA σ M s r → A s → M 28 8 < QC σ M s r) ∨
  (∃ c, c ≤ M 28 8 ∧ M' 28 10 = c ∧ QA σ M (M' 30) (M' 31) ∧ QC σ M (M' 30) (M' 31) = c ∧ M' 29 0 = 1 ∧ M' 29 1 = (σ 1 6) ∧ (M 28 11 = 0 → b = true) ∧ (M 28 11 = 1 → (b = true ∧ c ≤ M 28 9) ∨ (b = false ∧ M 28 9 < c ∧ M' 28 8 = c - 1 ∧ ∀ s r, QA σ M s r → A s → c ≤ QC σ M s r)))
/-- what a search leaves as it was -/
def XP (σ M M' : Nat → Nat → Nat) (depth p : Nat) : Prop := Fr FS M M' ∧ (∀ t, t < (σ 1 4) → M' 36 t = M 36 t) ∧ (∀ k, k < depth → M' 33 k = M 33 k) ∧ (∀ l, l < (σ 1 6) → p.testBit l = true → M' 34 l = M 34 l) ∧ (∀ j, j < (depth + 1) * 6 → M' 32 j = M 32 j) ∧ (∀ j, M' 32 j < 64) ∧ M' 28 9 = M 28 9 ∧ M' 28 11 = M 28 11
section Sg
variable {xs : List Int32} {σ M N N2 M' : Nat → Nat → Nat} {R : ab_H} {depth p v j low e : Nat}
set_option maxRecDepth 100000 in
theorem QW_fr (h : Fr FS M N) : QW σ N = QW σ M := by
  unfold QW SC
  rw [h 19 rfl, h 20 rfl, h 21 rfl, h 22 rfl, h 23 rfl, h 25 rfl, h 26 rfl, h 27 rfl]
set_option maxRecDepth 100000 in
theorem QA_fr (h : Fr FS M N) : QA σ N = QA σ M := by
  funext s r
  unfold QA DLm
  rw [h 20 rfl, h 21 rfl, h 22 rfl, h 23 rfl]
set_option maxRecDepth 100000 in
theorem QC_fr (h : Fr FS M N) : QC σ N = QC σ M := by
  funext s r
  unfold QC gco
  rw [h 26 rfl, h 19 rfl]
set_option maxRecDepth 100000 in
theorem XO_j {A1 A2 : (Nat → Nat) → Prop} {bc : Bool} (hf : Fr FS M N2) (h28 : N2 28 = N 28) (h29 : N2 29 = N 29) (h30 : N2 30 = N 30) (h31 : N2 31 = N 31) (h9 : N 28 9 = M 28 9) (h11 : N 28 11 = M 28 11) (hwl : M 28 11 ≤ 1) (h1 : XO σ M A1 N false) (h2 : XO σ N2 A2 M' bc) : XO σ M (fun s => A1 s ∨ A2 s) M' bc := by
  unfold XO at h2
  rw [QA_fr hf, QC_fr hf, h28, h29, h30, h31, h9, h11] at h2
  rcases h1 with ⟨-, a1, a2, a3, a4, a5⟩ | ⟨c1, a1, a2, a3, a4, a5, a6, a7, a8⟩
  · rw [a1] at h2
    rcases h2 with ⟨b0, b1', b2, b3, b4, b5⟩ | ⟨c2, b1', b2, b3, b4, b5, b6, b7, b8⟩
    · refine .inl ⟨b0, b1', b2.trans a2, b3.trans a3, b4.trans a4, fun s r hq hA => ?_⟩
      rcases hA with hA | hA
      · exact a5 s r hq hA
      · exact b5 s r hq hA
    · refine .inr ⟨c2, b1', b2, b3, b4, b5, b6, b7, fun hw => ?_⟩
      rcases b8 hw with h | ⟨w1, w2, w3, w4⟩
      · exact .inl h
      · refine .inr ⟨w1, w2, w3, fun s r hq hA => ?_⟩
        rcases hA with hA | hA
        · have := a5 s r hq hA
          omega
        · exact w4 s r hq hA
  · have hw1 : M 28 11 = 1 := by
      have : M 28 11 ≠ 0 := fun z => by cases a7 z
      omega
    rcases a8 hw1 with ⟨z, -⟩ | ⟨-, w2, w3, w4⟩
    · cases z
    · rcases h2 with ⟨b0, b1', b2, b3, b4, b5⟩ | ⟨c2, b1', b2, b3, b4, b5, b6, b7, b8⟩
      · refine .inr ⟨c1, a1, by rw [b1']; exact a2, by rw [b3, b4]; exact a3, by rw [b3, b4]; exact a4, by rw [b2]; exact a5, by rw [b2]; exact a6, fun z => by omega, fun _ => .inr ⟨b0, w2, by rw [b1']; exact w3, fun s r hq hA => ?_⟩⟩
        rcases hA with hA | hA
        · exact w4 s r hq hA
        · have := b5 s r hq hA
          omega
      · refine .inr ⟨c2, by omega, b2, b3, b4, b5, b6, b7, fun hw => ?_⟩
        rcases b8 hw with h | ⟨x1, x2, x3, x4⟩
        · exact .inl h
        · refine .inr ⟨x1, x2, x3, fun s r hq hA => ?_⟩
          rcases hA with hA | hA
          · have := w4 s r hq hA
            omega
          · exact x4 s r hq hA
set_option maxRecDepth 100000 in
theorem XO_c {A1 A2 : (Nat → Nat) → Prop} {b : Bool} (h : XO σ M A1 M' b) (hA : ∀ s r, QA σ M s r → A2 s → A1 s) : XO σ M A2 M' b := by
  rcases h with ⟨a0, a1, a2, a3, a4, a5⟩ | ⟨c, a1, a2, a3, a4, a5, a6, a7, a8⟩
  · exact .inl ⟨a0, a1, a2, a3, a4, fun s r hq h => a5 s r hq (hA s r hq h)⟩
  · refine .inr ⟨c, a1, a2, a3, a4, a5, a6, a7, fun hw => ?_⟩
    rcases a8 hw with h | ⟨x1, x2, x3, x4⟩
    · exact .inl h
    · exact .inr ⟨x1, x2, x3, fun s r hq h => x4 s r hq (hA s r hq h)⟩
set_option maxRecDepth 100000 in
theorem XO_u {A : (Nat → Nat) → Prop} {b : Bool} {f : Nat → Nat} (h : XO σ M A M' b) : XO σ M A (ur M' 36 f) b := h
set_option maxRecDepth 100000 in
theorem p_bit {v l : Nat} : (p ||| 1 <<< v).testBit l = true ↔ p.testBit l = true ∨ l = v := by
  rw [Nat.testBit_or, Bool.or_eq_true, tb_1s, decide_eq_true_eq]
set_option maxRecDepth 100000 in
theorem p_bit0 {v l : Nat} : (p ||| 1 <<< v).testBit l = false ↔ p.testBit l = false ∧ l ≠ v := by
  rw [← Bool.not_eq_true, p_bit, ← Bool.not_eq_true]
  constructor
  · intro h
    exact ⟨fun z => h (.inl z), fun z => h (.inr z)⟩
  · rintro ⟨h1, h2⟩ (h | h)
    · exact h1 h
    · exact h2 h
set_option maxRecDepth 100000 in
theorem OS_s (O : Ok σ) (hO : OS σ M depth p) (hv : v < (σ 1 6)) (hpv : p.testBit v = false) (h33 : ∀ k, k < depth → N 33 k = M 33 k) (h33v : N 33 depth = v) : OS σ N (depth + 1) (p ||| 1 <<< v) := by
  obtain ⟨hD1, hD2, hH1, hH2, hS, hC, hT, hR, hL, hQ⟩ := Ok_b O
  have hlt := OS_lt hO hv hpv
  obtain ⟨o1, o2, o3, o4, o5, o6⟩ := hO
  refine ⟨hlt, or_lt (n := 6) o2 (s1_lt (by omega)), fun k hk => ?_, fun i j hij hj => ?_, fun l hl h => ?_, ?_⟩
  · by_cases e : k = depth
    · subst e
      rw [h33v]
      exact ⟨hv, p_bit.mpr (.inr rfl)⟩
    · rw [h33 k (by omega)]
      exact ⟨(o3 k (by omega)).1, p_bit.mpr (.inl (o3 k (by omega)).2)⟩
  · by_cases e : j = depth
    · subst e
      rw [h33v, h33 i hij]
      intro z
      have := (o3 i hij).2
      rw [z, hpv] at this
      cases this
    · rw [h33 i (by omega), h33 j (by omega)]
      exact o4 i j hij (by omega)
  · rcases p_bit.mp h with h | h
    · obtain ⟨k, hk, e⟩ := o5 l hl h
      exact ⟨k, by omega, by rw [h33 k hk]; exact e⟩
    · exact ⟨depth, by omega, by rw [h33v, h]⟩
  · have h1 := sm_u (n := (σ 1 6)) (l := v) (f := fun l => b1 ((p ||| 1 <<< v).testBit l)) (g := fun l => b1 (p.testBit l)) hv fun i _ hi => by
      have : (p ||| 1 <<< v).testBit i = p.testBit i := by
        rw [Bool.eq_iff_iff, p_bit]
        constructor
        · rintro (h | h)
          · exact h
          · exact absurd h hi
        · exact .inl
      rw [this]
    have h2 : (p ||| 1 <<< v).testBit v = true := p_bit.mpr (.inr rfl)
    simp only [hpv, h2, b1_t, b1_f, o6] at h1
    omega
set_option maxRecDepth 100000 in
theorem usd_s (hv : v < (σ 1 6)) (hpv : p.testBit v = false) (h34 : ∀ l, l < (σ 1 6) → p.testBit l = true → N2 34 l = M 34 l) (h34v : N2 34 v = j) (t : Nat) : usd σ N2 (p ||| 1 <<< v) t = usd σ M p t ||| (if σ 6 v = t then cov σ v j else 0) := by
  apply Nat.eq_of_testBit_eq
  intro i
  rw [Bool.eq_iff_iff, Nat.testBit_or, Bool.or_eq_true]
  unfold usd
  rw [orn_tb, orn_tb]
  constructor
  · rintro ⟨l, hl, h⟩
    split at h
    · rename_i hh
      rcases p_bit.mp hh.1 with hp | hp
      · rw [h34 l hl hp] at h
        exact .inl ⟨l, hl, by rw [if_pos ⟨hp, hh.2⟩]; exact h⟩
      · subst hp
        rw [h34v] at h
        right
        rw [if_pos hh.2]
        exact h
    · simp at h
  · rintro (⟨l, hl, h⟩ | h)
    · split at h
      · rename_i hh
        exact ⟨l, hl, by rw [if_pos ⟨p_bit.mpr (.inl hh.1), hh.2⟩, h34 l hl hh.1]; exact h⟩
      · simp at h
    · split at h
      · rename_i hh
        exact ⟨v, hv, by rw [if_pos ⟨p_bit.mpr (.inr rfl), hh⟩, h34v]; exact h⟩
      · simp at h
set_option maxRecDepth 100000 in
theorem PS_s (O : Ok σ) (hW : QW σ M) (hP : PS σ M depth p) (hv : v < (σ 1 6)) (hpv : p.testBit v = false) (hj : (M 32 (depth * 6 + v)).testBit j = true) (hf : Fr FS M N2) (h34 : ∀ l, l < (σ 1 6) → p.testBit l = true → N2 34 l = M 34 l) (h34v : N2 34 v = j) (h36 : ∀ t, t < (σ 1 4) → t ≠ σ 6 v → N2 36 t = M 36 t) (h36v : N2 36 (σ 6 v) = M 36 (σ 6 v) ||| cov σ v j) (h32 : ∀ o, o < (σ 1 6) → (p ||| 1 <<< v).testBit o = false → ∀ i, (N2 32 ((depth + 1) * 6 + o)).testBit i = true ↔ (M 32 (depth * 6 + o)).testBit i = true ∧ fb (M 23) v j o i = true ∧ (stc σ v o = true → wth σ N2 o i)) : PS σ N2 (depth + 1) (p ||| 1 <<< v) := by
  obtain ⟨hD1, hD2, hH1, hH2, hS, hC, hT, hR, hL, hQ⟩ := Ok_b O
  obtain ⟨j1, j2, j3⟩ := (hP.2.2.2.2 v hv hpv j).mp hj
  have hjS := (hW.1 v hv j j1).1
  have tv := (Ok_l O hv).2.1
  have e20 : N2 20 = M 20 := hf 20 rfl
  have e22 : N2 22 = M 22 := hf 22 rfl
  have e23 : N2 23 = M 23 := hf 23 rfl
  have d4 : ∀ t, t < (σ 1 4) → DLm σ M t (N2 36 t) := by
    intro t ht
    by_cases e : t = σ 6 v
    · subst e
      rw [h36v]
      exact j3
    · rw [h36 t ht e]
      exact hP.2.2.2.1 t ht
  have dl : ∀ t c, DLm σ N2 t c ↔ DLm σ M t c := by
    intro t c
    unfold DLm
    rw [e22]
  refine ⟨fun l hl h => ?_, fun l o hl ho hlo hpl hpo => ?_, fun t ht => ?_, fun t ht => (dl _ _).mpr (d4 t ht), fun l hl hpl i => ?_⟩
  · rw [e20]
    rcases p_bit.mp h with h | h
    · rw [h34 l hl h]
      exact hP.1 l hl h
    · subst h
      rw [h34v]
      exact j1
  · rw [e23]
    rcases p_bit.mp hpl with hl1 | hl1
    · rcases p_bit.mp hpo with ho1 | ho1
      · rw [h34 l hl hl1, h34 o ho ho1]
        exact hP.2.1 l o hl ho hlo hl1 ho1
      · rw [ho1, h34 l hl hl1, h34v]
        exact j2 l hl hl1
    · rcases p_bit.mp hpo with ho1 | ho1
      · rw [hl1, h34 o ho ho1, h34v]
        have h1 := j2 o ho ho1
        rw [hl1] at hlo
        exact (hW.2.2.1 o _ v j ho hv (fun z => hlo z.symm) (hW.1 o ho _ (hP.1 o ho ho1)).1 h1).2.1
      · exact absurd (hl1.trans ho1.symm) hlo
  · rw [usd_s hv hpv h34 h34v t, ← hP.2.2.1 t ht]
    by_cases e : σ 6 v = t
    · subst e
      rw [if_pos rfl, h36v]
    · rw [if_neg e, Nat.or_zero, h36 t ht fun z => e z.symm]
  · obtain ⟨hp1, hlv⟩ := p_bit0.mp hpl
    have tl := (Ok_l O hl).2.1
    rw [h32 l hl hpl i, hP.2.2.2.2 l hl hp1 i, e20, e23]
    have hstc : stc σ v l = true ↔ σ 6 v = σ 6 l := by unfold stc; exact decide_eq_true_iff
    constructor
    · rintro ⟨⟨z1, z2, z3⟩, z4, z5⟩
      refine ⟨z1, fun o ho hpo => ?_, (dl _ _).mpr ?_⟩
      · rcases p_bit.mp hpo with hpo | hpo
        · rw [h34 o ho hpo]
          exact z2 o ho hpo
        · subst hpo
          rw [h34v]
          exact z4
      · by_cases e : σ 6 v = σ 6 l
        · have hw := z5 (hstc.mpr e)
          have hi := hW.1 l hl i z1
          intro y hy
          by_cases hyd : y = dy σ i
          · subst hyd
            unfold wth at hw
            by_cases hH : M 22 (σ 6 l) < (σ 1 1)
            · rw [e22] at hw
              have : ¬ M 22 (σ 6 l) < pc 10 ((N2 36 (σ 6 l) ||| cov σ l i) &&& dm σ (dy σ i)) := fun z => hw ⟨hH, hi.1, z⟩
              omega
            · exact Nat.le_trans (pc_dm O _ hy) (by omega)
          · have h1 : pc 10 ((N2 36 (σ 6 l) ||| cov σ l i) &&& dm σ y) = pc 10 (N2 36 (σ 6 l) &&& dm σ y) := by
              rw [Nat.and_or_distrib_right, cov_dy O hl hi.1 hi.2 hy hyd, Nat.or_zero]
            rw [h1]
            exact d4 _ tl y hy
        · rw [h36 _ tl fun z => e z.symm]
          exact z3
    · rintro ⟨z1, z2, z3⟩
      have z3 := (dl _ _).mp z3
      refine ⟨⟨z1, fun o ho hpo => ?_, ?_⟩, ?_, fun hs => ?_⟩
      · have := z2 o ho (p_bit.mpr (.inl hpo))
        rwa [h34 o ho hpo] at this
      · by_cases e : σ 6 v = σ 6 l
        · intro y hy
          refine Nat.le_trans (pc_sub fun b hb => ?_) (z3 y hy)
          rw [Nat.testBit_and, Nat.testBit_or, Bool.and_eq_true, Bool.or_eq_true] at hb ⊢
          refine ⟨?_, hb.2⟩
          rcases hb.1 with hb | hb
          · left
            rw [← e, h36v, Nat.testBit_or, e, hb, Bool.true_or]
          · exact .inr hb
        · rw [h36 _ tl fun z => e z.symm] at z3
          exact z3
      · have := z2 v hv (p_bit.mpr (.inr rfl))
        rwa [h34v] at this
      · rintro ⟨w1, w2, w3⟩
        rw [e22] at w3
        have hi := hW.1 l hl i z1
        have hdy : dy σ i < (σ 1 0) := by
          unfold dy
          split <;> omega
        have := z3 _ hdy
        omega
end Sg
