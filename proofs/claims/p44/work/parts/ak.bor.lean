/-! BORROWED: rows of mine on numbers and tables, as they stand in whole -/
section Bor0
variable {xs : List Int32} {d n m2 : Nat} {hs : List (Nat × Nat)}  {rr : List ab_I} {Lc st : List Value} {h h0 T A : ab_H} {σ W N K : Nat → Nat → Nat} {μ : Nat → Nat} {ν : Nat → Value} {β : Value} {a b u k v x y q set l i p nn : Nat} {t s r tab f : Nat → Nat}
set_option maxRecDepth 100000 in
theorem sm_ml (n c : Nat) (f : Nat → Nat) : (sm n fun i => c * f i) = c * sm n f := by
  induction n with
  | zero => rfl
  | succ n ih => rw [sm, sm, ih, Nat.mul_add]
end Bor0
section Bor1
variable {xs : List Int32} {d m n : Nat} {h0 T A : ab_H} {σ W N K : Nat → Nat → Nat} {μ : Nat → Nat} {ν : Nat → Value} {β : Value} {a b u k v x y q set l i p p2 nn : Nat} {t s r tab f g F : Nat → Nat} {G : Nat → Nat}
set_option maxRecDepth 100000 in
theorem p5_le {x y : Nat} (h : x ≤ y) : 5 ^ x ≤ 5 ^ y := Nat.pow_le_pow_right (by decide) h
end Bor1
section Bor2
def mtf (σ : Nat → Nat → Nat) : Nat → Nat → Nat → Nat
  | 0, _, _ => 0
  | n + 1, k, A => max (mtf σ n (k + 1) A) (mxn (σ 1 6) fun l => if (A.testBit l && sts σ l k) = true then 1 + mtf σ n (k + 1) (clr A (1 <<< l)) else 0)
end Bor2
section Bor3
def rnn (σ : Nat → Nat → Nat) (n k P : Nat) : Nat := sm n fun i => b1 (rfs σ P (k + i))
end Bor3
section Bor4
variable {xs : List Int32} {d n m : Nat} {h : ab_H} {σ : Nat → Nat → Nat} {μ : Nat → Nat} {ν : Nat → Value} {a b u k v w x y q l i t o s r p A P c nn : Nat} {f g tab : Nat → Nat}
set_option maxRecDepth 100000 in
theorem sm_hd (n : Nat) (f : Nat → Nat) : sm (n + 1) f = f 0 + sm n fun i => f (i + 1) := by
  induction n with
  | zero => rw [sm, sm, sm]; omega
  | succ n ih => rw [sm, ih, sm]; omega
end Bor4
section Bor5
variable {xs : List Int32} {d n m : Nat} {h : ab_H} {σ : Nat → Nat → Nat} {μ : Nat → Nat} {ν : Nat → Value} {a b u k v w x y q l i t o s r p A P c nn : Nat} {f g tab : Nat → Nat}
set_option maxRecDepth 100000 in
theorem rnn_s : rnn σ (n + 1) k P = b1 (rfs σ P k) + rnn σ n (k + 1) P := by
  unfold rnn
  rw [sm_hd]
  congr 1
  exact sm_cg fun i _ => by rw [show k + (i + 1) = k + 1 + i by omega]
end Bor5
section Bor6
variable {xs : List Int32} {d n m : Nat} {h : ab_H} {σ : Nat → Nat → Nat} {μ : Nat → Nat} {ν : Nat → Value} {a b u k v w x y q l i t o s r p A P c nn : Nat} {f g tab : Nat → Nat}
set_option maxRecDepth 100000 in
theorem rfs_t : rfs σ P r = true ↔ ∃ l, l < (σ 1 6) ∧ P.testBit l = true ∧ sts σ l r = true := by
  unfold rfs
  rw [an_t]
  constructor
  · rintro ⟨l, h1, h2⟩
    rw [Bool.and_eq_true] at h2
    exact ⟨l, h1, h2.1, h2.2⟩
  · rintro ⟨l, h1, h2, h3⟩
    exact ⟨l, h1, by rw [h2, h3]; rfl⟩
end Bor6
section Bor7
variable {xs : List Int32} {d n m : Nat} {h : ab_H} {σ : Nat → Nat → Nat} {μ : Nat → Nat} {ν : Nat → Value} {a b u k v w x y q l i t o s r p A P c nn : Nat} {f g tab : Nat → Nat}
set_option maxRecDepth 100000 in
theorem rfs_m (h : ∀ i, P.testBit i = true → q.testBit i = true) : b1 (rfs σ P r) ≤ b1 (rfs σ q r) := by
  cases h1 : rfs σ P r
  · exact Nat.zero_le _
  · obtain ⟨l, h2, h3, h4⟩ := rfs_t.mp h1
    rw [rfs_t.mpr ⟨l, h2, h l h3, h4⟩]
    exact Nat.le_refl _
end Bor7
section Bor8
variable {xs : List Int32} {d n m : Nat} {h : ab_H} {σ : Nat → Nat → Nat} {μ : Nat → Nat} {ν : Nat → Value} {a b u k v w x y q l i t o s r p A P c nn : Nat} {f g tab : Nat → Nat}
set_option maxRecDepth 100000 in
theorem rnn_m (h : ∀ i, P.testBit i = true → q.testBit i = true) : rnn σ n k P ≤ rnn σ n k q := sm_mono fun _ _ => rfs_m h
end Bor8
section Bor9
variable {xs : List Int32} {d n m : Nat} {h : ab_H} {σ : Nat → Nat → Nat} {μ : Nat → Nat} {ν : Nat → Value} {a b u k v w x y q l i t o s r p A P c nn : Nat} {f g tab : Nat → Nat}
set_option maxRecDepth 100000 in
theorem pc_c1 (hl : l < 10) (h : A.testBit l = true) : pc 10 (clr A (1 <<< l)) + 1 = pc 10 A := by
  have h1 := sm_u (n := 10) (l := l) (f := fun i => b1 ((clr A (1 <<< l)).testBit i)) (g := fun i => b1 (A.testBit i)) hl fun i _ hi => by
    show b1 ((clr A (1 <<< l)).testBit i) = b1 (A.testBit i)
    rw [clr_b, decide_eq_false hi]
    simp
  have h2 : b1 ((clr A (1 <<< l)).testBit l) = 0 := by
    rw [clr_b, decide_eq_true rfl]
    simp [b1_f]
  have h3 : b1 (A.testBit l) = 1 := by rw [h]; rfl
  rw [pc_sm, pc_sm]
  have h4 : (fun i => b1 ((clr A (1 <<< l)).testBit i)) l = b1 ((clr A (1 <<< l)).testBit l) := rfl
  have h5 : (fun i => b1 (A.testBit i)) l = b1 (A.testBit l) := rfl
  omega
end Bor9
section Bor10
variable {xs : List Int32} {d n m : Nat} {h : ab_H} {σ : Nat → Nat → Nat} {μ : Nat → Nat} {ν : Nat → Value} {a b u k v w x y q l i t o s r p A P c nn : Nat} {f g tab : Nat → Nat}
set_option maxRecDepth 100000 in
theorem mxn_ge {n i : Nat} {f : Nat → Nat} (hi : i < n) : f i ≤ mxn n f := mxn_le.mp (Nat.le_refl _) i hi
end Bor10
section Bor11
variable {xs : List Int32} {d n m : Nat} {h : ab_H} {σ : Nat → Nat → Nat} {μ : Nat → Nat} {ν : Nat → Value} {a b u k v w x y q l i t o s r p A P c nn : Nat} {f g tab : Nat → Nat}
set_option maxRecDepth 100000 in
theorem mtf_up (hL : (σ 1 6) ≤ 6) : ∀ n k A P, (∀ i, P.testBit i = true → A.testBit i = true) → mtf σ n k A + pc 10 P ≤ pc 10 A + rnn σ n k P := by
  intro n
  induction n with
  | zero =>
    intro k A P h
    have := pc_sub (n := 10) h
    show 0 + _ ≤ _ + 0
    omega
  | succ n ih =>
    intro k A P h
    rw [rnn_s]
    have h1 := ih (k + 1) A P h
    have h2 : (mxn (σ 1 6) fun l => if (A.testBit l && sts σ l k) = true then 1 + mtf σ n (k + 1) (clr A (1 <<< l)) else 0) ≤ pc 10 A + (b1 (rfs σ P k) + rnn σ n (k + 1) P) - pc 10 P := by
      have hp := pc_sub (n := 10) h
      refine mxn_le.mpr fun l hl => ?_
      split
      · rename_i hh
        rw [Bool.and_eq_true] at hh
        have h3 := ih (k + 1) (clr A (1 <<< l)) (clr P (1 <<< l)) fun i hi => by
          rw [clr_b, Bool.and_eq_true] at hi ⊢
          exact ⟨h i hi.1, hi.2⟩
        have h4 := pc_c1 (show l < 10 by omega) hh.1
        have h5 := rnn_m (σ := σ) (n := n) (k := k + 1) (P := clr P (1 <<< l)) (q := P) fun i hi => by
          rw [clr_b, Bool.and_eq_true] at hi
          exact hi.1
        by_cases hP : P.testBit l = true
        · have h6 := pc_c1 (show l < 10 by omega) hP
          have h7 : b1 (rfs σ P k) = 1 := by rw [rfs_t.mpr ⟨l, hl, hP, hh.2⟩]; rfl
          omega
        · have h6 : clr P (1 <<< l) = P := Nat.eq_of_testBit_eq fun i => by
            rw [clr_b]
            by_cases e : i = l
            · rw [e]
              have : P.testBit l = false := by simpa using hP
              rw [this]
              rfl
            · rw [decide_eq_false e]
              simp
          rw [h6] at h3
          omega
      · exact Nat.zero_le _
    have h3 := pc_sub (n := 10) h
    rw [mtf]
    omega
end Bor11
section Bor12
variable {xs : List Int32} {d n m : Nat} {h : ab_H} {σ : Nat → Nat → Nat} {μ : Nat → Nat} {ν : Nat → Value} {a b u k v w x y q l i t o s r p A P c nn : Nat} {f g tab : Nat → Nat}
def thr (σ : Nat → Nat → Nat) (A c : Nat) : Nat := en (σ 1 6) fun l => A.testBit l && decide (c ≤ σ 2 (σ 5 l))
end Bor12
section Bor13
variable {xs : List Int32} {d n m : Nat} {h : ab_H} {σ : Nat → Nat → Nat} {μ : Nat → Nat} {ν : Nat → Value} {a b u k v w x y q l i t o s r p A P c nn : Nat} {f g tab : Nat → Nat}
set_option maxRecDepth 100000 in
theorem thr_tb : (thr σ A c).testBit l = true ↔ l < (σ 1 6) ∧ A.testBit l = true ∧ c ≤ σ 2 (σ 5 l) := by
  unfold thr
  rw [en_tb, Bool.and_eq_true, decide_eq_true_eq, Bool.and_eq_true, decide_eq_true_eq]
end Bor13
section Bor14
variable {xs : List Int32} {d n m : Nat} {h : ab_H} {σ : Nat → Nat → Nat} {μ : Nat → Nat} {ν : Nat → Value} {a b u k v w x y q l i t o s r p A P c nn : Nat} {f g tab : Nat → Nat}
set_option maxRecDepth 100000 in
theorem sts_t : sts σ l r = true ↔ σ 2 (σ 5 l) ≤ σ 4 r := by
  unfold sts
  rw [decide_eq_true_eq]
end Bor14
section Bor15
variable {xs : List Int32} {d n m : Nat} {h : ab_H} {σ : Nat → Nat → Nat} {μ : Nat → Nat} {ν : Nat → Value} {a b u k v w x y q l i t o s r p A P c nn : Nat} {f g tab : Nat → Nat}
set_option maxRecDepth 100000 in
theorem mx_ex (f : Nat → Nat) (p : Nat → Prop) : ∀ n, (∃ l, l < n ∧ p l) → ∃ l, l < n ∧ p l ∧ ∀ j, j < n → p j → f j ≤ f l := by
  intro n
  induction n with
  | zero => rintro ⟨l, h, -⟩; omega
  | succ n ih =>
    intro h
    by_cases h1 : ∃ l, l < n ∧ p l
    · obtain ⟨l, h2, h3, h4⟩ := ih h1
      by_cases h5 : p n ∧ f l < f n
      · exact ⟨n, Nat.lt_succ_self n, h5.1, fun j hj hp => by
          by_cases e : j = n
          · rw [e]; exact Nat.le_refl _
          · have := h4 j (by omega) hp
            omega⟩
      · exact ⟨l, by omega, h3, fun j hj hp => by
          by_cases e : j = n
          · rw [e] at hp ⊢
            exact Nat.le_of_not_lt fun z => h5 ⟨hp, z⟩
          · exact h4 j (by omega) hp⟩
    · obtain ⟨l, h2, h3⟩ := h
      have e : l = n := Nat.le_antisymm (by omega) (Nat.le_of_not_lt fun z => h1 ⟨l, z, h3⟩)
      rw [e] at h3
      exact ⟨n, Nat.lt_succ_self n, h3, fun j hj hp => by
        by_cases e : j = n
        · rw [e]; exact Nat.le_refl _
        · exact absurd ⟨j, by omega, hp⟩ h1⟩
end Bor15
section Bor16
variable {xs : List Int32} {d n m : Nat} {h : ab_H} {σ : Nat → Nat → Nat} {μ : Nat → Nat} {ν : Nat → Value} {a b u k v w x y q l i t o s r p A P c nn : Nat} {f g tab : Nat → Nat}
set_option maxRecDepth 100000 in
theorem mtf_lo (hL : (σ 1 6) ≤ 6) : ∀ n k A, (∀ i, A.testBit i = true → i < (σ 1 6)) → ∃ c, pc 10 A + rnn σ n k (thr σ A c) ≤ mtf σ n k A + pc 10 (thr σ A c) := by
  intro n
  induction n with
  | zero =>
    intro k A hA
    refine ⟨0, ?_⟩
    have : thr σ A 0 = A := Nat.eq_of_testBit_eq fun i => by
      rw [Bool.eq_iff_iff, thr_tb]
      exact ⟨fun h => h.2.1, fun h => ⟨hA i h, h, Nat.zero_le _⟩⟩
    rw [this]
    show _ + 0 ≤ 0 + _
    omega
  | succ n ih =>
    intro k A hA
    by_cases hF : ∃ l, l < (σ 1 6) ∧ (A.testBit l = true ∧ sts σ l k = true)
    · obtain ⟨l, hl, ⟨h1, h2⟩, h3⟩ := mx_ex (fun l => σ 2 (σ 5 l)) (fun l => A.testBit l = true ∧ sts σ l k = true) (σ 1 6) hF
      obtain ⟨c, hc⟩ := ih (k + 1) (clr A (1 <<< l)) fun i hi => by
        rw [clr_b, Bool.and_eq_true] at hi
        exact hA i hi.1
      have h4 := pc_c1 (show l < 10 by omega) h1
      have h5 : 1 + mtf σ n (k + 1) (clr A (1 <<< l)) ≤ mtf σ (n + 1) k A := by
        have h6 := mxn_ge (f := fun l => if (A.testBit l && sts σ l k) = true then 1 + mtf σ n (k + 1) (clr A (1 <<< l)) else 0) hl
        rw [h1, h2] at h6
        rw [mtf]
        exact Nat.le_trans h6 (Nat.le_max_right _ _)
      by_cases hi : ∃ j, (thr σ (clr A (1 <<< l)) c).testBit j = true ∧ σ 2 (σ 5 j) ≤ σ 2 (σ 5 l)
      · obtain ⟨j, hj, hj2⟩ := hi
        obtain ⟨q1, q2, q3⟩ := thr_tb.mp hj
        refine ⟨c, ?_⟩
        have hlt : (thr σ A c).testBit l = true := thr_tb.mpr ⟨hl, h1, by omega⟩
        have he : clr (thr σ A c) (1 <<< l) = thr σ (clr A (1 <<< l)) c := Nat.eq_of_testBit_eq fun i => by
          rw [Bool.eq_iff_iff, clr_b, Bool.and_eq_true, thr_tb, thr_tb, clr_b, Bool.and_eq_true]
          constructor
          · rintro ⟨⟨z1, z2, z3⟩, z4⟩
            exact ⟨z1, ⟨z2, z4⟩, z3⟩
          · rintro ⟨z1, ⟨z2, z4⟩, z3⟩
            exact ⟨⟨z1, z2, z3⟩, z4⟩
        have h6 := pc_c1 (show l < 10 by omega) hlt
        rw [he] at h6
        have h7 : rnn σ n (k + 1) (thr σ A c) ≤ rnn σ n (k + 1) (thr σ (clr A (1 <<< l)) c) := sm_mono fun i _ => by
          cases hr : rfs σ (thr σ A c) (k + 1 + i)
          · exact Nat.zero_le _
          · obtain ⟨x, x1, x2, x3⟩ := rfs_t.mp hr
            have : rfs σ (thr σ (clr A (1 <<< l)) c) (k + 1 + i) = true := by
              by_cases e : x = l
              · rw [e] at x3
                exact rfs_t.mpr ⟨j, q1, hj, sts_t.mpr (by have := sts_t.mp x3; omega)⟩
              · refine rfs_t.mpr ⟨x, x1, ?_, x3⟩
                rw [← he, clr_b, x2, decide_eq_false e]
                rfl
            rw [this]
            exact Nat.le_refl _
        rw [rnn_s]
        have h8 := b1_lt (rfs σ (thr σ A c) k)
        omega
      · refine ⟨max c (σ 2 (σ 5 l) + 1), ?_⟩
        have he : thr σ A (max c (σ 2 (σ 5 l) + 1)) = thr σ (clr A (1 <<< l)) c := Nat.eq_of_testBit_eq fun i => by
          rw [Bool.eq_iff_iff]
          constructor
          · intro z
            obtain ⟨z1, z2, z3⟩ := thr_tb.mp z
            refine thr_tb.mpr ⟨z1, ?_, by omega⟩
            rw [clr_b, z2, decide_eq_false (fun e : i = l => by rw [e] at z3; omega)]
            rfl
          · intro z
            obtain ⟨z1, z2, z3⟩ := thr_tb.mp z
            rw [clr_b, Bool.and_eq_true] at z2
            have : σ 2 (σ 5 l) < σ 2 (σ 5 i) := Nat.lt_of_not_le fun z4 => hi ⟨i, z, z4⟩
            exact thr_tb.mpr ⟨z1, z2.1, by omega⟩
        rw [he, rnn_s]
        have h6 : rfs σ (thr σ (clr A (1 <<< l)) c) k = false := by
          cases hr : rfs σ (thr σ (clr A (1 <<< l)) c) k
          · rfl
          · obtain ⟨x, x1, x2, x3⟩ := rfs_t.mp hr
            obtain ⟨z1, z2, z3⟩ := thr_tb.mp x2
            rw [clr_b, Bool.and_eq_true] at z2
            exact absurd ⟨x, x2, h3 x x1 ⟨z2.1, x3⟩⟩ hi
        rw [h6, b1_f]
        omega
    · obtain ⟨c, hc⟩ := ih (k + 1) A hA
      refine ⟨c, ?_⟩
      have h6 : rfs σ (thr σ A c) k = false := by
        cases hr : rfs σ (thr σ A c) k
        · rfl
        · obtain ⟨x, x1, x2, x3⟩ := rfs_t.mp hr
          exact absurd ⟨x, x1, (thr_tb.mp x2).2.1, x3⟩ hF
      rw [rnn_s, h6, b1_f, mtf]
      have := Nat.le_max_left (mtf σ n (k + 1) A) (mxn (σ 1 6) fun l => if (A.testBit l && sts σ l k) = true then 1 + mtf σ n (k + 1) (clr A (1 <<< l)) else 0)
      omega
end Bor16
section Bor17
variable {xs : List Int32} {d n m : Nat} {h : ab_H} {σ : Nat → Nat → Nat} {μ : Nat → Nat} {ν : Nat → Value} {a b u k v w x y q l i t o s r p A P c nn : Nat} {f g tab : Nat → Nat}
set_option maxRecDepth 100000 in
theorem mtf_d (hL : (σ 1 6) ≤ 6) (hu : ∀ i, u.testBit i = true → i < (σ 1 6)) : mtf σ (σ 1 5) 0 u + dfc σ u (u + 1) = pc 10 u := by
  have hr : ∀ P, rnn σ (σ 1 5) 0 P = rfo σ P := fun P => sm_cg fun i _ => by rw [Nat.zero_add]
  obtain ⟨c, hc⟩ := mtf_lo hL (σ 1 5) 0 u hu
  have h0 := mtf_up (σ := σ) hL (σ 1 5) 0 u 0 fun i hi => by rw [Nat.zero_testBit] at hi; cases hi
  have z0 : rnn σ (σ 1 5) 0 0 = 0 := by rw [hr]; exact rfo_0
  have hs : ∀ i, (thr σ u c).testBit i = true → u.testBit i = true := fun i hi => (thr_tb.mp hi).2.1
  have h1 : (if clr (thr σ u c) u = 0 then pc 10 (thr σ u c) - rfo σ (thr σ u c) else 0) ≤ dfc σ u (u + 1) := mxn_ge (f := fun v => if clr v u = 0 then pc 10 v - rfo σ v else 0) (by
    have : thr σ u c ≤ u := by
      have e : thr σ u c &&& u = thr σ u c := Nat.eq_of_testBit_eq fun i => by
        rw [Nat.testBit_and]
        cases hi : (thr σ u c).testBit i
        · rfl
        · rw [hs i hi]
          rfl
      rw [← e]
      exact Nat.and_le_right
    omega)
  have h2 : clr (thr σ u c) u = 0 := z_tb.mpr fun i => by
    rw [clr_tb]
    cases hi : (thr σ u c).testBit i
    · rfl
    · rw [hs i hi]
      rfl
  rw [if_pos h2] at h1
  have h3 : dfc σ u (u + 1) ≤ pc 10 u - mtf σ (σ 1 5) 0 u := mxn_le.mpr fun v _ => by
    show (if clr v u = 0 then pc 10 v - rfo σ v else 0) ≤ _
    split
    · rename_i h4
      have h5 := mtf_up (σ := σ) hL (σ 1 5) 0 u v fun i hi => by
        have := z_tb.mp h4 i
        rw [clr_tb, hi] at this
        simpa using this
      rw [hr] at h5
      omega
    · exact Nat.zero_le _
  rw [hr] at hc
  have hp0 : pc 10 0 = 0 := rfl
  omega
end Bor17
section Bor18
variable {xs : List Int32} {d m n k i j p i0 q0 : Nat} {τ M σ : Nat → Nat → Nat} {μ μ0 : Nat → Nat} {ν ν0 : Nat → Value} {A B Q T : ab_H} {s r g f : Nat → Nat} {st : RT} {x y : ab_O}
set_option maxRecDepth 100000 in
theorem brk_cg {s2 r2 : Nat → Nat} (O : Ok σ) (h : AG (σ 1 6) s r s2 r2) : brk σ s r = brk σ s2 r2 := en_cg fun q hq => by rw [kpq_cg O h hq]
end Bor18
section Bor19
variable {xs : List Int32} {d m n k i j p i0 q0 : Nat} {τ M σ : Nat → Nat → Nat} {μ μ0 : Nat → Nat} {ν ν0 : Nat → Value} {A B Q T : ab_H} {s r g f : Nat → Nat} {st : RT} {x y : ab_O}
set_option maxRecDepth 100000 in
theorem wt_cg {s2 r2 : Nat → Nat} (h : AG (σ 1 6) s r s2 r2) : wt σ s r = wt σ s2 r2 := by
  unfold wt
  rw [sm_cg (n := (σ 1 6)) (g := fun l => wv σ l (s2 l) (r2 l)) fun l hl => by rw [(h l hl).1, (h l hl).2], sm_cg (n := (σ 1 4)) (g := fun u => σ 11 2 * gap σ (ctc σ s2 u)) fun u _ => by rw [ctc_c2 h]]
end Bor19
section Bor20
variable {xs : List Int32} {d m n k i j p a b c u v l q z w : Nat} {τ M σ W : Nat → Nat → Nat} {μ μ0 : Nat → Nat} {ν ν0 : Nat → Value} {A B Q T T2 h : ab_H} {s r g f X Z Y tab : Nat → Nat} {st : List Value} {x y : Int32} {β : Value}
set_option maxRecDepth 100000 in
theorem pc_ex {u z : Nat} : ∀ n, u < pc n z → ∃ v, v < n ∧ z.testBit v = true ∧ pc v z = u := by
  intro n
  induction n with
  | zero => intro h; exact absurd h (Nat.not_lt_zero _)
  | succ n ih =>
    intro h
    by_cases h1 : u < pc n z
    · obtain ⟨v, h2, h3⟩ := ih h1
      exact ⟨v, by omega, h3⟩
    · rw [pc] at h
      cases hb : z.testBit n
      · rw [hb, b1_f] at h
        omega
      · rw [hb, b1_t] at h
        exact ⟨n, Nat.lt_succ_self n, hb, by omega⟩
end Bor20
section Bor21
variable {xs : List Int32} {d m n k i j p a b c u v l q z w : Nat} {τ M σ W : Nat → Nat → Nat} {μ μ0 : Nat → Nat} {ν ν0 : Nat → Value} {A B Q T T2 h : ab_H} {s r g f X Z Y tab : Nat → Nat} {st : List Value} {x y : Int32} {β : Value}
set_option maxRecDepth 100000 in
theorem pc_mo {z : Nat} : ∀ n m, n ≤ m → pc n z ≤ pc m z := by
  intro n m
  induction m with
  | zero => intro h; rw [show n = 0 by omega]; exact Nat.le_refl _
  | succ m ih =>
    intro h
    by_cases e : n = m + 1
    · rw [e]; exact Nat.le_refl _
    · rw [pc]
      have := ih (by omega)
      omega
end Bor21
section Bor22
variable {xs : List Int32} {d m n k i j p a b c u v l q z w : Nat} {τ M σ W : Nat → Nat → Nat} {μ μ0 : Nat → Nat} {ν ν0 : Nat → Value} {A B Q T T2 h : ab_H} {s r g f X Z Y tab : Nat → Nat} {st : List Value} {x y : Int32} {β : Value}
set_option maxRecDepth 100000 in
theorem pc_un {z : Nat} (h1 : z.testBit i = true) (h2 : z.testBit j = true) (h : pc i z = pc j z) : i = j := by
  have a1 : pc (i + 1) z = pc i z + 1 := by rw [pc, h1, b1_t]
  have a2 : pc (j + 1) z = pc j z + 1 := by rw [pc, h2, b1_t]
  by_cases e : i < j
  · have := pc_mo (z := z) (i + 1) j e
    omega
  · by_cases e2 : j < i
    · have := pc_mo (z := z) (j + 1) i e2
      omega
    · omega
end Bor22
section Bor23
variable {xs : List Int32} {d m n k i j p a b c u v l q z w y t nn : Nat} {τ M σ W K : Nat → Nat → Nat} {μ μ0 : Nat → Nat} {ν ν0 : Nat → Value} {A B Q T T2 h : ab_H} {s r g f X Z Y tab s0 r0 F s2 r2 : Nat → Nat} {L st : List Value} {β : Value} {hs : List (Nat × Nat)}  {rr : List ab_I} {x : ab_O}
set_option maxRecDepth 100000 in
theorem dif_p (hr : ∀ l, l < n → r l < 10 ∧ r2 l < 10) (k : Nat) (hk : k ≤ n) : (sm k fun l => b1 (decide (10 * s l + r l ≠ 10 * s2 l + r2 l))) = dif k s r s2 r2 := by
  refine sm_cg fun l hl => ?_
  have := hr l (by omega)
  by_cases e : s l = s2 l ∧ r l = r2 l
  · rw [decide_eq_false (fun z => z (by rw [e.1, e.2])), decide_eq_false (fun z : s l ≠ s2 l => z e.1), decide_eq_false (fun z : r l ≠ r2 l => z e.2)]
    rfl
  · rw [decide_eq_true (show 10 * s l + r l ≠ 10 * s2 l + r2 l by omega)]
    by_cases e1 : s l = s2 l
    · have e2 : r l ≠ r2 l := fun z => e ⟨e1, z⟩
      rw [decide_eq_true e2, Bool.or_true]
    · rw [decide_eq_true (show s l ≠ s2 l from e1), Bool.true_or]
end Bor23
section Bor24
variable {xs : List Int32} {d m n k i j p a b c u v l q z w y t nn kd : Nat} {τ M σ W K : Nat → Nat → Nat} {μ μ0 : Nat → Nat} {ν ν0 : Nat → Value} {A B Q T T2 h : ab_H} {s r g f X Z Y tab s0 r0 F s2 r2 : Nat → Nat} {L st : List Value} {β : Value}
set_option maxRecDepth 100000 in
theorem XS_u {m2 : Nat} (h : XS σ u f n) (h2 : XS σ u g m2) : n = m2 ∧ ∀ l, l < (σ 1 6) → u.testBit l = true → f l = g l := by
  have e : n = m2 := by
    rcases Nat.lt_trichotomy n m2 with z | z | z
    · exact absurd h.1 (h2.2.1 n z f)
    · exact z
    · exact absurd h2.1 (h.2.1 m2 z g)
  subst e
  refine ⟨rfl, ?_⟩
  have key : ∀ k, k ≤ (σ 1 6) → ∀ l, l < k → u.testBit l = true → f l = g l := by
    intro k
    induction k with
    | zero => intro _ l hl; exact absurd hl (Nat.not_lt_zero l)
    | succ k ih =>
      intro hk l hl hb
      by_cases e : l = k
      · subst e
        rcases Nat.lt_trichotomy (f l) (g l) with z | z | z
        · exact absurd ⟨l, Nat.zero_le _, by omega, hb, fun j hj hu => ih (by omega) j hj hu, z⟩ (h2.2.2 f h.1)
        · exact z
        · exact absurd ⟨l, Nat.zero_le _, by omega, hb, fun j hj hu => (ih (by omega) j hj hu).symm, z⟩ (h.2.2 g h2.1)
      · exact ih (by omega) l (by omega) hb
  exact key (σ 1 6) (Nat.le_refl _)
end Bor24
