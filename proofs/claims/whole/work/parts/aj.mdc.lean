/-! THE MODEL: rooms of a slot -/
/-- the most lessons of A that get rooms, each its own, among n rooms from k on -/
def mtf (σ : Nat → Nat → Nat) : Nat → Nat → Nat → Nat
  | 0, _, _ => 0
  | n + 1, k, A => max (mtf σ n (k + 1) A) (mxn (σ 1 6) fun l => if (A.testBit l && sts σ l k) = true then 1 + mtf σ n (k + 1) (clr A (1 <<< l)) else 0)
/-- how many of n rooms from k on fit one of P -/
def rnn (σ : Nat → Nat → Nat) (n k P : Nat) : Nat := sm n fun i => b1 (rfs σ P (k + i))
section Mdc
variable {xs : List Int32} {d n m : Nat} {h : ab_H} {σ : Nat → Nat → Nat} {μ : Nat → Nat} {ν : Nat → Value} {a b u k v w x y q l i t o s r p A P c nn : Nat} {f g tab : Nat → Nat}
set_option maxRecDepth 100000 in
theorem sm_hd (n : Nat) (f : Nat → Nat) : sm (n + 1) f = f 0 + sm n fun i => f (i + 1) := by
  induction n with
  | zero => rw [sm, sm, sm]; omega
  | succ n ih => rw [sm, ih, sm]; omega
set_option maxRecDepth 100000 in
theorem rnn_s : rnn σ (n + 1) k P = b1 (rfs σ P k) + rnn σ n (k + 1) P := by
  unfold rnn
  rw [sm_hd]
  congr 1
  exact sm_cg fun i _ => by rw [show k + (i + 1) = k + 1 + i by omega]
set_option maxRecDepth 100000 in
theorem rfs_t : rfs σ P r = true ↔ ∃ l, l < (σ 1 6) ∧ P.testBit l = true ∧ sts σ l r = true := by
  unfold rfs
  rw [an_t]
  constructor
  · rintro ⟨l, h1, h2⟩
    rw [Bool.and_eq_true] at h2
    exact ⟨l, h1, h2.1, h2.2⟩
  · rintro ⟨l, h1, h2, h3⟩
    exact ⟨l, h1, by rw [h2, h3]; rfl⟩
set_option maxRecDepth 100000 in
theorem rfs_m (h : ∀ i, P.testBit i = true → q.testBit i = true) : b1 (rfs σ P r) ≤ b1 (rfs σ q r) := by
  cases h1 : rfs σ P r
  · exact Nat.zero_le _
  · obtain ⟨l, h2, h3, h4⟩ := rfs_t.mp h1
    rw [rfs_t.mpr ⟨l, h2, h l h3, h4⟩]
    exact Nat.le_refl _
set_option maxRecDepth 100000 in
theorem rnn_m (h : ∀ i, P.testBit i = true → q.testBit i = true) : rnn σ n k P ≤ rnn σ n k q := sm_mono fun _ _ => rfs_m h
set_option maxRecDepth 100000 in
theorem pc_c1 (hl : l < 10) (h : A.testBit l = true) : pc 10 (clr A (1 <<< l)) + 1 = pc 10 A := by
  have h1 := sm_u (n := 10) (l := l) (f := fun i => b1 ((clr A (1 <<< l)).testBit i)) (g := fun i => b1 (A.testBit i)) hl fun i _ hi => by
    show b1 ((clr A (1 <<< l)).testBit i) = b1 (A.testBit i)
    rw [clr_b, decide_eq_false hi]
    simp
  have h2 : b1 ((clr A (1 <<< l)).testBit l) = 0 := by
    rw [clr_b, decide_eq_true rfl]
    simp [b1_f]
  have h3 : b1 (A.testBit l) = 1 := by rw [h]; rfl
  rw [pc_sm, pc_sm]
  have h4 : (fun i => b1 ((clr A (1 <<< l)).testBit i)) l = b1 ((clr A (1 <<< l)).testBit l) := rfl
  have h5 : (fun i => b1 (A.testBit i)) l = b1 (A.testBit l) := rfl
  omega
set_option maxRecDepth 100000 in
theorem mxn_ge {n i : Nat} {f : Nat → Nat} (hi : i < n) : f i ≤ mxn n f := mxn_le.mp (Nat.le_refl _) i hi
-- no more than a part leaves
set_option maxRecDepth 100000 in
theorem mtf_up (hL : (σ 1 6) ≤ 6) : ∀ n k A P, (∀ i, P.testBit i = true → A.testBit i = true) → mtf σ n k A + pc 10 P ≤ pc 10 A + rnn σ n k P := by
  intro n
  induction n with
  | zero =>
    intro k A P h
    have := pc_sub (n := 10) h
    show 0 + _ ≤ _ + 0
    omega
  | succ n ih =>
    intro k A P h
    rw [rnn_s]
    have h1 := ih (k + 1) A P h
    have h2 : (mxn (σ 1 6) fun l => if (A.testBit l && sts σ l k) = true then 1 + mtf σ n (k + 1) (clr A (1 <<< l)) else 0) ≤ pc 10 A + (b1 (rfs σ P k) + rnn σ n (k + 1) P) - pc 10 P := by
      have hp := pc_sub (n := 10) h
      refine mxn_le.mpr fun l hl => ?_
      split
      · rename_i hh
        rw [Bool.and_eq_true] at hh
        have h3 := ih (k + 1) (clr A (1 <<< l)) (clr P (1 <<< l)) fun i hi => by
          rw [clr_b, Bool.and_eq_true] at hi ⊢
          exact ⟨h i hi.1, hi.2⟩
        have h4 := pc_c1 (show l < 10 by omega) hh.1
        have h5 := rnn_m (σ := σ) (n := n) (k := k + 1) (P := clr P (1 <<< l)) (q := P) fun i hi => by
          rw [clr_b, Bool.and_eq_true] at hi
          exact hi.1
        by_cases hP : P.testBit l = true
        · have h6 := pc_c1 (show l < 10 by omega) hP
          have h7 : b1 (rfs σ P k) = 1 := by rw [rfs_t.mpr ⟨l, hl, hP, hh.2⟩]; rfl
          omega
        · have h6 : clr P (1 <<< l) = P := Nat.eq_of_testBit_eq fun i => by
            rw [clr_b]
            by_cases e : i = l
            · rw [e]
              have : P.testBit l = false := by simpa using hP
              rw [this]
              rfl
            · rw [decide_eq_false e]
              simp
          rw [h6] at h3
          omega
      · exact Nat.zero_le _
    have h3 := pc_sub (n := 10) h
    rw [mtf]
    omega
/-- the lessons of A with so many pupils at least -/
def thr (σ : Nat → Nat → Nat) (A c : Nat) : Nat := en (σ 1 6) fun l => A.testBit l && decide (c ≤ σ 2 (σ 5 l))
set_option maxRecDepth 100000 in
theorem thr_tb : (thr σ A c).testBit l = true ↔ l < (σ 1 6) ∧ A.testBit l = true ∧ c ≤ σ 2 (σ 5 l) := by
  unfold thr
  rw [en_tb, Bool.and_eq_true, decide_eq_true_eq, Bool.and_eq_true, decide_eq_true_eq]
set_option maxRecDepth 100000 in
theorem sts_t : sts σ l r = true ↔ σ 2 (σ 5 l) ≤ σ 4 r := by
  unfold sts
  rw [decide_eq_true_eq]
-- the greatest of those with p
set_option maxRecDepth 100000 in
theorem mx_ex (f : Nat → Nat) (p : Nat → Prop) : ∀ n, (∃ l, l < n ∧ p l) → ∃ l, l < n ∧ p l ∧ ∀ j, j < n → p j → f j ≤ f l := by
  intro n
  induction n with
  | zero => rintro ⟨l, h, -⟩; omega
  | succ n ih =>
    intro h
    by_cases h1 : ∃ l, l < n ∧ p l
    · obtain ⟨l, h2, h3, h4⟩ := ih h1
      by_cases h5 : p n ∧ f l < f n
      · exact ⟨n, Nat.lt_succ_self n, h5.1, fun j hj hp => by
          by_cases e : j = n
          · rw [e]; exact Nat.le_refl _
          · have := h4 j (by omega) hp
            omega⟩
      · exact ⟨l, by omega, h3, fun j hj hp => by
          by_cases e : j = n
          · rw [e] at hp ⊢
            exact Nat.le_of_not_lt fun z => h5 ⟨hp, z⟩
          · exact h4 j (by omega) hp⟩
    · obtain ⟨l, h2, h3⟩ := h
      have e : l = n := Nat.le_antisymm (by omega) (Nat.le_of_not_lt fun z => h1 ⟨l, z, h3⟩)
      rw [e] at h3
      exact ⟨n, Nat.lt_succ_self n, h3, fun j hj hp => by
        by_cases e : j = n
        · rw [e]; exact Nat.le_refl _
        · exact absurd ⟨j, by omega, hp⟩ h1⟩
-- some part leaves no more
set_option maxRecDepth 100000 in
theorem mtf_lo (hL : (σ 1 6) ≤ 6) : ∀ n k A, (∀ i, A.testBit i = true → i < (σ 1 6)) → ∃ c, pc 10 A + rnn σ n k (thr σ A c) ≤ mtf σ n k A + pc 10 (thr σ A c) := by
  intro n
  induction n with
  | zero =>
    intro k A hA
    refine ⟨0, ?_⟩
    have : thr σ A 0 = A := Nat.eq_of_testBit_eq fun i => by
      rw [Bool.eq_iff_iff, thr_tb]
      exact ⟨fun h => h.2.1, fun h => ⟨hA i h, h, Nat.zero_le _⟩⟩
    rw [this]
    show _ + 0 ≤ 0 + _
    omega
  | succ n ih =>
    intro k A hA
    by_cases hF : ∃ l, l < (σ 1 6) ∧ (A.testBit l = true ∧ sts σ l k = true)
    · obtain ⟨l, hl, ⟨h1, h2⟩, h3⟩ := mx_ex (fun l => σ 2 (σ 5 l)) (fun l => A.testBit l = true ∧ sts σ l k = true) (σ 1 6) hF
      obtain ⟨c, hc⟩ := ih (k + 1) (clr A (1 <<< l)) fun i hi => by
        rw [clr_b, Bool.and_eq_true] at hi
        exact hA i hi.1
      have h4 := pc_c1 (show l < 10 by omega) h1
      have h5 : 1 + mtf σ n (k + 1) (clr A (1 <<< l)) ≤ mtf σ (n + 1) k A := by
        have h6 := mxn_ge (f := fun l => if (A.testBit l && sts σ l k) = true then 1 + mtf σ n (k + 1) (clr A (1 <<< l)) else 0) hl
        rw [h1, h2] at h6
        rw [mtf]
        exact Nat.le_trans h6 (Nat.le_max_right _ _)
      by_cases hi : ∃ j, (thr σ (clr A (1 <<< l)) c).testBit j = true ∧ σ 2 (σ 5 j) ≤ σ 2 (σ 5 l)
      · obtain ⟨j, hj, hj2⟩ := hi
        obtain ⟨q1, q2, q3⟩ := thr_tb.mp hj
        refine ⟨c, ?_⟩
        have hlt : (thr σ A c).testBit l = true := thr_tb.mpr ⟨hl, h1, by omega⟩
        have he : clr (thr σ A c) (1 <<< l) = thr σ (clr A (1 <<< l)) c := Nat.eq_of_testBit_eq fun i => by
          rw [Bool.eq_iff_iff, clr_b, Bool.and_eq_true, thr_tb, thr_tb, clr_b, Bool.and_eq_true]
          constructor
          · rintro ⟨⟨z1, z2, z3⟩, z4⟩
            exact ⟨z1, ⟨z2, z4⟩, z3⟩
          · rintro ⟨z1, ⟨z2, z4⟩, z3⟩
            exact ⟨⟨z1, z2, z3⟩, z4⟩
        have h6 := pc_c1 (show l < 10 by omega) hlt
        rw [he] at h6
        have h7 : rnn σ n (k + 1) (thr σ A c) ≤ rnn σ n (k + 1) (thr σ (clr A (1 <<< l)) c) := sm_mono fun i _ => by
          cases hr : rfs σ (thr σ A c) (k + 1 + i)
          · exact Nat.zero_le _
          · obtain ⟨x, x1, x2, x3⟩ := rfs_t.mp hr
            have : rfs σ (thr σ (clr A (1 <<< l)) c) (k + 1 + i) = true := by
              by_cases e : x = l
              · rw [e] at x3
                exact rfs_t.mpr ⟨j, q1, hj, sts_t.mpr (by have := sts_t.mp x3; omega)⟩
              · refine rfs_t.mpr ⟨x, x1, ?_, x3⟩
                rw [← he, clr_b, x2, decide_eq_false e]
                rfl
            rw [this]
            exact Nat.le_refl _
        rw [rnn_s]
        have h8 := b1_lt (rfs σ (thr σ A c) k)
        omega
      · refine ⟨max c (σ 2 (σ 5 l) + 1), ?_⟩
        have he : thr σ A (max c (σ 2 (σ 5 l) + 1)) = thr σ (clr A (1 <<< l)) c := Nat.eq_of_testBit_eq fun i => by
          rw [Bool.eq_iff_iff]
          constructor
          · intro z
            obtain ⟨z1, z2, z3⟩ := thr_tb.mp z
            refine thr_tb.mpr ⟨z1, ?_, by omega⟩
            rw [clr_b, z2, decide_eq_false (fun e : i = l => by rw [e] at z3; omega)]
            rfl
          · intro z
            obtain ⟨z1, z2, z3⟩ := thr_tb.mp z
            rw [clr_b, Bool.and_eq_true] at z2
            have : σ 2 (σ 5 l) < σ 2 (σ 5 i) := Nat.lt_of_not_le fun z4 => hi ⟨i, z, z4⟩
            exact thr_tb.mpr ⟨z1, z2.1, by omega⟩
        rw [he, rnn_s]
        have h6 : rfs σ (thr σ (clr A (1 <<< l)) c) k = false := by
          cases hr : rfs σ (thr σ (clr A (1 <<< l)) c) k
          · rfl
          · obtain ⟨x, x1, x2, x3⟩ := rfs_t.mp hr
            obtain ⟨z1, z2, z3⟩ := thr_tb.mp x2
            rw [clr_b, Bool.and_eq_true] at z2
            exact absurd ⟨x, x2, h3 x x1 ⟨z2.1, x3⟩⟩ hi
        rw [h6, b1_f]
        omega
    · obtain ⟨c, hc⟩ := ih (k + 1) A hA
      refine ⟨c, ?_⟩
      have h6 : rfs σ (thr σ A c) k = false := by
        cases hr : rfs σ (thr σ A c) k
        · rfl
        · obtain ⟨x, x1, x2, x3⟩ := rfs_t.mp hr
          exact absurd ⟨x, x1, (thr_tb.mp x2).2.1, x3⟩ hF
      rw [rnn_s, h6, b1_f, mtf]
      have := Nat.le_max_left (mtf σ n (k + 1) A) (mxn (σ 1 6) fun l => if (A.testBit l && sts σ l k) = true then 1 + mtf σ n (k + 1) (clr A (1 <<< l)) else 0)
      omega
-- the class's count is the model's
set_option maxRecDepth 100000 in
theorem mtf_d (hL : (σ 1 6) ≤ 6) (hu : ∀ i, u.testBit i = true → i < (σ 1 6)) : mtf σ (σ 1 5) 0 u + dfc σ u (u + 1) = pc 10 u := by
  have hr : ∀ P, rnn σ (σ 1 5) 0 P = rfo σ P := fun P => sm_cg fun i _ => by rw [Nat.zero_add]
  obtain ⟨c, hc⟩ := mtf_lo hL (σ 1 5) 0 u hu
  have h0 := mtf_up (σ := σ) hL (σ 1 5) 0 u 0 fun i hi => by rw [Nat.zero_testBit] at hi; cases hi
  have z0 : rnn σ (σ 1 5) 0 0 = 0 := by rw [hr]; exact rfo_0
  have hs : ∀ i, (thr σ u c).testBit i = true → u.testBit i = true := fun i hi => (thr_tb.mp hi).2.1
  have h1 : (if clr (thr σ u c) u = 0 then pc 10 (thr σ u c) - rfo σ (thr σ u c) else 0) ≤ dfc σ u (u + 1) := mxn_ge (f := fun v => if clr v u = 0 then pc 10 v - rfo σ v else 0) (by
    have : thr σ u c ≤ u := by
      have e : thr σ u c &&& u = thr σ u c := Nat.eq_of_testBit_eq fun i => by
        rw [Nat.testBit_and]
        cases hi : (thr σ u c).testBit i
        · rfl
        · rw [hs i hi]
          rfl
      rw [← e]
      exact Nat.and_le_right
    omega)
  have h2 : clr (thr σ u c) u = 0 := z_tb.mpr fun i => by
    rw [clr_tb]
    cases hi : (thr σ u c).testBit i
    · rfl
    · rw [hs i hi]
      rfl
  rw [if_pos h2] at h1
  have h3 : dfc σ u (u + 1) ≤ pc 10 u - mtf σ (σ 1 5) 0 u := mxn_le.mpr fun v _ => by
    show (if clr v u = 0 then pc 10 v - rfo σ v else 0) ≤ _
    split
    · rename_i h4
      have h5 := mtf_up (σ := σ) hL (σ 1 5) 0 u v fun i hi => by
        have := z_tb.mp h4 i
        rw [clr_tb, hi] at this
        simpa using this
      rw [hr] at h5
      omega
    · exact Nat.zero_le _
  rw [hr] at hc
  have hp0 : pc 10 0 = 0 := rfl
  omega
/-- the lessons of a slot, in a table -/
def lnt (σ : Nat → Nat → Nat) (tab : Nat → Nat) (y : Nat) : Nat := lin σ (fun l => tab l / (σ 1 5)) y
set_option maxRecDepth 100000 in
theorem lnt_tb : (lnt σ tab y).testBit l = true ↔ l < (σ 1 6) ∧ (cov σ l (tab l / (σ 1 5))).testBit y = true := by
  unfold lnt lin
  rw [en_tb, Bool.and_eq_true, decide_eq_true_eq]
set_option maxRecDepth 100000 in
theorem m_251 (O : Ok σ) (H : Mo σ μ ν h) (hν : ν 0 = .ref p) (hp : h[p]? = some (oI (ar (σ 1 6) tab))) (ht : ∀ l, l < (σ 1 6) → tab l < (σ 1 2) * (σ 1 5)) (hl : l < (σ 1 6)) (hy : y < (σ 1 2)) : ev xs (d + 3) 251 0 ([.ref 62, .int (nI l), .int (nI y)], [], h) = some (.inl (some (.int (nI (b1 ((cov σ l (tab l / (σ 1 5))).testBit y))))), h) := by
  obtain ⟨hD1, hD2, hH1, hH2, hS, hC, hT, hR, hL, hQ⟩ := Ok_b O
  have e1 := m_196 (xs := xs) (d := d) O H hl (ht l hl)
  have hcl := cov_lt O (l := l) (vb O (ht l hl)).2.1
  have htl := ht l hl
  clear ht
  cases hc : (cov σ l (tab l / (σ 1 5))).testBit y
  · simp (disch := first | assumption | omega | exact st8_a (Nat.le_of_ble_eq_true rfl)) only [hν, q_ia hp, e1, hc, eb_251_0, eb_251_1, eb_251_2, eb_251_3, eb_251_4, xr_1, xr_10, xr_2, xr_27, xr_28, xr_3, xr_31, xr_4, xr_44, xr_5, xr_55, af_0, af_1, xt_goto, xt_ib, xt_ic, xt_ic_ne, xt_ir, xt_nop, mF_19 H, mA_63 H, mA_64 H, mA_65 H, mA_66 H, mA_67 H, mA_68 H, mA_69 H, mA_70 H, mA_71 H, xq_196_13_virtualm H, iN_add, iN_mul, iN_sub, iN_and, iN_or, iN_clr, iN_shl, iN_shr, tb_r1, b1_z, b1_or, b1_and, b1_or0, b1_or1, b1_0or, b1_t, b1_f, iN_lt, iN_inj, reduceIte, if_true, if_false, Nat.zero_add, Nat.add_zero, Bool.false_eq_true, Bool.true_eq_false, Nat.lt_irrefl, iN_az, not_true_eq_false, not_false_eq_true, Nat.reduceEqDiff, Nat.reduceLT, Nat.reduceAdd, Nat.reduceMul, Nat.reduceSub]
  · simp (disch := first | assumption | omega | exact st8_a (Nat.le_of_ble_eq_true rfl)) only [hν, q_ia hp, e1, hc, eb_251_0, eb_251_1, eb_251_2, eb_251_3, eb_251_4, xr_1, xr_10, xr_2, xr_27, xr_28, xr_3, xr_31, xr_4, xr_44, xr_5, xr_55, af_0, af_1, xt_goto, xt_ib, xt_ic, xt_ic_ne, xt_ir, xt_nop, mF_19 H, mA_63 H, mA_64 H, mA_65 H, mA_66 H, mA_67 H, mA_68 H, mA_69 H, mA_70 H, mA_71 H, xq_196_13_virtualm H, iN_add, iN_mul, iN_sub, iN_and, iN_or, iN_clr, iN_shl, iN_shr, tb_r1, b1_z, b1_or, b1_and, b1_or0, b1_or1, b1_0or, b1_t, b1_f, iN_lt, iN_inj, reduceIte, if_true, if_false, Nat.zero_add, Nat.add_zero, Bool.false_eq_true, Bool.true_eq_false, Nat.lt_irrefl, iN_az, not_true_eq_false, not_false_eq_true, Nat.reduceEqDiff, Nat.reduceLT, Nat.reduceAdd, Nat.reduceMul, Nat.reduceSub]
set_option maxRecDepth 100000 in
theorem clr_or : clr u (w ||| 1 <<< l) = clr (clr u w) (1 <<< l) := Nat.eq_of_testBit_eq fun i => by
  rw [clr_b, clr_tb, clr_tb, Nat.testBit_or, tb_1s]
  cases u.testBit i <;> cases w.testBit i <;> cases decide (i = l) <;> rfl
set_option maxRecDepth 100000 in
theorem mtf_le : ∀ n k A, mtf σ n k A ≤ n := by
  intro n
  induction n with
  | zero => intro k A; exact Nat.le_refl _
  | succ n ih =>
    intro k A
    rw [mtf]
    have h1 := ih (k + 1) A
    have h2 : (mxn (σ 1 6) fun l => if (A.testBit l && sts σ l k) = true then 1 + mtf σ n (k + 1) (clr A (1 <<< l)) else 0) ≤ n + 1 := mxn_le.mpr fun l _ => by
      have := ih (k + 1) (clr A (1 <<< l))
      show (if (A.testBit l && sts σ l k) = true then 1 + mtf σ n (k + 1) (clr A (1 <<< l)) else 0) ≤ n + 1
      split <;> omega
    omega
set_option maxRecDepth 100000 in
theorem m_252 (O : Ok σ) (H : Mo σ μ ν h) (hν : ν 0 = .ref p) (hp : h[p]? = some (oI (ar (σ 1 6) tab))) (ht : ∀ l, l < (σ 1 6) → tab l < (σ 1 2) * (σ 1 5)) (hy : y < (σ 1 2)) : ∀ n k, k + n = (σ 1 5) → ∀ w, w < 64 → ev xs (d + n + 4) 252 0 ([.ref 62, .int (nI y), .int (nI k), .int (nI w), .retAddr 9, .retAddr 9], [], h) = some (.inl (some (.int (nI (mtf σ n k (clr (lnt σ tab y) w))))), h) := by
  obtain ⟨hD1, hD2, hH1, hH2, hS, hC, hT, hR, hL, hQ⟩ := Ok_b O
  intro n
  induction n with
  | zero =>
    intro k hk w hw
    have hkR : (k = (σ 1 5)) = True := eq_true (by omega)
    clear ht
    simp (disch := first | assumption | omega | exact st8_a (Nat.le_of_ble_eq_true rfl)) only [hkR, eb_252_0, eb_252_1, kl_a, kl_d, kl_f, kl_i, kl_l, kl_n, kl_r, xr_1, xr_10, xr_2, xr_27, xr_28, xr_3, xr_31, xr_33, xr_34, xr_35, xr_36, xr_37, xr_38, xr_39, xr_4, xr_44, xr_45, xr_5, xr_55, xr_58, xr_60, af_0, af_1, xt_goto, xt_ib, xt_ic, xt_ic_ge, xt_ic_lt, xt_ic_ne, xt_if_eq, xt_if_ne, xt_ir, xt_nop, mF_3 H, mF_6 H, mF_7 H, mF_8 H, mF_9 H, mA_63 H, mA_64 H, mA_65 H, mA_66 H, mA_67 H, mA_68 H, mA_69 H, mA_70 H, mA_71 H, xq_251_13_virtualm H, xq_252_13_virtualm H, iN_add, iN_mul, iN_sub, iN_and, iN_or, iN_clr, iN_shl, iN_shr, tb_r1, b1_z, b1_or, b1_and, b1_or0, b1_or1, b1_0or, b1_t, b1_f, iN_lt, iN_inj, reduceIte, if_true, if_false, Nat.zero_add, Nat.add_zero, Bool.false_eq_true, Bool.true_eq_false, Nat.lt_irrefl, iN_az, not_true_eq_false, not_false_eq_true, Nat.reduceEqDiff, Nat.reduceLT, Nat.reduceAdd, Nat.reduceMul, Nat.reduceSub]
    rfl
  | succ n ih =>
    intro k hk w hw
    have hkR : k < (σ 1 5) := by omega
    have hr := Ok_r O hkR
    have e1 := ih (k + 1) (by omega) w hw
    have hle := mtf_le (σ := σ) n (k + 1) (clr (lnt σ tab y) w)
    have key : ∀ l, l ≤ (σ 1 6) → ∀ z, z = max (mtf σ n (k + 1) (clr (lnt σ tab y) w)) (mxn l fun l => if ((clr (lnt σ tab y) w).testBit l && sts σ l k) = true then 1 + mtf σ n (k + 1) (clr (clr (lnt σ tab y) w) (1 <<< l)) else 0) → ev xs (d + (n + 1) + 4) 252 4 ([.ref 62, .int (nI y), .int (nI k), .int (nI w), .int (nI z), .int (nI l)], [], h) = some (.inl (some (.int (nI (mtf σ (n + 1) k (clr (lnt σ tab y) w))))), h) := by
      refine lp (σ 1 6) ?_ ?_
      · intro z hz
        rw [eb_252_4, hz]
        clear ih e1 ht hz
        simp (disch := first | assumption | omega | exact st8_a (Nat.le_of_ble_eq_true rfl)) only [eb_252_12, kl_a, kl_d, kl_f, kl_i, kl_l, kl_n, kl_r, xr_1, xr_10, xr_2, xr_27, xr_28, xr_3, xr_31, xr_33, xr_34, xr_35, xr_36, xr_37, xr_38, xr_39, xr_4, xr_44, xr_45, xr_5, xr_55, xr_58, xr_60, af_0, af_1, xt_goto, xt_ib, xt_ic, xt_ic_ge, xt_ic_lt, xt_ic_ne, xt_if_eq, xt_if_ne, xt_ir, xt_nop, mF_3 H, mF_6 H, mF_7 H, mF_8 H, mF_9 H, mA_63 H, mA_64 H, mA_65 H, mA_66 H, mA_67 H, mA_68 H, mA_69 H, mA_70 H, mA_71 H, xq_251_13_virtualm H, xq_252_13_virtualm H, iN_add, iN_mul, iN_sub, iN_and, iN_or, iN_clr, iN_shl, iN_shr, tb_r1, b1_z, b1_or, b1_and, b1_or0, b1_or1, b1_0or, b1_t, b1_f, iN_lt, iN_inj, reduceIte, if_true, if_false, Nat.zero_add, Nat.add_zero, Bool.false_eq_true, Bool.true_eq_false, Nat.lt_irrefl, iN_az, not_true_eq_false, not_false_eq_true, Nat.reduceEqDiff, Nat.reduceLT, Nat.reduceAdd, Nat.reduceMul, Nat.reduceSub]
        rfl
      · intro l hl ihl z hz
        have hz3 : z ≤ 4 := by
          have h2 : (mxn l fun l => if ((clr (lnt σ tab y) w).testBit l && sts σ l k) = true then 1 + mtf σ n (k + 1) (clr (clr (lnt σ tab y) w) (1 <<< l)) else 0) ≤ n + 1 := mxn_le.mpr fun l _ => by
            have := mtf_le (σ := σ) n (k + 1) (clr (clr (lnt σ tab y) w) (1 <<< l))
            show (if ((clr (lnt σ tab y) w).testBit l && sts σ l k) = true then 1 + mtf σ n (k + 1) (clr (clr (lnt σ tab y) w) (1 <<< l)) else 0) ≤ n + 1
            split <;> omega
          omega
        obtain ⟨c1, c2, c3⟩ := Ok_l O hl
        have hcp := Ok_c O c1
        have e2 := m_251 (xs := xs) (d := d + n + 1) (y := y) O H hν hp ht hl hy
        have nxt : ∀ x, (if ((clr (lnt σ tab y) w).testBit l && sts σ l k) = true then 1 + mtf σ n (k + 1) (clr (clr (lnt σ tab y) w) (1 <<< l)) else 0) = x → ev xs (d + (n + 1) + 4) 252 4 ([.ref 62, .int (nI y), .int (nI k), .int (nI w), .int (nI (max z x)), .int (nI (l + 1))], [], h) = some (.inl (some (.int (nI (mtf σ (n + 1) k (clr (lnt σ tab y) w))))), h) := fun x hx => ihl (max z x) (by rw [hz, ← hx, mxn]; omega)
        have nx0 : ((clr (lnt σ tab y) w).testBit l && sts σ l k) = false → ev xs (d + (n + 1) + 4) 252 4 ([.ref 62, .int (nI y), .int (nI k), .int (nI w), .int (nI z), .int (nI (l + 1))], [], h) = some (.inl (some (.int (nI (mtf σ (n + 1) k (clr (lnt σ tab y) w))))), h) := fun hf => by
          have := nxt 0 (by rw [hf]; rfl)
          rw [Nat.max_eq_left (Nat.zero_le _)] at this
          exact this
        rw [eb_252_4]
        rw [show d + (n + 1) + 4 = d + n + 4 + 1 from rfl] at nxt nx0 ⊢
        rw [show d + n + 1 + 3 = d + n + 4 from rfl] at e2
        have hin : (lnt σ tab y).testBit l = (cov σ l (tab l / (σ 1 5))).testBit y := by
          rw [Bool.eq_iff_iff, lnt_tb]
          exact ⟨fun h => h.2, fun h => ⟨hl, h⟩⟩
        rw [clr_tb, hin] at nx0
        cases hc : (cov σ l (tab l / (σ 1 5))).testBit y
        · rw [hc] at e2 nx0
          have nx0 := nx0 rfl
          clear ih e1 ht ihl nxt hz hin
          simp (disch := first | assumption | omega | exact st8_a (Nat.le_of_ble_eq_true rfl)) only [hl, e2, eb_252_5, eb_252_6, eb_252_11, kl_a, kl_d, kl_f, kl_i, kl_l, kl_n, kl_r, xr_1, xr_10, xr_2, xr_27, xr_28, xr_3, xr_31, xr_33, xr_34, xr_35, xr_36, xr_37, xr_38, xr_39, xr_4, xr_44, xr_45, xr_5, xr_55, xr_58, xr_60, af_0, af_1, xt_goto, xt_ib, xt_ic, xt_ic_ge, xt_ic_lt, xt_ic_ne, xt_if_eq, xt_if_ne, xt_ir, xt_nop, mF_3 H, mF_6 H, mF_7 H, mF_8 H, mF_9 H, mA_63 H, mA_64 H, mA_65 H, mA_66 H, mA_67 H, mA_68 H, mA_69 H, mA_70 H, mA_71 H, xq_251_13_virtualm H, xq_252_13_virtualm H, iN_add, iN_mul, iN_sub, iN_and, iN_or, iN_clr, iN_shl, iN_shr, tb_r1, b1_z, b1_or, b1_and, b1_or0, b1_or1, b1_0or, b1_t, b1_f, iN_lt, iN_inj, reduceIte, if_true, if_false, Nat.zero_add, Nat.add_zero, Bool.false_eq_true, Bool.true_eq_false, Nat.lt_irrefl, iN_az, not_true_eq_false, not_false_eq_true, Nat.reduceEqDiff, Nat.reduceLT, Nat.reduceAdd, Nat.reduceMul, Nat.reduceSub]
          exact nx0
        · rw [hc] at e2 nx0
          cases hw2 : w.testBit l
          · rw [hw2] at nx0
            by_cases hst : σ 4 k < σ 2 (σ 5 l)
            · have nx0 := nx0 (by
                rw [show sts σ l k = false from by unfold sts; exact decide_eq_false (by omega)]
                rfl)
              clear ih e1 ht ihl nxt hz hin
              simp (disch := first | assumption | omega | exact st8_a (Nat.le_of_ble_eq_true rfl)) only [hl, e2, hw2, hst, eb_252_5, eb_252_6, eb_252_7, eb_252_8, eb_252_11, kl_a, kl_d, kl_f, kl_i, kl_l, kl_n, kl_r, xr_1, xr_10, xr_2, xr_27, xr_28, xr_3, xr_31, xr_33, xr_34, xr_35, xr_36, xr_37, xr_38, xr_39, xr_4, xr_44, xr_45, xr_5, xr_55, xr_58, xr_60, af_0, af_1, xt_goto, xt_ib, xt_ic, xt_ic_ge, xt_ic_lt, xt_ic_ne, xt_if_eq, xt_if_ne, xt_ir, xt_nop, mF_3 H, mF_6 H, mF_7 H, mF_8 H, mF_9 H, mA_63 H, mA_64 H, mA_65 H, mA_66 H, mA_67 H, mA_68 H, mA_69 H, mA_70 H, mA_71 H, xq_251_13_virtualm H, xq_252_13_virtualm H, iN_add, iN_mul, iN_sub, iN_and, iN_or, iN_clr, iN_shl, iN_shr, tb_r1, b1_z, b1_or, b1_and, b1_or0, b1_or1, b1_0or, b1_t, b1_f, iN_lt, iN_inj, reduceIte, if_true, if_false, Nat.zero_add, Nat.add_zero, Bool.false_eq_true, Bool.true_eq_false, Nat.lt_irrefl, iN_az, not_true_eq_false, not_false_eq_true, Nat.reduceEqDiff, Nat.reduceLT, Nat.reduceAdd, Nat.reduceMul, Nat.reduceSub]
              exact nx0
            · have hst2 : sts σ l k = true := by unfold sts; exact decide_eq_true (by omega)
              have hwl : w ||| 1 <<< l < 64 := or_lt (n := 6) hw (s1_lt (n := 6) (by omega))
              have e3 := ih (k + 1) (by omega) (w ||| 1 <<< l) hwl
              rw [clr_or] at e3
              have hle2 := mtf_le (σ := σ) n (k + 1) (clr (clr (lnt σ tab y) w) (1 <<< l))
              have nxt := nxt (1 + mtf σ n (k + 1) (clr (clr (lnt σ tab y) w) (1 <<< l))) (by
                rw [if_pos]
                rw [clr_tb, hin, hc, hw2, hst2]
                rfl)
              clear ih e1 ht ihl hz hin nx0
              simp (disch := first | assumption | omega | exact st8_a (Nat.le_of_ble_eq_true rfl)) only [hl, e2, hw2, hst, e3, eb_252_5, eb_252_6, eb_252_7, eb_252_8, eb_252_9, eb_252_10, eb_252_11, kl_a, kl_d, kl_f, kl_i, kl_l, kl_n, kl_r, xr_1, xr_10, xr_2, xr_27, xr_28, xr_3, xr_31, xr_33, xr_34, xr_35, xr_36, xr_37, xr_38, xr_39, xr_4, xr_44, xr_45, xr_5, xr_55, xr_58, xr_60, af_0, af_1, xt_goto, xt_ib, xt_ic, xt_ic_ge, xt_ic_lt, xt_ic_ne, xt_if_eq, xt_if_ne, xt_ir, xt_nop, mF_3 H, mF_6 H, mF_7 H, mF_8 H, mF_9 H, mA_63 H, mA_64 H, mA_65 H, mA_66 H, mA_67 H, mA_68 H, mA_69 H, mA_70 H, mA_71 H, xq_251_13_virtualm H, xq_252_13_virtualm H, iN_add, iN_mul, iN_sub, iN_and, iN_or, iN_clr, iN_shl, iN_shr, tb_r1, b1_z, b1_or, b1_and, b1_or0, b1_or1, b1_0or, b1_t, b1_f, iN_lt, iN_inj, reduceIte, if_true, if_false, Nat.zero_add, Nat.add_zero, Bool.false_eq_true, Bool.true_eq_false, Nat.lt_irrefl, iN_az, not_true_eq_false, not_false_eq_true, Nat.reduceEqDiff, Nat.reduceLT, Nat.reduceAdd, Nat.reduceMul, Nat.reduceSub]
              exact nxt
          · rw [hw2] at nx0
            have nx0 := nx0 rfl
            clear ih e1 ht ihl nxt hz hin
            simp (disch := first | assumption | omega | exact st8_a (Nat.le_of_ble_eq_true rfl)) only [hl, e2, hw2, eb_252_5, eb_252_6, eb_252_7, eb_252_11, kl_a, kl_d, kl_f, kl_i, kl_l, kl_n, kl_r, xr_1, xr_10, xr_2, xr_27, xr_28, xr_3, xr_31, xr_33, xr_34, xr_35, xr_36, xr_37, xr_38, xr_39, xr_4, xr_44, xr_45, xr_5, xr_55, xr_58, xr_60, af_0, af_1, xt_goto, xt_ib, xt_ic, xt_ic_ge, xt_ic_lt, xt_ic_ne, xt_if_eq, xt_if_ne, xt_ir, xt_nop, mF_3 H, mF_6 H, mF_7 H, mF_8 H, mF_9 H, mA_63 H, mA_64 H, mA_65 H, mA_66 H, mA_67 H, mA_68 H, mA_69 H, mA_70 H, mA_71 H, xq_251_13_virtualm H, xq_252_13_virtualm H, iN_add, iN_mul, iN_sub, iN_and, iN_or, iN_clr, iN_shl, iN_shr, tb_r1, b1_z, b1_or, b1_and, b1_or0, b1_or1, b1_0or, b1_t, b1_f, iN_lt, iN_inj, reduceIte, if_true, if_false, Nat.zero_add, Nat.add_zero, Bool.false_eq_true, Bool.true_eq_false, Nat.lt_irrefl, iN_az, not_true_eq_false, not_false_eq_true, Nat.reduceEqDiff, Nat.reduceLT, Nat.reduceAdd, Nat.reduceMul, Nat.reduceSub]
            exact nx0
    have hne : ¬ k = (σ 1 5) := by omega
    have key := key 0 (Nat.zero_le _) (mtf σ n (k + 1) (clr (lnt σ tab y) w)) (Nat.max_eq_left (Nat.zero_le _)).symm
    rw [eb_252_0]
    rw [show d + (n + 1) + 4 = d + n + 4 + 1 from rfl] at key ⊢
    clear ih ht
    simp (disch := first | assumption | omega | exact st8_a (Nat.le_of_ble_eq_true rfl)) only [hne, e1, eb_252_2, eb_252_3, kl_a, kl_d, kl_f, kl_i, kl_l, kl_n, kl_r, xr_1, xr_10, xr_2, xr_27, xr_28, xr_3, xr_31, xr_33, xr_34, xr_35, xr_36, xr_37, xr_38, xr_39, xr_4, xr_44, xr_45, xr_5, xr_55, xr_58, xr_60, af_0, af_1, xt_goto, xt_ib, xt_ic, xt_ic_ge, xt_ic_lt, xt_ic_ne, xt_if_eq, xt_if_ne, xt_ir, xt_nop, mF_3 H, mF_6 H, mF_7 H, mF_8 H, mF_9 H, mA_63 H, mA_64 H, mA_65 H, mA_66 H, mA_67 H, mA_68 H, mA_69 H, mA_70 H, mA_71 H, xq_251_13_virtualm H, xq_252_13_virtualm H, iN_add, iN_mul, iN_sub, iN_and, iN_or, iN_clr, iN_shl, iN_shr, tb_r1, b1_z, b1_or, b1_and, b1_or0, b1_or1, b1_0or, b1_t, b1_f, iN_lt, iN_inj, reduceIte, if_true, if_false, Nat.zero_add, Nat.add_zero, Bool.false_eq_true, Bool.true_eq_false, Nat.lt_irrefl, iN_az, not_true_eq_false, not_false_eq_true, Nat.reduceEqDiff, Nat.reduceLT, Nat.reduceAdd, Nat.reduceMul, Nat.reduceSub]
    exact key
end Mdc
