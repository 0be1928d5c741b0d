/-! THE CLASS RuleSets: keepable, stubborn -/
/-- a teacher is not there on a day; or nobody is meant -/
def NB (σ : Nat → Nat → Nat) (t y : Nat) (s : Nat → Nat) : Prop := t = 4294967295 ∨ ∀ l, l < (σ 1 6) → σ 6 l = t → cov σ l (s l) &&& dm σ y = 0
/-- a set of rules can be kept -/
def KB (σ : Nat → Nat → Nat) (t y u : Nat) : Prop := ∃ s r, Gd σ u s r ∧ NB σ t y s
/-- what is left of a set that can't be kept, when the rules below k are tried from the last on -/
def ST (σ : Nat → Nat → Nat) (t y : Nat) : Nat → Nat → Nat → Prop
  | 0, u, v => v = u
  | k + 1, u, v => (KB σ t y (clr u (1 <<< k)) → ST σ t y k u v) ∧ (¬ KB σ t y (clr u (1 <<< k)) → ST σ t y k (clr u (1 <<< k)) v)
section Ra
variable {xs : List Int32} {σ M N : Nat → Nat → Nat} {R : ab_H} {d e l s r o u n t y v w k : Nat}
set_option maxRecDepth 100000 in
theorem ST_u (h : ST σ t y k u v) (h2 : ST σ t y k u w) : v = w := by
  induction k generalizing u with
  | zero => exact h.trans h2.symm
  | succ k ih =>
    by_cases hk : KB σ t y (clr u (1 <<< k))
    · exact ih (h.1 hk) (h2.1 hk)
    · exact ih (h.2 hk) (h2.2 hk)
set_option maxRecDepth 100000 in
theorem dm_b (O : Ok σ) {i : Nat} (h : (dm σ y).testBit i = true) (hy : y < (σ 1 0)) : i < (σ 1 2) := by
  obtain ⟨hD1, hD2, hH1, hH2, hS, hC, hT, hR, hL, hQ⟩ := Ok_b O
  unfold dm at h
  rw [Nat.testBit_shiftLeft, Bool.and_eq_true, decide_eq_true_eq, Nat.one_shiftLeft, Nat.testBit_two_pow_sub_one, decide_eq_true_eq] at h
  have : y * (σ 1 1) + (σ 1 1) ≤ (σ 1 0) * (σ 1 1) := by
    have := Nat.mul_le_mul_right (σ 1 1) (show y + 1 ≤ (σ 1 0) by omega)
    rw [Nat.add_mul, Nat.one_mul] at this
    exact this
  rcases hS with ⟨a, b⟩ | ⟨a, b⟩
  · rw [a] at this; omega
  · rw [a] at this; omega
-- the question, when a teacher is barred besides
set_option maxRecDepth 100000 in
theorem QW_bar (hW : QW σ N) {g : Nat → Nat} (hg : ∀ l, l < (σ 1 6) → ∀ i, (g l).testBit i = true → (N 20 l).testBit i = true) : QW σ (ur N 20 g) := by
  obtain ⟨w1, w2, w3, w4, w5, w6, w7, w8, w9, w10⟩ := hW
  refine ⟨fun l hl i hi => w1 l hl i (hg l hl i (by rw [ur_s] at hi; exact hi)), ?_, ?_, ?_, ?_, ?_, ?_, ?_, ?_, ?_⟩
  · rw [ur_n (by decide)]; exact w2
  · rw [ur_n (by decide)]; exact w3
  · rw [ur_n (by decide)]; exact w4
  · rw [ur_n (by decide)]; exact w5
  · rw [ur_n (by decide)]; exact w6
  · rw [ur_n (by decide)]; exact w7
  · rw [ur_n (by decide)]; exact w8
  · intro l hl
    have := w9 l hl
    unfold SC at this ⊢
    rw [ur_n (by decide), ur_n (by decide), ur_n (by decide)]
    exact this
  · rw [ur_n (by decide), ur_n (by decide)]; exact w10
set_option maxRecDepth 100000 in
theorem QA_bar (O : Ok σ) (hW : QW σ N) {g : Nat → Nat} {p n : Nat} (hg : ∀ l, l < (σ 1 6) → ∀ i, (g l).testBit i = ((N 20 l).testBit i && !(decide (σ 6 l = p) && (decide (i < (σ 1 2)) && decide (cov σ l i &&& n ≠ 0))))) (s r : Nat → Nat) : QA σ (ur N 20 g) s r ↔ QA σ N s r ∧ ∀ l, l < (σ 1 6) → σ 6 l = p → cov σ l (s l) &&& n = 0 := by
  have e : (∀ t, t < (σ 1 4) → DLm σ (ur N 20 g) t (ctc σ s t)) ↔ ∀ t, t < (σ 1 4) → DLm σ N t (ctc σ s t) := by
    unfold DLm
    rw [ur_n (by decide)]
  unfold QA
  rw [e, ur_s, ur_n (by decide), ur_n (by decide)]
  constructor
  · rintro ⟨h1, h2, h3⟩
    refine ⟨⟨fun l hl => ⟨?_, (h1 l hl).2⟩, h2, h3⟩, fun l hl ht => ?_⟩
    · have := (h1 l hl).1
      rw [hg l hl, Bool.and_eq_true] at this
      exact this.1
    · have h4 := (h1 l hl).1
      rw [hg l hl, Bool.and_eq_true] at h4
      have h5 := (hW.1 l hl _ h4.1).1
      have h6 := h4.2
      rw [decide_eq_true ht, decide_eq_true h5, Bool.true_and, Bool.true_and] at h6
      simpa using h6
  · rintro ⟨⟨h1, h2, h3⟩, h4⟩
    refine ⟨fun l hl => ⟨?_, (h1 l hl).2⟩, h2, h3⟩
    rw [hg l hl, (h1 l hl).1, Bool.true_and]
    by_cases ht : σ 6 l = p
    · have := h4 l hl ht
      simp [this]
    · simp [ht]
set_option maxRecDepth 100000 in
theorem KI_q (f : Fr FS N M) (h : ∀ j, M 32 j < 64) (hK : KI σ N) : KI σ M := ⟨by rw [f 1 rfl]; exact hK.1, by rw [f 19 rfl, f 1 rfl]; exact hK.2.1, fun z => GO_fr (f 24 rfl) (f 25 rfl) (f 19 rfl) (hK.2.2.1 (by rw [f 19 rfl, f 1 rfl] at z; exact z)), h⟩
set_option maxRecDepth 100000 in
theorem s_50 (O : Ok σ) (hI : KI σ M) (hu : u < 1024) (ht : t = 4294967295 ∨ (t < (σ 1 4) ∧ y < (σ 1 0))) : ∃ M', ∃ b : Bool, ev xs (e + 19) 50 0 ([.ref 40, .int (nI u), .int (nI t), .int (nI y)], [], hc σ M R) = some (.inl (some (.int (nI (b1 b)))), hc σ M' R) ∧ Fr QS M M' ∧ KI σ M' ∧ (b = true ↔ KB σ t y u) := by
  obtain ⟨hD1, hD2, hH1, hH2, hS, hC, hT, hR, hL, hQ⟩ := Ok_b O
  obtain ⟨N, e0, f1, f2, f3, f4, f5, f6, f7⟩ := ask_ok (xs := xs) (e := e + 14) (R := R) O hu hI
  have fin : ∀ N2, Fr QS M N2 → KI σ N2 → QW σ N2 → N2 19 10 = 0 → (∀ j, N2 26 j = 0) → (∀ s r, QA σ N2 s r ↔ Gd σ u s r ∧ NB σ t y s) → ∃ M', ∃ b : Bool, ev xs (e + 19) 50 4 ([.ref 40, .int (nI u), .int (nI t), .int (nI y)], [], hc σ N2 R) = some (.inl (some (.int (nI (b1 b)))), hc σ M' R) ∧ Fr QS M M' ∧ KI σ M' ∧ (b = true ↔ KB σ t y u) := by
    intro N2 g1 g2 g3 g4 g5 g6
    obtain ⟨M', v, e2, i1, i2, i3⟩ := s_74 (xs := xs) (e := e) (M := N2) (R := R) (most := 0) O g3 g2.2.2.2 (by decide) false
    rw [b1_f] at e2
    have fr : Fr QS M M' := Fr_t g1 (Fr_w i1 fun a ha => by simp at ha ⊢; omega)
    have ki := KI_q i1 i2 g2
    have hq0 := QC_0 (σ := σ) g4 g5
    rcases i3 with ⟨z1, z2, z3, z4, z5⟩ | ⟨z1, z2, z3, z4, z5, -⟩
    · refine ⟨M', false, ?_, fr, ki, ⟨fun h => (by cases h), fun ⟨s, r, h1, h2⟩ => ?_⟩⟩
      · subst z1
        rw [eb_50_4]
        simp (disch := first | assumption | omega | exact st8_a (Nat.le_of_ble_eq_true rfl)) only [e2, eb_50_0, eb_50_1, eb_50_2, eb_50_3, eb_50_4, eb_50_5, eb_50_6, eb_50_7, eb_50_8, xr_1, xr_10, xr_2, xr_27, xr_28, xr_3, xr_31, xr_37, xr_4, xr_5, xr_64, af_0, af_1, xt_goto, xt_ib, xt_ic, xt_ic_eq, xt_ir, xt_nop, gF_40_0, gF_40_2, gF_40_3, xq_26_3_virtualc, xq_38_3_virtualc, xq_60_6_virtualc, xq_74_7_virtualc, iN_add, iN_mul, iN_sub, iN_and, iN_or, iN_clr, iN_shl, iN_shr, tb_r1, b1_z, b1_or, b1_and, b1_or0, b1_or1, b1_0or, b1_t, b1_f, iN_lt, iN_inj, reduceIte, if_true, if_false, Nat.zero_add, Nat.add_zero, Bool.false_eq_true, Bool.true_eq_false, Nat.lt_irrefl, iN_az, not_true_eq_false, not_false_eq_true, Nat.reduceEqDiff, Nat.reduceLT, Nat.reduceAdd, Nat.reduceMul, Nat.reduceSub]
      · have := z5 s r ((g6 s r).mpr ⟨h1, h2⟩)
        rw [hq0] at this
        omega
    · refine ⟨M', true, ?_, fr, ki, ⟨fun _ => ⟨_, _, (g6 _ _).mp z2⟩, fun _ => rfl⟩⟩
      have hv : ¬ v = 4294967295 := by omega
      rw [eb_50_4]
      clear z2 g6
      simp (disch := first | assumption | omega | exact st8_a (Nat.le_of_ble_eq_true rfl)) only [e2, hv, eb_50_0, eb_50_1, eb_50_2, eb_50_3, eb_50_4, eb_50_5, eb_50_6, eb_50_7, eb_50_8, xr_1, xr_10, xr_2, xr_27, xr_28, xr_3, xr_31, xr_37, xr_4, xr_5, xr_64, af_0, af_1, xt_goto, xt_ib, xt_ic, xt_ic_eq, xt_ir, xt_nop, gF_40_0, gF_40_2, gF_40_3, xq_26_3_virtualc, xq_38_3_virtualc, xq_60_6_virtualc, xq_74_7_virtualc, iN_add, iN_mul, iN_sub, iN_and, iN_or, iN_clr, iN_shl, iN_shr, tb_r1, b1_z, b1_or, b1_and, b1_or0, b1_or1, b1_0or, b1_t, b1_f, iN_lt, iN_inj, reduceIte, if_true, if_false, Nat.zero_add, Nat.add_zero, Bool.false_eq_true, Bool.true_eq_false, Nat.lt_irrefl, iN_az, not_true_eq_false, not_false_eq_true, Nat.reduceEqDiff, Nat.reduceLT, Nat.reduceAdd, Nat.reduceMul, Nat.reduceSub]
  rcases ht with rfl | ⟨ht, hy⟩
  · obtain ⟨M', b, e1, q⟩ := fin N (Fr_w f1 fun a ha => by simp at ha ⊢; omega) f2 f3 f5 f6 fun s r => by rw [f4 s r]; exact ⟨fun h => ⟨h, Or.inl rfl⟩, fun h => h.1⟩
    refine ⟨M', b, ?_, q⟩
    clear q fin
    simp (disch := first | assumption | omega | exact st8_a (Nat.le_of_ble_eq_true rfl)) only [e0, eb_50_0, eb_50_1, xr_1, xr_10, xr_2, xr_27, xr_28, xr_3, xr_31, xr_37, xr_4, xr_5, xr_64, af_0, af_1, xt_goto, xt_ib, xt_ic, xt_ic_eq, xt_ir, xt_nop, gF_40_0, gF_40_2, gF_40_3, xq_26_3_virtualc, xq_38_3_virtualc, xq_60_6_virtualc, xq_74_7_virtualc, iN_add, iN_mul, iN_sub, iN_and, iN_or, iN_clr, iN_shl, iN_shr, tb_r1, b1_z, b1_or, b1_and, b1_or0, b1_or1, b1_0or, b1_t, b1_f, iN_lt, iN_inj, reduceIte, if_true, if_false, Nat.zero_add, Nat.add_zero, Bool.false_eq_true, Bool.true_eq_false, Nat.lt_irrefl, iN_az, not_true_eq_false, not_false_eq_true, Nat.reduceEqDiff, Nat.reduceLT, Nat.reduceAdd, Nat.reduceMul, Nat.reduceSub]
    exact e1
  · obtain ⟨g, e3, hg⟩ := s_38 (xs := xs) (d := e + 17) (M := N) (R := R) (u := t) (n := dm σ y) O (by omega) f3.2.2.2.2.1
    have hsub : ∀ l, l < (σ 1 6) → ∀ i, (g l).testBit i = true → (N 20 l).testBit i = true := fun l hl i hi => by
      rw [hg l hl, Bool.and_eq_true] at hi
      exact hi.1
    obtain ⟨M', b, e1, q⟩ := fin (ur N 20 g) (Fr_u (Fr_w f1 fun a ha => by simp at ha ⊢; omega) rfl) (KI_fr (M := N) (ur_n (by decide)) (ur_n (by decide)) (ur_n (by decide)) (ur_n (by decide)) (ur_n (by decide)) f2) (QW_bar f3 hsub) (by rw [ur_n (by decide)]; exact f5) (by rw [ur_n (by decide)]; exact f6) fun s r => by
      rw [QA_bar O f3 hg, f4 s r]
      exact and_congr_right fun _ => ⟨fun h => Or.inr h, fun h => h.resolve_left (by omega)⟩
    refine ⟨M', b, ?_, q⟩
    have e4 := s_60 (xs := xs) (d := e + 18) (M := N) (R := R) O hy
    have htn : ¬ t = 4294967295 := by omega
    clear q fin hg hsub
    simp (disch := first | assumption | omega | exact st8_a (Nat.le_of_ble_eq_true rfl)) only [e0, htn, e4, e3, eb_50_0, eb_50_1, eb_50_2, eb_50_3, xr_1, xr_10, xr_2, xr_27, xr_28, xr_3, xr_31, xr_37, xr_4, xr_5, xr_64, af_0, af_1, xt_goto, xt_ib, xt_ic, xt_ic_eq, xt_ir, xt_nop, gF_40_0, gF_40_2, gF_40_3, xq_26_3_virtualc, xq_38_3_virtualc, xq_60_6_virtualc, xq_74_7_virtualc, iN_add, iN_mul, iN_sub, iN_and, iN_or, iN_clr, iN_shl, iN_shr, tb_r1, b1_z, b1_or, b1_and, b1_or0, b1_or1, b1_0or, b1_t, b1_f, iN_lt, iN_inj, reduceIte, if_true, if_false, Nat.zero_add, Nat.add_zero, Bool.false_eq_true, Bool.true_eq_false, Nat.lt_irrefl, iN_az, not_true_eq_false, not_false_eq_true, Nat.reduceEqDiff, Nat.reduceLT, Nat.reduceAdd, Nat.reduceMul, Nat.reduceSub]
    exact e1
end Ra
