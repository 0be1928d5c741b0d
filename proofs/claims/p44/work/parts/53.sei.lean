/-! THE CLASS Search: cheapest, restrict; what ask leaves is a question; good timetables -/
abbrev QS : List Nat := [19, 20, 21, 22, 23, 24, 25, 26, 27, 28, 29, 30, 31, 32, 33, 34, 35, 36]
section Sk
variable {xs : List Int32} {σ M N N2 M' : Nat → Nat → Nat} {R : ab_H} {e k set : Nat}
-- cheapest: the smallest of the timetables that cost the least
set_option maxRecDepth 100000 in
theorem s_75 (O : Ok σ) (hW : QW σ M) (hdb : ∀ j, M 32 j < 64) (hub : ∀ s r, QA σ M s r → QC σ M s r ≤ 100000) : ∃ M', ∃ v, ev xs (e + 21) 75 0 ([.ref 28, .retAddr 9], [], hc σ M R) = some (.inl (some (.int (nI (v)))), hc σ M' R) ∧ Fr LSS M M' ∧ (∀ j, M' 32 j < 64) ∧ ((v = 4294967295 ∧ M' 29 = M 29 ∧ M' 30 = M 30 ∧ M' 31 = M 31 ∧ ∀ s r, ¬ QA σ M s r) ∨ (v ≤ 100000 ∧ QA σ M (M' 30) (M' 31) ∧ QC σ M (M' 30) (M' 31) = v ∧ M' 29 0 = 1 ∧ M' 29 1 = (σ 1 6) ∧ (∀ s r, QA σ M s r → v ≤ QC σ M s r) ∧ ∀ s r, QA σ M s r → QC σ M s r = v → ¬ LX (σ 1 6) s r (M' 30) (M' 31))) := by
  obtain ⟨hD1, hD2, hH1, hH2, hS, hC, hT, hR, hL, hQ⟩ := Ok_b O
  obtain ⟨N, v, e1, g1, g2, g3⟩ := s_74 (xs := xs) (e := e + 2) (M := M) (R := R) O hW hdb (Nat.le_refl 100000) true
  have w1 : ∀ {K : Nat → Nat → Nat}, Fr FS M K → Fr LSS M K := fun h => Fr_w h fun a ha => by simp at ha ⊢; omega
  rcases g3 with ⟨z1, z2, z3, z4, z5⟩ | ⟨z1, z2, z3, z4, z5, z6⟩
  · subst z1
    refine ⟨N, 4294967295, ?_, w1 g1, g2, .inl ⟨rfl, z2, z3, z4, fun s r hq => ?_⟩⟩
    · simp (disch := first | assumption | omega | exact st8_a (Nat.le_of_ble_eq_true rfl)) only [show nI 1 = nI (b1 true) from rfl, e1, eb_75_0, eb_75_1, eb_75_2, eb_75_3, kl_a, kl_d, kl_f, kl_i, kl_l, kl_n, kl_r, xr_1, xr_2, xr_27, xr_28, xr_29, xr_3, xr_4, xr_5, xr_64, xr_89, af_0, af_1, xt_ib, xt_ic, xt_ic_eq, xt_ir, xq_74_7_virtualc, xq_79_7_virtualc, iN_add, iN_mul, iN_sub, iN_and, iN_or, iN_clr, iN_shl, iN_shr, tb_r1, b1_z, b1_or, b1_and, b1_or0, b1_or1, b1_0or, b1_f, iN_lt, iN_inj, reduceIte, if_true, if_false, Nat.zero_add, Nat.add_zero, Bool.false_eq_true, Bool.true_eq_false, Nat.lt_irrefl, iN_az, not_true_eq_false, not_false_eq_true, Nat.reduceEqDiff, Nat.reduceLT, Nat.reduceAdd, Nat.reduceMul, Nat.reduceSub]
    · have := z5 s r hq
      have := hub s r hq
      omega
  · have hWN : QW σ N := by rw [QW_fr g1]; exact hW
    obtain ⟨M', e2, h1, h2, h3, h4, h5, h6, h7⟩ := s_79 (xs := xs) (e := e) (M := N) (R := R) (most := v) O hWN g2 z1 z4 z5 (by rw [QA_fr g1]; exact z2) (by rw [QC_fr g1, z3]; exact Nat.le_refl _)
    rw [QA_fr g1] at h5 h7
    rw [QC_fr g1] at h6 h7
    have z6 := z6 rfl
    have hv : ¬ v = 4294967295 := by omega
    refine ⟨M', v, ?_, Fr_t (w1 g1) h1, h2, .inr ⟨z1, h5, ?_, h3, h4, z6, fun s r hq hc => h7 s r hq (by omega)⟩⟩
    · simp (disch := first | assumption | omega | exact st8_a (Nat.le_of_ble_eq_true rfl)) only [show nI 1 = nI (b1 true) from rfl, e1, hv, e2, eb_75_0, eb_75_1, eb_75_2, eb_75_3, kl_a, kl_d, kl_f, kl_i, kl_l, kl_n, kl_r, xr_1, xr_2, xr_27, xr_28, xr_29, xr_3, xr_4, xr_5, xr_64, xr_89, af_0, af_1, xt_ib, xt_ic, xt_ic_eq, xt_ir, xq_74_7_virtualc, xq_79_7_virtualc, iN_add, iN_mul, iN_sub, iN_and, iN_or, iN_clr, iN_shl, iN_shr, tb_r1, b1_z, b1_or, b1_and, b1_or0, b1_or1, b1_0or, b1_f, iN_lt, iN_inj, reduceIte, if_true, if_false, Nat.zero_add, Nat.add_zero, Bool.false_eq_true, Bool.true_eq_false, Nat.lt_irrefl, iN_az, not_true_eq_false, not_false_eq_true, Nat.reduceEqDiff, Nat.reduceLT, Nat.reduceAdd, Nat.reduceMul, Nat.reduceSub]
    · have := z6 _ _ h5
      omega
/-- a timetable is within the grid and the rooms, keeps the ground rules and the told rules of the set -/
def Gd (σ : Nat → Nat → Nat) (set : Nat) (s r : Nat → Nat) : Prop := (∀ l, l < (σ 1 6) → s l < (σ 1 2) ∧ r l < (σ 1 5)) ∧ flt σ s r = 0 ∧ ∀ q, q < (σ 1 7) → set.testBit q = true → kpq σ s r q = true
set_option maxRecDepth 100000 in
theorem AskQ_W (O : Ok σ) (hA : AskQ σ set M) (h9 : M 19 9 = lh σ) (h10 : M 19 10 = 0) (h26 : ∀ j, M 26 j = 0) (h27 : ∀ j, M 27 j = 0) : QW σ M := by
  obtain ⟨hD1, hD2, hH1, hH2, hS, hC, hT, hR, hL, hQ⟩ := Ok_b O
  obtain ⟨a1, a2, a3, a4, a5, a6⟩ := hA
  refine ⟨fun l hl i hi => ⟨(a1 l hl i hi).1, (a1 l hl i hi).2.1⟩, fun l hl i hi => ((a2 l hl i).mp hi).1, fun l s o i hl ho hlo hs h => ?_, fun t ht => (a4 t ht).2.1, a5, h9, by omega, fun j => by rw [h26 j]; decide, fun l hl s hs => ⟨by rw [h27]; decide, fun r hr _ => by rw [h27]; exact Nat.zero_le _⟩, fun _ => h26⟩
  obtain ⟨b1', b2, b3⟩ := (a3 l s o i hl ho hlo hs).mp h
  refine ⟨b1', ?_, fun hst => ?_⟩
  · rw [a3 o i l s ho hl (fun z => hlo z.symm) b1']
    refine ⟨hs, ⟨?_, fun q hq hqs h2 h5 => ?_⟩, fun ⟨z1, z2⟩ => b3 ⟨kr_s.mp z1, by rw [Nat.and_comm]; exact z2⟩⟩
    · rcases b2.1 with ⟨c1, c2⟩ | c
      · left
        unfold sc at c1 ⊢
        unfold stc at c2 ⊢
        exact ⟨decide_eq_false fun z => of_decide_eq_false c1 z.symm, decide_eq_false fun z => of_decide_eq_false c2 z.symm⟩
      · right
        rw [Nat.and_comm]
        exact c
    · obtain ⟨c1, c2⟩ := b2.2 q hq hqs h2 h5
      exact ⟨c2, c1⟩
  · rcases b2.1 with ⟨c1, c2⟩ | c
    · rw [hst] at c2
      cases c2
    · exact c
set_option maxRecDepth 100000 in
theorem pf_0 (s r : Nat → Nat) (l o : Nat) : pf σ s r l o = 0 ↔ ((sc σ l o = false ∧ stc σ l o = false) ∨ cov σ l (s l) &&& cov σ o (s o) = 0) ∧ (cov σ l (s l) &&& cov σ o (s o) ≠ 0 → r l ≠ r o) := by
  unfold pf
  split
  · rename_i h
    simp [h]
  · rename_i h
    cases sc σ l o <;> cases stc σ l o <;> by_cases h2 : r l = r o <;> simp [b1, h, h2]
set_option maxRecDepth 100000 in
theorem pf_c (s r : Nat → Nat) (l o : Nat) : pf σ s r l o = pf σ s r o l := by
  unfold pf sc stc
  rw [Nat.and_comm]
  split
  · rfl
  · congr 1
    · congr 1
      · congr 1
        exact decide_eq_decide.mpr ⟨fun h => h.symm, fun h => h.symm⟩
      · congr 1
        exact decide_eq_decide.mpr ⟨fun h => h.symm, fun h => h.symm⟩
    · congr 1
      exact decide_eq_decide.mpr ⟨fun h => h.symm, fun h => h.symm⟩
set_option maxRecDepth 100000 in
theorem flt_0 (s r : Nat → Nat) : flt σ s r = 0 ↔ (∀ l, l < (σ 1 6) → sty σ l (s l) = true ∧ sts σ l (r l) = true) ∧ ∀ l o, l < (σ 1 6) → o < (σ 1 6) → l ≠ o → pf σ s r l o = 0 := by
  unfold flt
  rw [sm_z]
  constructor
  · intro h
    have h1 : ∀ l o, l < (σ 1 6) → o < l → pf σ s r l o = 0 := fun l o hl ho => by
      have := h l hl
      have h0 : (sm l fun o => pf σ s r l o) = 0 := by omega
      exact sm_z.mp h0 o ho
    refine ⟨fun l hl => ?_, fun l o hl ho hlo => ?_⟩
    · have := h l hl
      cases h2 : sty σ l (s l)
      · rw [h2] at this; simp [b1] at this
      · cases h3 : sts σ l (r l)
        · rw [h3] at this; simp [b1] at this
        · exact ⟨rfl, rfl⟩
    · by_cases h2 : o < l
      · exact h1 l o hl h2
      · rw [pf_c]
        exact h1 o l ho (by omega)
  · rintro ⟨h1, h2⟩ l hl
    rw [(h1 l hl).1, (h1 l hl).2, sm_z.mpr fun o ho => h2 l o hl (by omega) (by omega)]
    rfl
set_option maxRecDepth 100000 in
theorem dq_le {t x : Nat} (h : dq σ set (σ 1 7) t x) (n : Nat) : n ≤ x ↔ n ≤ 3 ∧ ∀ q, q < (σ 1 7) → set.testBit q = true → σ 8 q = 1 → σ 9 q = t → n ≤ σ 10 q := by
  obtain ⟨h1, h2, h3⟩ := h
  constructor
  · intro hn
    exact ⟨by omega, fun q a b c d => Nat.le_trans hn (h1 q a b c d)⟩
  · rintro ⟨h4, h5⟩
    rcases h3 with h3 | ⟨q, a, b, c, d, e⟩
    · omega
    · rw [e]
      exact h5 q a b c d
-- what ask asks for are the good timetables
set_option maxRecDepth 100000 in
theorem QA_Gd (O : Ok σ) (hA : AskQ σ set M) (s r : Nat → Nat) : QA σ M s r ↔ Gd σ set s r := by
  obtain ⟨hD1, hD2, hH1, hH2, hS, hC, hT, hR, hL, hQ⟩ := Ok_b O
  obtain ⟨a1, a2, a3, a4, a5, a6⟩ := hA
  have hdl : ∀ t, t < (σ 1 4) → (∀ l, l < (σ 1 6) → s l < (σ 1 2)) → (DLm σ M t (ctc σ s t) ↔ ∀ q, q < (σ 1 7) → set.testBit q = true → σ 8 q = 1 → σ 9 q = t → lgd σ s t ≤ σ 10 q) := by
    intro t ht hs
    unfold DLm lgd
    constructor
    · intro h q x1 x2 x3 x4
      rw [mxn_le]
      intro y hy
      exact ((dq_le (a4 t ht) _).mp (h y hy)).2 q x1 x2 x3 x4
    · intro h y hy
      refine (dq_le (a4 t ht) _).mpr ⟨Nat.le_trans (pc_dm O _ hy) (by omega), fun q x1 x2 x3 x4 => ?_⟩
      exact mxn_le.mp (h q x1 x2 x3 x4) y hy
  constructor
  · rintro ⟨b1', b2, b3⟩
    have hs : ∀ l, l < (σ 1 6) → s l < (σ 1 2) ∧ s0 σ set (σ 1 7) l (s l) := fun l hl => a1 l hl _ (b1' l hl).1
    have hr : ∀ l, l < (σ 1 6) → r l < (σ 1 5) ∧ r0 σ set (σ 1 7) l (r l) := fun l hl => (a2 l hl _).mp (b1' l hl).2
    have hf : ∀ l o, l < (σ 1 6) → o < (σ 1 6) → l ≠ o → f0 σ set (σ 1 7) l (s l) o (s o) := fun l o hl ho hlo => ((a3 l _ o _ hl ho hlo (hs l hl).1).mp (b2 l o hl ho hlo).1).2.1
    refine ⟨fun l hl => ⟨(hs l hl).1, (hr l hl).1⟩, (flt_0 s r).mpr ⟨fun l hl => ⟨(hs l hl).2.1, (hr l hl).2.1⟩, fun l o hl ho hlo => (pf_0 s r l o).mpr ⟨(hf l o hl ho hlo).1, (b2 l o hl ho hlo).2⟩⟩, fun q hq hqs => ?_⟩
    unfold kpq
    rcases rk_c O hq with h | h | h | h | h
    · obtain ⟨ha, hb⟩ := rk_0 O hq h
      rw [if_pos h, ((hs _ ha).2.2 q hq hqs).1 h rfl]
      rfl
    · obtain ⟨ha, hb⟩ := rk_1 O hq h
      rw [if_neg (by omega), if_pos h]
      exact decide_eq_true ((hdl _ ha fun l hl => (hs l hl).1).mp (b3 _ ha) q hq hqs h rfl)
    · obtain ⟨ha, hb⟩ := rk_6 O hq h
      rw [if_neg (by omega), if_neg (by omega), if_pos h]
      exact decide_eq_true ((hr _ ha).2.2 q hq hqs h rfl)
    · obtain ⟨ha, hb⟩ := rk_7 O hq h
      rw [if_neg (by omega), if_neg (by omega), if_neg (by omega), if_pos h, Bool.not_eq_true', ← Bool.not_eq_true]
      intro hh
      obtain ⟨l, hl, w1, w2⟩ := ctc_tb.mp hh
      rw [((hs l hl).2.2 q hq hqs).2 h w1.symm] at w2
      cases w2
    · obtain ⟨ha, hb, hne⟩ := rk_2 O hq h
      rw [if_neg (by omega), if_neg (by omega), if_neg (by omega), if_neg (by omega)]
      exact ((hf _ _ ha hb hne).2 q hq hqs (by omega) (by omega)).1 rfl rfl
  · rintro ⟨b1', b2, b3⟩
    obtain ⟨c1, c2⟩ := (flt_0 s r).mp b2
    have hs0 : ∀ l, l < (σ 1 6) → s0 σ set (σ 1 7) l (s l) := fun l hl => ⟨(c1 l hl).1, fun q hq hqs => by
      have h3 := b3 q hq hqs
      unfold kpq at h3
      refine ⟨fun h ha => ?_, fun h ha => ?_⟩
      · rw [if_pos h, ha] at h3
        simpa using h3
      · rw [if_neg (by omega), if_neg (by omega), if_neg (by omega), if_pos h, Bool.not_eq_true', ← Bool.not_eq_true] at h3
        rw [← Bool.not_eq_true]
        intro hh
        exact h3 (ctc_tb.mpr ⟨l, hl, ha.symm, hh⟩)⟩
    have hr0 : ∀ l, l < (σ 1 6) → r0 σ set (σ 1 7) l (r l) := fun l hl => ⟨(c1 l hl).2, fun q hq hqs h ha => by
      have h3 := b3 q hq hqs
      unfold kpq at h3
      rw [if_neg (by omega), if_neg (by omega), if_pos h, ha] at h3
      exact of_decide_eq_true h3⟩
    have hf0 : ∀ l o, l < (σ 1 6) → o < (σ 1 6) → l ≠ o → f0 σ set (σ 1 7) l (s l) o (s o) := fun l o hl ho hlo => ⟨((pf_0 s r l o).mp (c2 l o hl ho hlo)).1, fun q hq hqs h2 h5 => by
      have h3 := b3 q hq hqs
      unfold kpq at h3
      rw [if_neg (by omega), if_neg (by omega), if_neg (by omega), if_neg (by omega)] at h3
      exact ⟨fun x y => by rw [x, y] at h3; exact h3, fun x y => by rw [x, y] at h3; exact h3⟩⟩
    have hbit : ∀ l, l < (σ 1 6) → (M 21 l).testBit (r l) = true := fun l hl => (a2 l hl _).mpr ⟨(b1' l hl).2, hr0 l hl⟩
    have hroom : ∀ l o, l < (σ 1 6) → o < (σ 1 6) → l ≠ o → (cov σ l (s l) &&& cov σ o (s o) ≠ 0 → r l ≠ r o) := fun l o hl ho hlo => ((pf_0 s r l o).mp (c2 l o hl ho hlo)).2
    have hfb : ∀ l o, l < (σ 1 6) → o < (σ 1 6) → l ≠ o → fb (M 23) l (s l) o (s o) = true := fun l o hl ho hlo => (a3 l _ o _ hl ho hlo (b1' l hl).1).mpr ⟨(b1' o ho).1, hf0 l o hl ho hlo, fun ⟨⟨z1, z2⟩, z3⟩ => by
      refine hroom l o hl ho hlo z3 ?_
      have y1 := hbit l hl
      have y2 := hbit o ho
      rw [← z1] at y2
      have h8 : M 21 l < 8 := by
        have h1 := mask_lt (n := (σ 1 5)) fun i hi => ((a2 l hl i).mp hi).1
        have h2 : 2 ^ (σ 1 5) ≤ 2 ^ 3 := Nat.pow_le_pow_right (by decide) (by omega)
        omega
      have x1 := (b1' l hl).2
      have x2 := (b1' o ho).2
      have hd : ∀ a, a < 8 → ∀ i, i < 3 → ∀ j, j < 3 → (pc 10 a = 1 ∧ a.testBit i = true ∧ a.testBit j = true → i = j) := by decide +kernel
      exact hd _ h8 _ (by omega) _ (by omega) ⟨z2, y1, y2⟩⟩
    refine ⟨fun l hl => ⟨?_, hbit l hl⟩, fun l o hl ho hlo => ⟨hfb l o hl ho hlo, hroom l o hl ho hlo⟩, fun t ht => (hdl t ht fun l hl => (b1' l hl).1).mpr fun q hq hqs h ha => ?_⟩
    · exact a6 (fun l a b => a = s l ∧ b = r l) (fun l hl a b ⟨ea, eb⟩ => by
        subst ea
        exact ⟨(b1' l hl).1, fun o ho hol => ⟨s o, r o, ⟨rfl, rfl⟩, hfb l o hl ho fun z => hol z.symm⟩⟩) (fun l hl a b ⟨ea, _⟩ => by rw [ea]; exact hs0 l hl) l hl _ _ ⟨rfl, rfl⟩
    · have h3 := b3 q hq hqs
      unfold kpq at h3
      rw [if_neg (by omega), if_pos h, ha] at h3
      exact of_decide_eq_true h3
end Sk
