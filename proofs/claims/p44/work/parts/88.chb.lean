/-! A GOOD TIMETABLE'S VALUES ARE STABLE -/
def gx (s r : Nat → Nat) (l : Nat) : Nat := 1 <<< (s l * 3 + r l)
section Cb
variable {xs : List Int32} {σ M : Nat → Nat → Nat} {R : ab_H} {d l o u n i : Nat}
set_option maxRecDepth 100000 in
theorem pc_or {n a b : Nat} (h : a &&& b = 0) : pc n (a ||| b) = pc n a + pc n b := by
  rw [pc_sm, pc_sm, pc_sm, ← sm_add]
  refine sm_cg fun i _ => ?_
  have h1 : (a &&& b).testBit i = false := by rw [h, Nat.zero_testBit]
  rw [Nat.testBit_and] at h1
  rw [Nat.testBit_or]
  cases h2 : a.testBit i <;> cases h3 : b.testBit i <;> rw [h2, h3] at h1 <;> first | rfl | cases h1
set_option maxRecDepth 100000 in
theorem pc_orn {n m : Nat} {f : Nat → Nat} (h : ∀ i j, i < m → j < m → i ≠ j → f i &&& f j = 0) : pc n (orn m f) = sm m fun i => pc n (f i) := by
  induction m with
  | zero => exact pc_z n
  | succ m ih =>
    rw [orn, sm, ← ih fun i j hi hj => h i j (by omega) (by omega), pc_or]
    refine z_tb.mpr fun i => ?_
    rw [Nat.testBit_and]
    cases h1 : (orn m f).testBit i
    · rfl
    · obtain ⟨k, hk, h2⟩ := orn_tb.mp h1
      have h3 := h k m (by omega) (by omega) (by omega)
      have h4 : (f k &&& f m).testBit i = false := by rw [h3, Nat.zero_testBit]
      rw [Nat.testBit_and, h2] at h4
      exact h4
set_option maxRecDepth 100000 in
theorem cov_pc (O : Ok σ) (hl : l < (σ 1 6)) {s : Nat} (hs : s < (σ 1 2)) (h : sty σ l s = true) : pc 10 (cov σ l s) = σ 7 l := by
  obtain ⟨hD1, hD2, hH1, hH2, hS, hC, hT, hR, hL, hQ⟩ := Ok_b O
  obtain ⟨h1, h2, h3⟩ := Ok_l O hl
  unfold sty hou at h
  rw [Bool.or_eq_true, decide_eq_true_eq, decide_eq_true_eq] at h
  unfold cov
  have h4 : s = 0 ∨ s = 1 ∨ s = 2 ∨ s = 3 ∨ s = 4 ∨ s = 5 := by omega
  by_cases h5 : σ 7 l = 2
  · have h6 : s + 1 < (σ 1 2) := by
      rcases h with h | h
      · omega
      · split at h <;> omega
    rw [if_pos ⟨h5, h6⟩, h5]
    rcases h4 with rfl | rfl | rfl | rfl | rfl | rfl <;> decide
  · rw [if_neg (fun z => h5 z.1), show σ 7 l = 1 by omega]
    rcases h4 with rfl | rfl | rfl | rfl | rfl | rfl <;> decide
set_option maxRecDepth 100000 in
theorem gx_tb {s r : Nat → Nat} : (gx s r l).testBit i = true ↔ i = s l * 3 + r l := by
  unfold gx
  rw [tb_1s, decide_eq_true_eq]
set_option maxRecDepth 100000 in
theorem gx_sl {s r : Nat → Nat} (hr : r l < 3) {k : Nat} : gx s r l &&& sl7 k ≠ 0 ↔ k = s l := by
  rw [Ne, sl7_z, sh7_z]
  constructor
  · intro h
    refine Classical.byContradiction fun hk => h fun j hj => ?_
    rw [← Bool.not_eq_true, gx_tb]
    omega
  · rintro rfl h
    have := h (r l) hr
    rw [← Bool.not_eq_true, gx_tb] at this
    exact this rfl
set_option maxRecDepth 100000 in
theorem gx_cl (O : Ok σ) {s r : Nat → Nat} (hs : s l < (σ 1 2)) (hr : r l < (σ 1 5)) : cl σ (gx s r) l = cov σ l (s l) := by
  obtain ⟨hD1, hD2, hH1, hH2, hS, hC, hT, hR, hL, hQ⟩ := Ok_b O
  refine Nat.eq_of_testBit_eq fun i => ?_
  rw [Bool.eq_iff_iff, cl_tb]
  constructor
  · rintro ⟨k, hk, h1, h2⟩
    rw [gx_sl (by omega)] at h1
    rw [← h1]
    exact h2
  · intro h
    exact ⟨s l, hs, (gx_sl (by omega)).mpr rfl, h⟩
set_option maxRecDepth 100000 in
theorem grp_dis (O : Ok σ) {s r : Nat → Nat} (hG : flt σ s r = 0) {p : Nat} (hp : p = 5 ∨ p = 6) (hl : l < (σ 1 6)) (ho : o < (σ 1 6)) (hne : l ≠ o) (h1 : (grp σ p u).testBit l = true) (h2 : (grp σ p u).testBit o = true) : cov σ l (s l) &&& cov σ o (s o) = 0 := by
  have h3 := ((pf_0 s r l o).mp (((flt_0 s r).mp hG).2 l o hl ho hne)).1
  unfold grp at h1 h2
  rw [en_tb, Bool.and_eq_true, decide_eq_true_eq, decide_eq_true_eq] at h1 h2
  rcases h3 with ⟨h4, h5⟩ | h3
  · unfold sc at h4
    unfold stc at h5
    rw [decide_eq_false_iff_not] at h4 h5
    rcases hp with rfl | rfl
    · exact absurd (h1.2.trans h2.2.symm) h4
    · exact absurd (h1.2.trans h2.2.symm) h5
  · exact h3
-- the values of a good timetable are stable, so none of them is narrowed away
set_option maxRecDepth 100000 in
theorem good_SS (O : Ok σ) (hI : KI σ M) {s r : Nat → Nat} (hG : Gd σ (alr σ) s r) : SS σ (gx s r) := by
  obtain ⟨hD1, hD2, hH1, hH2, hS, hC, hT, hR, hL, hQ⟩ := Ok_b O
  obtain ⟨N, -, -, -, -, hqa, -, -, hA⟩ := ask_ok (xs := []) (e := 0) (R := []) O (alr_lt O) hI
  have hq := (hqa s r).mpr hG
  obtain ⟨q1, q2, -⟩ := hq
  obtain ⟨a1, a2, a3, -⟩ := hA
  have hb : ∀ l, l < (σ 1 6) → s l < (σ 1 2) ∧ r l < (σ 1 5) := hG.1
  refine ⟨?_, ?_, ?_⟩
  · intro l hl i hi
    rw [gx_tb] at hi
    exact ⟨s l, r l, hi, (hb l hl).1, (hb l hl).2, (a1 l hl _ (q1 l hl).1).2, ((a2 l hl _).mp (q1 l hl).2).2⟩
  · intro l hl s' hs' r' hr' hi o ho hne
    rw [gx_tb] at hi
    have hr3 := (hb l hl).2
    obtain ⟨e1, e2⟩ : s' = s l ∧ r' = r l := by omega
    subst e1 e2
    have h3 := q2 l o hl ho (Ne.symm hne)
    have h4 := (a3 l (s l) o (s o) hl ho (Ne.symm hne) (hb l hl).1).mp h3.1
    exact ⟨s o, (hb o ho).1, h4.2.1, r o, by have := (hb o ho).2; omega, gx_tb.mpr rfl, fun hc e => h3.2 hc e.symm⟩
  · intro p hp u hu v hv
    have hin : ∀ i, v.testBit i = true → (grp σ p u).testBit i = true := fun i hi => by
      have h1 := z_tb.mp hv i
      rw [clr_tb, hi] at h1
      cases h2 : (grp σ p u).testBit i
      · rw [h2] at h1; cases h1
      · rfl
    have hcst : cst σ (cl σ (gx s r)) v = orn (σ 1 6) fun l => if v.testBit l = true then cov σ l (s l) else 0 := by
      unfold cst
      refine orn_cg fun i hi => ?_
      rw [gx_cl O (hb i hi).1 (hb i hi).2]
    have hpc : pc 10 (cst σ (cl σ (gx s r)) v) = lns σ v := by
      rw [hcst, pc_orn]
      · unfold lns
        refine sm_cg fun i hi => ?_
        split
        · exact cov_pc O hi (hb i hi).1 (((flt_0 s r).mp hG.2.1).1 i hi).1
        · exact pc_z 10
      · intro i j hi hj hne
        split
        · rename_i h1
          split
          · rename_i h2
            exact grp_dis O hG.2.1 hp hi hj hne (hin i h1) (hin j h2)
          · exact Nat.and_zero _
        · exact Nat.zero_and _
    refine .inr ⟨by omega, fun _ l hl hgl k hk hkl => ?_⟩
    rw [gx_sl (by have := (hb l hl).2; omega)] at hkl
    subst hkl
    rw [clr_tb, Bool.and_eq_true, Bool.not_eq_true'] at hgl
    rw [hcst]
    refine z_tb.mpr fun i => ?_
    rw [← Bool.not_eq_true, Nat.testBit_and, Bool.and_eq_true]
    rintro ⟨h1, h2⟩
    obtain ⟨o, ho, h3⟩ := orn_tb.mp h2
    by_cases h4 : v.testBit o = true
    · rw [if_pos h4] at h3
      have hlo : l ≠ o := by
        rintro rfl
        rw [h4] at hgl
        exact absurd hgl.2 (by decide)
      have h5 := grp_dis O hG.2.1 hp hl ho hlo hgl.1 (hin o h4)
      have h6 := z_tb.mp h5 i
      rw [Nat.testBit_and, h1, h3] at h6
      cases h6
    · rw [if_neg h4, Nat.zero_testBit] at h3
      cases h3
end Cb
