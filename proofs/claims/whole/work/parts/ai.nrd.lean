/-! THE MODEL: narrowed -/
section Nrd
variable {xs : List Int32} {d n m : Nat} {h0 T : ab_H} {σ W N K : Nat → Nat → Nat} {μ : Nat → Nat} {ν : Nat → Value} {β : Value} {a b u k v w x y q set l i t o s r g : Nat} {X Y Z : Nat → Nat}
set_option maxRecDepth 100000 in
theorem Cv_cg (h : Z l = Y l) : Cv σ Z l = Cv σ Y l := by
  unfold Cv
  rw [h]
set_option maxRecDepth 100000 in
theorem SS_cg (h : ∀ l, l < (σ 1 6) → Z l = Y l) (hh : SS σ Z) : SS σ Y := by
  obtain ⟨h1, h2, h3⟩ := hh
  refine ⟨fun l hl i hi => h1 l hl i (by rw [h l hl]; exact hi), fun l hl s hs r hr hx o ho hne => ?_, CR_cg h h3⟩
  obtain ⟨i, q1, q2, r2, q3, q4, q5⟩ := h2 l hl s hs r hr (by rw [h l hl]; exact hx) o ho hne
  exact ⟨i, q1, q2, r2, q3, by rw [← h o ho]; exact q4, q5⟩
-- what a lesson's values must keep alone, in both forms
set_option maxRecDepth 100000 in
theorem okw_sr (O : Ok σ) (hl : l < (σ 1 6)) (hv : v < (σ 1 2) * (σ 1 5)) : okw σ (alr σ) (σ 1 7) 4294967295 0 l v ↔ s0 σ (alr σ) (σ 1 7) l (v / (σ 1 5)) ∧ r0 σ (alr σ) (σ 1 7) l (v % (σ 1 5)) := by
  obtain ⟨hD1, hD2, hH1, hH2, hS, hC, hT, hR, hL, hQ⟩ := Ok_b O
  have ht := (Ok_l O hl).2.1
  constructor
  · rintro ⟨⟨-, h1, h2, -⟩, h3⟩
    refine ⟨⟨h1, fun q hq hs => ⟨fun e1 e2 => ?_, fun e1 e2 => ?_⟩⟩, h2, fun q hq hs e1 e2 => ?_⟩
    · have := h3 q hq hs
      unfold ka at this
      rw [if_pos e1, decide_eq_false (fun z => z e2), Bool.false_or] at this
      simpa using this
    · have := h3 q hq hs
      unfold ka at this
      rw [if_neg (by omega), if_neg (by omega), if_pos e1, decide_eq_false (fun z => z e2), Bool.false_or] at this
      simpa using this
    · have := h3 q hq hs
      unfold ka at this
      rw [if_neg (by omega), if_pos e1, decide_eq_false (fun z => z e2), Bool.false_or, decide_eq_true_eq] at this
      exact this
  · rintro ⟨⟨h1, h2⟩, h3, h4⟩
    refine ⟨⟨hv, h1, h3, fun z => by omega⟩, fun q hq hs => ?_⟩
    unfold ka
    by_cases e0 : σ 8 q = 0
    · rw [if_pos e0]
      by_cases e : σ 9 q = l
      · rw [((h2 q hq hs).1 e0 e)]
        simp
      · rw [decide_eq_true e, Bool.true_or]
    · rw [if_neg e0]
      by_cases e6 : σ 8 q = 6
      · rw [if_pos e6]
        by_cases e : σ 9 q = l
        · rw [decide_eq_true (h4 q hq hs e6 e), Bool.or_true]
        · rw [decide_eq_true e, Bool.true_or]
      · rw [if_neg e6]
        by_cases e7 : σ 8 q = 7
        · rw [if_pos e7]
          by_cases e : σ 9 q = σ 6 l
          · rw [((h2 q hq hs).2 e7 e)]
            simp
          · rw [decide_eq_true e, Bool.true_or]
        · rw [if_neg e7]
set_option maxRecDepth 100000 in
theorem TS_W7 (O : Ok σ) (hWT : WT σ (alr σ) (σ 1 7) 4294967295 0 W) (hX : TS σ X) : Su σ X (W 7) := fun l hl v hv => by
  have hvb := hX.2 l hl v hv
  obtain ⟨s, r, e1, e2, e3, e4, e5⟩ := hX.1.1 l hl _ ((Cv_v O hvb).mpr hv)
  have h6 := vb O hvb
  obtain ⟨hD1, hD2, hH1, hH2, hS, hC, hT, hR, hL, hQ⟩ := Ok_b O
  have es : s = v / (σ 1 5) := by omega
  have er : r = v % (σ 1 5) := by omega
  rw [es] at e4
  rw [er] at e5
  exact (hWT.1 l hl v).mpr ((okw_sr O hl hvb).mpr ⟨e4, e5⟩)
set_option maxRecDepth 100000 in
theorem SS_C (O : Ok σ) (hWT : WT σ (alr σ) (σ 1 7) 4294967295 0 W) (h1 : Su σ Y (W 7)) (h2 : PT σ Y) (h3 : CR σ (Cv σ Y)) : SS σ (Cv σ Y) := by
  obtain ⟨hD1, hD2, hH1, hH2, hS, hC, hT, hR, hL, hQ⟩ := Ok_b O
  have hb : ∀ l, l < (σ 1 6) → ∀ v, (Y l).testBit v = true → v < (σ 1 2) * (σ 1 5) := fun l hl v hv => ((hWT.1 l hl v).mp (h1 l hl v hv)).1.1
  refine ⟨fun l hl i hi => ?_, fun l hl s hs r hr hx o ho hne => ?_, h3⟩
  · obtain ⟨-, h6, h7⟩ := Cv_tb.mp hi
    have hv := hb l hl _ h7
    have hd : (i / 3 * (σ 1 5) + i % 3) / (σ 1 5) = i / 3 := by rw [Nat.mul_comm, Nat.mul_add_div (by omega), Nat.div_eq_of_lt h6, Nat.add_zero]
    have hm : (i / 3 * (σ 1 5) + i % 3) % (σ 1 5) = i % 3 := by rw [Nat.mul_comm, Nat.mul_add_mod, Nat.mod_eq_of_lt h6]
    have h8 := (okw_sr O hl hv).mp ((hWT.1 l hl _).mp (h1 l hl _ h7))
    have h9 := vb O hv
    rw [hd, hm] at h8
    rw [hd] at h9
    exact ⟨i / 3, i % 3, by omega, h9.2.1, h6, h8.1, h8.2⟩
  · have hx2 := (Cv_b O hs hr).mp hx
    have hv := hb l hl _ hx2
    obtain ⟨w, w1, w2⟩ := h2 l hl _ hv hx2 o ho hne
    have hw := hb o ho w w1
    have hd : (s * (σ 1 5) + r) / (σ 1 5) = s := by rw [Nat.mul_comm, Nat.mul_add_div (by omega), Nat.div_eq_of_lt hr, Nat.add_zero]
    have hm : (s * (σ 1 5) + r) % (σ 1 5) = r := by rw [Nat.mul_comm, Nat.mul_add_mod, Nat.mod_eq_of_lt hr]
    have h4 := (f0_okp O hv hw).mp w2
    rw [hd, hm] at h4
    have h9 := vb O hw
    exact ⟨w / (σ 1 5), h9.2.1, h4.1, w % (σ 1 5), by omega, (Cv_v O hw).mpr w1, fun z => (h4.2 z).symm⟩
/-- a family in the model's order -/
def Dv (σ : Nat → Nat → Nat) (X : Nat → Nat) (l : Nat) : Nat := en ((σ 1 2) * (σ 1 5)) fun v => (X l).testBit (v / (σ 1 5) * 3 + v % (σ 1 5))
set_option maxRecDepth 100000 in
theorem CD (O : Ok σ) (hX : SS σ X) (hl : l < (σ 1 6)) : Cv σ (Dv σ X) l = X l := by
  obtain ⟨hD1, hD2, hH1, hH2, hS, hC, hT, hR, hL, hQ⟩ := Ok_b O
  have hV := vle O
  refine Nat.eq_of_testBit_eq fun i => ?_
  rw [Bool.eq_iff_iff, Cv_tb]
  unfold Dv
  rw [en_tb, Bool.and_eq_true, decide_eq_true_eq]
  constructor
  · rintro ⟨h1, h2, h3, h4⟩
    have hd : (i / 3 * (σ 1 5) + i % 3) / (σ 1 5) = i / 3 := by rw [Nat.mul_comm, Nat.mul_add_div (by omega), Nat.div_eq_of_lt h2, Nat.add_zero]
    have hm : (i / 3 * (σ 1 5) + i % 3) % (σ 1 5) = i % 3 := by rw [Nat.mul_comm, Nat.mul_add_mod, Nat.mod_eq_of_lt h2]
    rw [hd, hm, show i / 3 * 3 + i % 3 = i by omega] at h4
    exact h4
  · intro h
    obtain ⟨s, r, e1, e2, e3, -⟩ := hX.1 l hl i h
    have h1 : i / 3 = s := by omega
    have h2 : i % 3 = r := by omega
    rw [h1, h2]
    have hd : (s * (σ 1 5) + r) / (σ 1 5) = s := by rw [Nat.mul_comm, Nat.mul_add_div (by omega), Nat.div_eq_of_lt e3, Nat.add_zero]
    have hm : (s * (σ 1 5) + r) % (σ 1 5) = r := by rw [Nat.mul_comm, Nat.mul_add_mod, Nat.mod_eq_of_lt e3]
    refine ⟨by omega, e3, ?_, by rw [hd, hm, ← e1]; exact h⟩
    have h5 : (s + 1) * (σ 1 5) ≤ (σ 1 2) * (σ 1 5) := Nat.mul_le_mul_right _ e2
    rw [Nat.add_mul, Nat.one_mul] at h5
    omega
set_option maxRecDepth 100000 in
theorem TS_D (O : Ok σ) (hX : SS σ X) : TS σ (Dv σ X) := ⟨SS_cg (fun l hl => (CD O hX hl).symm) hX, fun l hl v hv => by
  unfold Dv at hv
  rw [en_tb, Bool.and_eq_true, decide_eq_true_eq] at hv
  exact hv.1⟩
-- what narrowed leaves are the largest stable values
set_option maxRecDepth 100000 in
theorem VS_C (O : Ok σ) (h1 : SS σ (Cv σ Y)) (h2 : ∀ X, TS σ X → Su σ X Y) : VS σ (Cv σ Y) := by
  refine ⟨h1, fun X hX l hl i hi => ?_⟩
  have h3 := Cv_sub O (h2 _ (TS_D O hX)) l hl i
  rw [CD O hX hl] at h3
  exact h3 hi
set_option maxRecDepth 100000 in
theorem VS_u {Y Z : Nat → Nat} (h1 : VS σ Y) (h2 : VS σ Z) (hl : l < (σ 1 6)) : Y l = Z l := Nat.eq_of_testBit_eq fun i => by
  rw [Bool.eq_iff_iff]
  exact ⟨fun h => h2.2 Y h1.1 l hl i h, fun h => h1.2 Z h2.1 l hl i h⟩
-- a round
set_option maxRecDepth 100000 in
theorem m_219r (O : Ok σ) (H : Mo σ μ ν h0) (hW0 : W 0 0 = (σ 1 2) * (σ 1 5)) (h5 : ∀ a b u, a < (σ 1 6) → b < (σ 1 6) → a ≠ b → u < (σ 1 2) * (σ 1 5) → ∀ v, (W 5 (wix a u b)).testBit v = true ↔ okp σ (alr σ) (σ 1 7) a u b v) (hb : ∀ l, l < (σ 1 6) → ∀ v, (Y l).testBit v = true → v < (σ 1 2) * (σ 1 5)) (hY : ∀ l, l < (σ 1 6) → Y l < 262144) {y4 : Value} : ∃ Z b, ev xs (d + 5) 219 3 ([.ref 62, .ref h0.length, .ref (h0.length + 18), .int (nI 1), y4], [], hw h0 (σ 1 6) W β [oI (ar 6 Y)]) = ev xs (d + 5) 219 2 ([.ref 62, .ref h0.length, .ref (h0.length + 18), .int (nI (b1 b)), .int (nI (σ 1 4))], [], hw h0 (σ 1 6) W β [oI (ar 6 Z)]) ∧ DR σ (TS σ) Y Z b ∧ (b = false → PT σ Y ∧ CR σ (Cv σ Y)) := by
  obtain ⟨hD1, hD2, hH1, hH2, hS, hC, hT, hR, hL, hQ⟩ := Ok_b O
  have CGc : ∀ Y Z : Nat → Nat, (∀ l, l < (σ 1 6) → Z l = Y l) → ∀ g, CG σ (Cv σ Z) g → CG σ (Cv σ Y) g := fun Y Z h g hh => CG_cg (fun l hl => Cv_cg (h l hl)) hh
  have kt : ∀ t, t ≤ (σ 1 4) → ∀ (Y : Nat → Nat), (∀ l, l < (σ 1 6) → Y l < 262144) → (∀ l, l < (σ 1 6) → ∀ v, (Y l).testBit v = true → v < (σ 1 2) * (σ 1 5)) → ∀ a : Bool, ∃ Z b, ev xs (d + 5) 219 9 ([.ref 62, .ref h0.length, .ref (h0.length + 18), .int (nI (b1 a)), .int (nI t)], [], hw h0 (σ 1 6) W β [oI (ar 6 Y)]) = ev xs (d + 5) 219 2 ([.ref 62, .ref h0.length, .ref (h0.length + 18), .int (nI (b1 (a || b))), .int (nI (σ 1 4))], [], hw h0 (σ 1 6) W β [oI (ar 6 Z)]) ∧ DR σ (TS σ) Y Z b ∧ (b = false → ∀ u, t ≤ u → u < (σ 1 4) → CG σ (Cv σ Y) (grp σ 6 u)) := by
    refine lp (σ 1 4) ?_ ?_
    · intro Y hY hb a
      refine ⟨Y, false, ?_, DR_r, fun _ u h1 h2 => by omega⟩
      rw [eb_219_9, Bool.or_false]
      clear hY hb h5 CGc
      simp (disch := first | assumption | omega | exact st8_a (Nat.le_of_ble_eq_true rfl)) only [eb_219_12, kl_a, kl_d, kl_f, kl_i, kl_l, kl_n, kl_r, xr_1, xr_10, xr_11, xr_12, xr_13, xr_135, xr_136, xr_137, xr_138, xr_139, xr_14, xr_146, xr_147, xr_148, xr_149, xr_15, xr_150, xr_16, xr_17, xr_18, xr_19, xr_2, xr_20, xr_27, xr_3, xr_32, xr_33, xr_34, xr_37, xr_4, xr_40, xr_45, xr_48, xr_5, af_0, af_1, xt_ar, xt_goto, xt_ic_ge, xt_if_eq, xt_nop, wF_0, wF_1, wF_2, wF_3, wF_4, wF_5, wF_6, wF_7, wF_8, wF_9, wF_10, wF_11, wF_12, wF_13, wP_9, wP_10, wL_5, wC_5, wC_17, wD, hw_app, hw_len, wA_1, wA_2, wA_3, wA_4, wA_5, wA_6, wA_7, wA_8, wA_17, wW_1, wW_2, wW_3, wW_4, wW_5, wW_6, wW_7, wW_8, wW_17, mF_2 (Mo_hw H), mF_5 (Mo_hw H), xq_218_13_virtualm (Mo_hw H), xq_220_13_virtualm (Mo_hw H), xq_222_13_virtualm (Mo_hw H), iN_add, iN_mul, iN_sub, iN_and, iN_or, iN_clr, iN_shl, iN_shr, tb_r1, b1_z, b1_or, b1_and, b1_or0, b1_or1, b1_0or, iN_lt, iN_inj, reduceIte, if_true, if_false, Nat.zero_add, Nat.add_zero, Bool.false_eq_true, Bool.true_eq_false, Nat.lt_irrefl, iN_az, not_true_eq_false, not_false_eq_true, Nat.reduceEqDiff, Nat.reduceLT, Nat.reduceAdd, Nat.reduceMul, Nat.reduceSub]
    · intro t ht ih Y hY hb a
      obtain ⟨Z1, c1, e1, p1, p2⟩ := m_222 (xs := xs) (d := d) (W := W) (β := β) O H (show t < 4 by omega) false hY hb
      obtain ⟨Z, b, e2, q1, q2⟩ := ih Z1 (Su_lt p1.1 hY) (fun l hl v hv => hb l hl v (p1.1 l hl v hv)) (a || c1)
      refine ⟨Z, c1 || b, ?_, DR_t p1 q1, fun hbf u h1 h2 => ?_⟩
      · rw [← Bool.or_assoc, ← e2, eb_219_9]
        rw [b1_f] at e1
        clear hY hb h5 CGc ih e2 p1 p2 q1 q2
        simp (disch := first | assumption | omega | exact st8_a (Nat.le_of_ble_eq_true rfl)) only [ht, e1, eb_219_10, eb_219_11, kl_a, kl_d, kl_f, kl_i, kl_l, kl_n, kl_r, xr_1, xr_10, xr_11, xr_12, xr_13, xr_135, xr_136, xr_137, xr_138, xr_139, xr_14, xr_146, xr_147, xr_148, xr_149, xr_15, xr_150, xr_16, xr_17, xr_18, xr_19, xr_2, xr_20, xr_27, xr_3, xr_32, xr_33, xr_34, xr_37, xr_4, xr_40, xr_45, xr_48, xr_5, af_0, af_1, xt_ar, xt_goto, xt_ic_ge, xt_if_eq, xt_nop, wF_0, wF_1, wF_2, wF_3, wF_4, wF_5, wF_6, wF_7, wF_8, wF_9, wF_10, wF_11, wF_12, wF_13, wP_9, wP_10, wL_5, wC_5, wC_17, wD, hw_app, hw_len, wA_1, wA_2, wA_3, wA_4, wA_5, wA_6, wA_7, wA_8, wA_17, wW_1, wW_2, wW_3, wW_4, wW_5, wW_6, wW_7, wW_8, wW_17, mF_2 (Mo_hw H), mF_5 (Mo_hw H), xq_218_13_virtualm (Mo_hw H), xq_220_13_virtualm (Mo_hw H), xq_222_13_virtualm (Mo_hw H), iN_add, iN_mul, iN_sub, iN_and, iN_or, iN_clr, iN_shl, iN_shr, tb_r1, b1_z, b1_or, b1_and, b1_or0, b1_or1, b1_0or, iN_lt, iN_inj, reduceIte, if_true, if_false, Nat.zero_add, Nat.add_zero, Bool.false_eq_true, Bool.true_eq_false, Nat.lt_irrefl, iN_az, not_true_eq_false, not_false_eq_true, Nat.reduceEqDiff, Nat.reduceLT, Nat.reduceAdd, Nat.reduceMul, Nat.reduceSub]
      · rw [Bool.or_eq_false_iff] at hbf
        by_cases e : u = t
        · rw [e]
          exact p2 hbf.1
        · exact CGc _ _ (p1.2.1 hbf.1) _ (q2 hbf.2 u (by omega) h2)
  have kc : ∀ t, t ≤ (σ 1 3) → ∀ (Y : Nat → Nat), (∀ l, l < (σ 1 6) → Y l < 262144) → (∀ l, l < (σ 1 6) → ∀ v, (Y l).testBit v = true → v < (σ 1 2) * (σ 1 5)) → ∀ a : Bool, ∃ Z b, ev xs (d + 5) 219 5 ([.ref 62, .ref h0.length, .ref (h0.length + 18), .int (nI (b1 a)), .int (nI t)], [], hw h0 (σ 1 6) W β [oI (ar 6 Y)]) = ev xs (d + 5) 219 9 ([.ref 62, .ref h0.length, .ref (h0.length + 18), .int (nI (b1 (a || b))), .int (nI 0)], [], hw h0 (σ 1 6) W β [oI (ar 6 Z)]) ∧ DR σ (TS σ) Y Z b ∧ (b = false → ∀ u, t ≤ u → u < (σ 1 3) → CG σ (Cv σ Y) (grp σ 5 u)) := by
    refine lp (σ 1 3) ?_ ?_
    · intro Y hY hb a
      refine ⟨Y, false, ?_, DR_r, fun _ u h1 h2 => by omega⟩
      rw [eb_219_5, Bool.or_false]
      clear hY hb h5 CGc kt
      simp (disch := first | assumption | omega | exact st8_a (Nat.le_of_ble_eq_true rfl)) only [eb_219_8, kl_a, kl_d, kl_f, kl_i, kl_l, kl_n, kl_r, xr_1, xr_10, xr_11, xr_12, xr_13, xr_135, xr_136, xr_137, xr_138, xr_139, xr_14, xr_146, xr_147, xr_148, xr_149, xr_15, xr_150, xr_16, xr_17, xr_18, xr_19, xr_2, xr_20, xr_27, xr_3, xr_32, xr_33, xr_34, xr_37, xr_4, xr_40, xr_45, xr_48, xr_5, af_0, af_1, xt_ar, xt_goto, xt_ic_ge, xt_if_eq, xt_nop, wF_0, wF_1, wF_2, wF_3, wF_4, wF_5, wF_6, wF_7, wF_8, wF_9, wF_10, wF_11, wF_12, wF_13, wP_9, wP_10, wL_5, wC_5, wC_17, wD, hw_app, hw_len, wA_1, wA_2, wA_3, wA_4, wA_5, wA_6, wA_7, wA_8, wA_17, wW_1, wW_2, wW_3, wW_4, wW_5, wW_6, wW_7, wW_8, wW_17, mF_2 (Mo_hw H), mF_5 (Mo_hw H), xq_218_13_virtualm (Mo_hw H), xq_220_13_virtualm (Mo_hw H), xq_222_13_virtualm (Mo_hw H), iN_add, iN_mul, iN_sub, iN_and, iN_or, iN_clr, iN_shl, iN_shr, tb_r1, b1_z, b1_or, b1_and, b1_or0, b1_or1, b1_0or, iN_lt, iN_inj, reduceIte, if_true, if_false, Nat.zero_add, Nat.add_zero, Bool.false_eq_true, Bool.true_eq_false, Nat.lt_irrefl, iN_az, not_true_eq_false, not_false_eq_true, Nat.reduceEqDiff, Nat.reduceLT, Nat.reduceAdd, Nat.reduceMul, Nat.reduceSub]
    · intro t ht ih Y hY hb a
      obtain ⟨Z1, c1, e1, p1, p2⟩ := m_222 (xs := xs) (d := d) (W := W) (β := β) O H (show t < 4 by omega) true hY hb
      obtain ⟨Z, b, e2, q1, q2⟩ := ih Z1 (Su_lt p1.1 hY) (fun l hl v hv => hb l hl v (p1.1 l hl v hv)) (a || c1)
      refine ⟨Z, c1 || b, ?_, DR_t p1 q1, fun hbf u h1 h2 => ?_⟩
      · rw [← Bool.or_assoc, ← e2, eb_219_5]
        rw [b1_t] at e1
        clear hY hb h5 CGc ih e2 p1 p2 q1 q2 kt
        simp (disch := first | assumption | omega | exact st8_a (Nat.le_of_ble_eq_true rfl)) only [ht, e1, eb_219_6, eb_219_7, kl_a, kl_d, kl_f, kl_i, kl_l, kl_n, kl_r, xr_1, xr_10, xr_11, xr_12, xr_13, xr_135, xr_136, xr_137, xr_138, xr_139, xr_14, xr_146, xr_147, xr_148, xr_149, xr_15, xr_150, xr_16, xr_17, xr_18, xr_19, xr_2, xr_20, xr_27, xr_3, xr_32, xr_33, xr_34, xr_37, xr_4, xr_40, xr_45, xr_48, xr_5, af_0, af_1, xt_ar, xt_goto, xt_ic_ge, xt_if_eq, xt_nop, wF_0, wF_1, wF_2, wF_3, wF_4, wF_5, wF_6, wF_7, wF_8, wF_9, wF_10, wF_11, wF_12, wF_13, wP_9, wP_10, wL_5, wC_5, wC_17, wD, hw_app, hw_len, wA_1, wA_2, wA_3, wA_4, wA_5, wA_6, wA_7, wA_8, wA_17, wW_1, wW_2, wW_3, wW_4, wW_5, wW_6, wW_7, wW_8, wW_17, mF_2 (Mo_hw H), mF_5 (Mo_hw H), xq_218_13_virtualm (Mo_hw H), xq_220_13_virtualm (Mo_hw H), xq_222_13_virtualm (Mo_hw H), iN_add, iN_mul, iN_sub, iN_and, iN_or, iN_clr, iN_shl, iN_shr, tb_r1, b1_z, b1_or, b1_and, b1_or0, b1_or1, b1_0or, iN_lt, iN_inj, reduceIte, if_true, if_false, Nat.zero_add, Nat.add_zero, Bool.false_eq_true, Bool.true_eq_false, Nat.lt_irrefl, iN_az, not_true_eq_false, not_false_eq_true, Nat.reduceEqDiff, Nat.reduceLT, Nat.reduceAdd, Nat.reduceMul, Nat.reduceSub]
      · rw [Bool.or_eq_false_iff] at hbf
        by_cases e : u = t
        · rw [e]
          exact p2 hbf.1
        · exact CGc _ _ (p1.2.1 hbf.1) _ (q2 hbf.2 u (by omega) h2)
  obtain ⟨Z1, c1, e1, p1, p2⟩ := m_220 (xs := xs) (d := d + 1) (β := β) O H hW0 h5 hY
  obtain ⟨Z2, c2, e2, q1, q2⟩ := kc 0 (Nat.zero_le _) Z1 (Su_lt p1.1 hY) (fun l hl v hv => hb l hl v (p1.1 l hl v hv)) c1
  obtain ⟨Z3, c3, e3, r1, r2⟩ := kt 0 (Nat.zero_le _) Z2 (Su_lt (Su_t q1.1 p1.1) hY) (fun l hl v hv => hb l hl v (p1.1 l hl v (q1.1 l hl v hv))) (c1 || c2)
  refine ⟨Z3, c1 || c2 || c3, ?_, DR_t (DR_t p1 q1) r1, fun hbf => ?_⟩
  · rw [← e3, ← e2, eb_219_3]
    clear hY hb h5 CGc kt kc e2 e3 p1 p2 q1 q2 r1 r2
    simp (disch := first | assumption | omega | exact st8_a (Nat.le_of_ble_eq_true rfl)) only [e1, eb_219_4, kl_a, kl_d, kl_f, kl_i, kl_l, kl_n, kl_r, xr_1, xr_10, xr_11, xr_12, xr_13, xr_135, xr_136, xr_137, xr_138, xr_139, xr_14, xr_146, xr_147, xr_148, xr_149, xr_15, xr_150, xr_16, xr_17, xr_18, xr_19, xr_2, xr_20, xr_27, xr_3, xr_32, xr_33, xr_34, xr_37, xr_4, xr_40, xr_45, xr_48, xr_5, af_0, af_1, xt_ar, xt_goto, xt_ic_ge, xt_if_eq, xt_nop, wF_0, wF_1, wF_2, wF_3, wF_4, wF_5, wF_6, wF_7, wF_8, wF_9, wF_10, wF_11, wF_12, wF_13, wP_9, wP_10, wL_5, wC_5, wC_17, wD, hw_app, hw_len, wA_1, wA_2, wA_3, wA_4, wA_5, wA_6, wA_7, wA_8, wA_17, wW_1, wW_2, wW_3, wW_4, wW_5, wW_6, wW_7, wW_8, wW_17, mF_2 (Mo_hw H), mF_5 (Mo_hw H), xq_218_13_virtualm (Mo_hw H), xq_220_13_virtualm (Mo_hw H), xq_222_13_virtualm (Mo_hw H), iN_add, iN_mul, iN_sub, iN_and, iN_or, iN_clr, iN_shl, iN_shr, tb_r1, b1_z, b1_or, b1_and, b1_or0, b1_or1, b1_0or, iN_lt, iN_inj, reduceIte, if_true, if_false, Nat.zero_add, Nat.add_zero, Bool.false_eq_true, Bool.true_eq_false, Nat.lt_irrefl, iN_az, not_true_eq_false, not_false_eq_true, Nat.reduceEqDiff, Nat.reduceLT, Nat.reduceAdd, Nat.reduceMul, Nat.reduceSub]
  · rw [Bool.or_eq_false_iff, Bool.or_eq_false_iff] at hbf
    have z1 := p1.2.1 hbf.1.1
    have z2 := q1.2.1 hbf.1.2
    refine ⟨p2 hbf.1.1, fun p hp u hu => ?_⟩
    have emp : (∀ l, l < (σ 1 6) → σ p l ≠ u) → CG σ (Cv σ Y) (grp σ p u) := fun h set hs => by
      have h0 : set = 0 := z_tb.mpr fun i => by
        cases hi : set.testBit i
        · rfl
        · have h1 := z_tb.mp hs i
          rw [clr_tb, hi, Bool.true_and, Bool.not_eq_false'] at h1
          unfold grp at h1
          rw [en_tb, Bool.and_eq_true, decide_eq_true_eq, decide_eq_true_eq] at h1
          exact absurd h1.2 (h i h1.1)
      rw [h0]
      exact CI_0
    rcases hp with rfl | rfl
    · by_cases h : u < (σ 1 3)
      · exact CGc _ _ z1 _ (q2 hbf.1.2 u (Nat.zero_le _) h)
      · exact emp fun l hl => by
          have := (Ok_l O hl).1
          omega
    · by_cases h : u < (σ 1 4)
      · exact CGc _ _ (fun l hl => (z2 l hl).trans (z1 l hl)) _ (r2 hbf.2 u (Nat.zero_le _) h)
      · exact emp fun l hl => by
          have := (Ok_l O hl).2.1
          omega
-- narrowed
set_option maxRecDepth 100000 in
theorem m_219 (O : Ok σ) (H : Mo σ μ ν h0) : ∃ W Z, ev xs (d + 7) 219 0 ([.ref 62, .retAddr 9, .retAddr 9, .retAddr 9, .retAddr 9], [], h0) = some (.inl (some (.ref (h0.length + 18))), hw h0 (σ 1 6) W .null [oI (ar 6 Z)]) ∧ VS σ (Cv σ Z) ∧ (∀ l, l < (σ 1 6) → Z l < 262144) ∧ ∀ l, l < (σ 1 6) → ∀ v, (Z l).testBit v = true → v < (σ 1 2) * (σ 1 5) := by
  obtain ⟨hD1, hD2, hH1, hH2, hS, hC, hT, hR, hL, hQ⟩ := Ok_b O
  obtain ⟨W, e1, hX, hWT⟩ := m_218 (xs := xs) (d := d) O H
  have hW7 : ∀ l, l < (σ 1 6) → ∀ v, (W 7 l).testBit v = true → v < (σ 1 2) * (σ 1 5) := fun l hl v hv => ((hWT.1 l hl v).mp hv).1.1
  have hV := vle O
  have b7 : ∀ l, l < (σ 1 6) → W 7 l < 262144 := fun l hl => mask_lt (n := 18) fun i hi => by
    have := hW7 l hl i hi
    omega
  have hW0 : W 0 0 = (σ 1 2) * (σ 1 5) := hX.1.1
  -- when nothing goes any more
  have fin : ∀ (Y : Nat → Nat) y4, ev xs (d + 7) 219 2 ([.ref 62, .ref h0.length, .ref (h0.length + 18), .int (nI (b1 false)), y4], [], hw h0 (σ 1 6) W .null [oI (ar 6 Y)]) = some (.inl (some (.ref (h0.length + 18))), hw h0 (σ 1 6) W .null [oI (ar 6 Y)]) := fun Y y4 => by
    rw [eb_219_2, b1_f]
    clear hX hWT hW7 b7
    simp (disch := first | assumption | omega | exact st8_a (Nat.le_of_ble_eq_true rfl)) only [eb_219_13, kl_a, kl_d, kl_f, kl_i, kl_l, kl_n, kl_r, xr_1, xr_10, xr_11, xr_12, xr_13, xr_135, xr_136, xr_137, xr_138, xr_139, xr_14, xr_146, xr_147, xr_148, xr_149, xr_15, xr_150, xr_16, xr_17, xr_18, xr_19, xr_2, xr_20, xr_27, xr_3, xr_32, xr_33, xr_34, xr_37, xr_4, xr_40, xr_45, xr_48, xr_5, af_0, af_1, xt_ar, xt_goto, xt_ic_ge, xt_if_eq, xt_nop, wF_0, wF_1, wF_2, wF_3, wF_4, wF_5, wF_6, wF_7, wF_8, wF_9, wF_10, wF_11, wF_12, wF_13, wP_9, wP_10, wL_5, wC_5, wC_17, wD, hw_app, hw_len, wA_1, wA_2, wA_3, wA_4, wA_5, wA_6, wA_7, wA_8, wA_17, wW_1, wW_2, wW_3, wW_4, wW_5, wW_6, wW_7, wW_8, wW_17, mF_2 (Mo_hw H), mF_5 (Mo_hw H), xq_218_13_virtualm (Mo_hw H), xq_220_13_virtualm (Mo_hw H), xq_222_13_virtualm (Mo_hw H), iN_add, iN_mul, iN_sub, iN_and, iN_or, iN_clr, iN_shl, iN_shr, tb_r1, b1_z, b1_or, b1_and, b1_or0, b1_or1, b1_0or, b1_t, b1_f, iN_lt, iN_inj, reduceIte, if_true, if_false, Nat.zero_add, Nat.add_zero, Bool.false_eq_true, Bool.true_eq_false, Nat.lt_irrefl, iN_az, not_true_eq_false, not_false_eq_true, Nat.reduceEqDiff, Nat.reduceLT, Nat.reduceAdd, Nat.reduceMul, Nat.reduceSub]
  have key : ∀ n, ∀ (Y : Nat → Nat) y4, tot σ Y = n → Su σ Y (W 7) → (∀ X, TS σ X → Su σ X Y) → ∃ Z, ev xs (d + 7) 219 2 ([.ref 62, .ref h0.length, .ref (h0.length + 18), .int (nI (b1 true)), y4], [], hw h0 (σ 1 6) W .null [oI (ar 6 Y)]) = some (.inl (some (.ref (h0.length + 18))), hw h0 (σ 1 6) W .null [oI (ar 6 Z)]) ∧ VS σ (Cv σ Z) ∧ Su σ Z (W 7) := by
    intro n
    induction n using Nat.strongRecOn with
    | ind n ih =>
      intro Y y4 hn hS hTS
      have hb : ∀ l, l < (σ 1 6) → ∀ v, (Y l).testBit v = true → v < (σ 1 2) * (σ 1 5) := fun l hl v hv => hW7 l hl v (hS l hl v hv)
      obtain ⟨Z, b, e2, q1, q2⟩ := m_219r (xs := xs) (d := d + 2) (β := .null) (y4 := y4) O H hW0 hWT.2.1 hb (Su_lt hS b7)
      have st : ev xs (d + 7) 219 2 ([.ref 62, .ref h0.length, .ref (h0.length + 18), .int (nI (b1 true)), y4], [], hw h0 (σ 1 6) W .null [oI (ar 6 Y)]) = ev xs (d + 7) 219 2 ([.ref 62, .ref h0.length, .ref (h0.length + 18), .int (nI (b1 b)), .int (nI (σ 1 4))], [], hw h0 (σ 1 6) W .null [oI (ar 6 Z)]) := by
        rw [← e2, eb_219_2, b1_t]
        clear hX hWT hW7 b7 hb fin ih hS hTS q1 q2 e2
        simp (disch := first | assumption | omega | exact st8_a (Nat.le_of_ble_eq_true rfl)) only [kl_a, kl_d, kl_f, kl_i, kl_l, kl_n, kl_r, xr_1, xr_10, xr_11, xr_12, xr_13, xr_135, xr_136, xr_137, xr_138, xr_139, xr_14, xr_146, xr_147, xr_148, xr_149, xr_15, xr_150, xr_16, xr_17, xr_18, xr_19, xr_2, xr_20, xr_27, xr_3, xr_32, xr_33, xr_34, xr_37, xr_4, xr_40, xr_45, xr_48, xr_5, af_0, af_1, xt_ar, xt_goto, xt_ic_ge, xt_if_eq, xt_nop, wF_0, wF_1, wF_2, wF_3, wF_4, wF_5, wF_6, wF_7, wF_8, wF_9, wF_10, wF_11, wF_12, wF_13, wP_9, wP_10, wL_5, wC_5, wC_17, wD, hw_app, hw_len, wA_1, wA_2, wA_3, wA_4, wA_5, wA_6, wA_7, wA_8, wA_17, wW_1, wW_2, wW_3, wW_4, wW_5, wW_6, wW_7, wW_8, wW_17, mF_2 (Mo_hw H), mF_5 (Mo_hw H), xq_218_13_virtualm (Mo_hw H), xq_220_13_virtualm (Mo_hw H), xq_222_13_virtualm (Mo_hw H), iN_add, iN_mul, iN_sub, iN_and, iN_or, iN_clr, iN_shl, iN_shr, tb_r1, b1_z, b1_or, b1_and, b1_or0, b1_or1, b1_0or, b1_t, b1_f, iN_lt, iN_inj, reduceIte, if_true, if_false, Nat.zero_add, Nat.add_zero, Bool.false_eq_true, Bool.true_eq_false, Nat.lt_irrefl, iN_az, not_true_eq_false, not_false_eq_true, Nat.reduceEqDiff, Nat.reduceLT, Nat.reduceAdd, Nat.reduceMul, Nat.reduceSub]
      cases b
      · obtain ⟨g1, g2⟩ := q2 rfl
        have hz := q1.2.1 rfl
        refine ⟨Z, st.trans (fin Z _), ?_, Su_t q1.1 hS⟩
        have h1 := VS_C O (SS_C O hWT hS g1 g2) hTS
        exact ⟨SS_cg (fun l hl => (Cv_cg (hz l hl)).symm) h1.1, fun X hX2 l hl i hi => by rw [Cv_cg (hz l hl)]; exact h1.2 X hX2 l hl i hi⟩
      · obtain ⟨Z2, e3, r⟩ := ih (tot σ Z) (hn ▸ q1.2.2.1 rfl) Z (.int (nI (σ 1 4))) rfl (Su_t q1.1 hS) fun X hX2 => q1.2.2.2 X hX2 (hTS X hX2)
        exact ⟨Z2, st.trans e3, r⟩
  obtain ⟨Z, e2, g1, g2⟩ := key _ (W 7) (.retAddr 9) rfl Su_r fun X hX2 => TS_W7 O hWT hX2
  refine ⟨W, Z, ?_, g1, Su_lt g2 b7, fun l hl v hv => hW7 l hl v (g2 l hl v hv)⟩
  rw [← e2]
  have hcp : ∀ {m2 : Nat} {hs : List (Nat × Nat)} {tt : ab_T} {rr : List ab_I} {Lc st : List Value} {j : _} {n2 w : Nat}, st8 st = true → rt xs (d + 7) m2 hs tt ((.invokestatic j, n2, 0, w) :: rr) (Lc, .int (nI 6) :: .int (nI 0) :: .ref (h0.length + 18) :: .int (nI 0) :: .ref (h0.length + 7) :: st, hw h0 (σ 1 6) W .null [oI (ar 6 fun _ => 0)]) = rt xs (d + 7) m2 hs tt rr (Lc, st, hw h0 (σ 1 6) W .null [oI (ar 6 (W 7))]) := fun h8 => by
    rw [q_cp (i := 42) (i2 := 6) (f := W 7) (hw_k (by decide)) (hw_T (i := 0)) (by decide) (by decide) (by decide) h8, ar_cp]
    exact congrArg (fun z => rt xs (d + 7) _ _ _ _ (_, _, z)) (hw_Ts (i := 0))
  clear hX hWT hW7 b7 fin key e2 g1 g2
  simp (disch := first | assumption | omega | exact st8_a (Nat.le_of_ble_eq_true rfl)) only [e1, eb_219_0, kl_a, kl_d, kl_f, kl_i, kl_l, kl_n, kl_r, xr_1, xr_10, xr_11, xr_12, xr_13, xr_135, xr_136, xr_137, xr_138, xr_139, xr_14, xr_146, xr_147, xr_148, xr_149, xr_15, xr_150, xr_16, xr_17, xr_18, xr_19, xr_2, xr_20, xr_27, xr_3, xr_32, xr_33, xr_34, xr_37, xr_4, xr_40, xr_45, xr_48, xr_5, af_0, af_1, xt_ar, xt_goto, xt_ic_ge, xt_if_eq, xt_nop, mF_2 H, mF_5 H, xq_218_13_virtualm H, xq_220_13_virtualm H, xq_222_13_virtualm H, iN_add, iN_mul, iN_sub, iN_and, iN_or, iN_clr, iN_shl, iN_shr, tb_r1, b1_z, b1_or, b1_and, b1_or0, b1_or1, b1_0or, b1_t, b1_f, iN_lt, iN_inj, reduceIte, if_true, if_false, Nat.zero_add, Nat.add_zero, Bool.false_eq_true, Bool.true_eq_false, Nat.lt_irrefl, iN_az, not_true_eq_false, not_false_eq_true, Nat.reduceEqDiff, Nat.reduceLT, Nat.reduceAdd, Nat.reduceMul, Nat.reduceSub]
  simp (disch := first | assumption | omega | exact st8_a (Nat.le_of_ble_eq_true rfl)) only [hcp, xr_49, List.nil_append, List.length_nil, eb_219_1, kl_a, kl_d, kl_f, kl_i, kl_l, kl_n, kl_r, xr_1, xr_10, xr_11, xr_12, xr_13, xr_135, xr_136, xr_137, xr_138, xr_139, xr_14, xr_146, xr_147, xr_148, xr_149, xr_15, xr_150, xr_16, xr_17, xr_18, xr_19, xr_2, xr_20, xr_27, xr_3, xr_32, xr_33, xr_34, xr_37, xr_4, xr_40, xr_45, xr_48, xr_5, af_0, af_1, xt_ar, xt_goto, xt_ic_ge, xt_if_eq, xt_nop, wF_0, wF_1, wF_2, wF_3, wF_4, wF_5, wF_6, wF_7, wF_8, wF_9, wF_10, wF_11, wF_12, wF_13, wP_9, wP_10, wL_5, wC_5, wC_17, wD, hw_app, hw_len, wA_1, wA_2, wA_3, wA_4, wA_5, wA_6, wA_7, wA_8, wA_17, wW_1, wW_2, wW_3, wW_4, wW_5, wW_6, wW_7, wW_8, wW_17, mF_2 (Mo_hw H), mF_5 (Mo_hw H), xq_218_13_virtualm (Mo_hw H), xq_220_13_virtualm (Mo_hw H), xq_222_13_virtualm (Mo_hw H), iN_add, iN_mul, iN_sub, iN_and, iN_or, iN_clr, iN_shl, iN_shr, tb_r1, b1_z, b1_or, b1_and, b1_or0, b1_or1, b1_0or, b1_t, b1_f, iN_lt, iN_inj, reduceIte, if_true, if_false, Nat.zero_add, Nat.add_zero, Bool.false_eq_true, Bool.true_eq_false, Nat.lt_irrefl, iN_az, not_true_eq_false, not_false_eq_true, Nat.reduceEqDiff, Nat.reduceLT, Nat.reduceAdd, Nat.reduceMul, Nat.reduceSub]
end Nrd
