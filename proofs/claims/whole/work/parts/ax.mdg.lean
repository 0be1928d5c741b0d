/-! THE MODEL: its searches -/
/-- what a search for the cheapest has made of the model's present timetable -/
def MOU (σ : Nat → Nat → Nat) (ν ν' : Nat → Value) (n : Nat) (Q' : ab_H) (v : Nat) (G : (Nat → Nat) → (Nat → Nat) → Prop) (cst : (Nat → Nat) → (Nat → Nat) → Nat) : Prop :=
  (∀ a, a ≠ 0 → ν' a = ν a) ∧ ((v = 4294967295 ∧ ν' 0 = ν 0 ∧ ∀ s r, ¬ G s r) ∨ ∃ j s r, ν' 0 = .ref (72 + j) ∧ n ≤ j ∧ Q'[j]? = some (oI (ar (σ 1 6) (tv σ s r))) ∧ (∀ l, l < (σ 1 6) → s l < (σ 1 2) ∧ r l < (σ 1 5)) ∧ G s r ∧ cst s r = v ∧ v < 4294967295 ∧ (∀ s2 r2, G s2 r2 → v ≤ cst s2 r2) ∧ ∀ s2 r2, G s2 r2 → cst s2 r2 = v → ¬ LX (σ 1 6) s2 r2 s r)
section Mdg
variable {xs : List Int32} {d m n k i j p a b c u v l q z w y t nn : Nat} {τ M σ W K : Nat → Nat → Nat} {μ μ0 : Nat → Nat} {ν ν0 : Nat → Value} {A B Q T T2 h : ab_H} {s r g f X Z Y tab : Nat → Nat} {L st : List Value} {β : Value} {hs : List (Nat × Nat)} {tt : ab_T} {rr : List ab_I}
set_option maxRecDepth 100000 in
theorem pW_19 {j : _} : rt xs d m hs tt ((.putfield j, n, 13, 19) :: rr) (L, .ref a :: .ref 62 :: st, hw (mh τ M σ μ ν Q) nn W β T) = rt xs d m hs tt rr (L, st, hw (mh τ M σ μ (uv ν 0 (.ref a)) Q) nn W β T) := by
  rw [hw_mh, hw_mh, pF_19]
set_option maxRecDepth 100000 in
theorem pWn_19 {j : _} : rt xs d m hs tt ((.putfield j, n, 13, 19) :: rr) (L, .null :: .ref 62 :: st, hw (mh τ M σ μ ν Q) nn W β T) = rt xs d m hs tt rr (L, st, hw (mh τ M σ μ (uv ν 0 .null) Q) nn W β T) := by
  rw [hw_mh, hw_mh, pN_19]
set_option maxRecDepth 100000 in
theorem uv_id : uv ν k (ν k) = ν := by
  funext j
  unfold uv
  split
  · rename_i h
    rw [h]
  · rfl
set_option maxRecDepth 100000 in
theorem gt_w (i : Nat) : (Q ++ (wcs w n W β ++ T))[Q.length + (18 + i)]? = T[i]? := by
  rw [List.getElem?_append_right (Nat.le_add_right _ _), Nat.add_sub_cancel_left]
  exact (List.getElem?_append_right (show (wcs w n W β).length ≤ 18 + i from Nat.le_add_right _ _)).trans (by
    congr 1
    exact Nat.add_sub_cancel_left 18 i)
set_option maxRecDepth 100000 in
theorem GT_ww (hL : (σ 1 6) ≤ 6) (hc : T.length ≤ c) (hS : SZ σ T) : GT (wcs w (σ 1 6) W β ++ T) (18 + c) (1827 + 6 * c) := GT_a (GT_wc hL) (GT_sz hL hc hS)
set_option maxRecDepth 100000 in
theorem PA_G (O : Ok σ) (hWT : WT σ (alr σ) (σ 1 7) t y W) (hG : Gd σ (alr σ) s r) (hN : NB σ t y s) : PA σ W (σ 1 6) (tv σ s r) := PA_tv O hWT hG hN
set_option maxRecDepth 100000 in
theorem TX_n (O : Ok σ) {u : Nat → Nat} {s r : Nat → Nat} (hr : ∀ l, l < (σ 1 6) → r l < (σ 1 5)) (h : LX (σ 1 6) s r (fun l => u l / (σ 1 5)) fun l => u l % (σ 1 5)) : TX (σ 1 6) (tv σ s r) u := TX_LX.mpr (LX_c1 (AG_s (tv_AG hr)) h)
set_option maxRecDepth 100000 in
theorem len_w {i : Nat} : 72 + (Q.length + (18 + i)) = (mh τ M σ μ ν Q).length + (18 + i) := by
  rw [mh_len]
  omega
-- first
set_option maxRecDepth 100000 in
theorem m_233 (O : Ok σ) (hν : ν 0 = .null ∨ ∃ a, ν 0 = .ref a) : ∃ ν' T v, ev xs (d + 14) 233 0 ([.ref 62, .retAddr 9, .retAddr 9], [], mh τ M σ μ ν Q) = some (.inl (some (.int (nI (b1 (decide (v ≠ 4294967295)))))), mh τ M σ (u1 μ 0 0) ν' (Q ++ T)) ∧ GT T 19 1833 ∧ MOU σ ν ν' Q.length (Q ++ T) v (Gd σ (alr σ)) (fun _ _ => 0) := by
  obtain ⟨hD1, hD2, hH1, hH2, hS, hC, hT, hR, hL, hQ⟩ := Ok_b O
  have H := mh_Mo (τ := τ) (M := M) (σ := σ) (μ := u1 μ 0 0) (ν := ν) (Q := Q)
  obtain ⟨W, e1, hX, hWT⟩ := m_218 (xs := xs) (d := d + 7) O H
  have hI := WT_IW O hX hWT
  obtain ⟨N, b, e2, f2, g1, g2⟩ := m_177 (xs := xs) (d := d) (β := .null) (T := []) O H hI
  have e3 := m_181 (xs := xs) (d := d + 12) (W := N) (β := .null) (T := []) O H
  rw [List.length_nil, List.nil_append] at e3
  cases b
  · refine ⟨ν, wcs (72 + Q.length) (σ 1 6) N .null ++ [], 4294967295, ?_, GT_w (GT_ww hL (c := 0) (Nat.le_refl _) SZ_0) (by decide) (by decide), fun _ _ => rfl, .inl ⟨rfl, rfl, fun s r h => g1 rfl _ (PA_G O hWT h (.inl rfl))⟩⟩
    rw [b1_f] at e2
    rw [← hw_mh, show b1 (decide (4294967295 ≠ 4294967295)) = 0 from rfl]
    rcases hν with h | ⟨a, h⟩
    · have hid := uv_id (ν := ν) (k := 0)
      rw [h] at hid
      clear g1 g2 f2 hI hX hWT
      simp (disch := first | assumption | omega | exact st8_a (Nat.le_of_ble_eq_true rfl)) only [e1, e2, h, hid, eb_233_0, eb_233_1, eb_233_2, eb_233_3, eb_233_4, eb_233_5, eb_233_6, kl_a, kl_d, kl_f, kl_i, kl_l, kl_n, kl_r, xr_1, xr_10, xr_11, xr_12, xr_13, xr_14, xr_146, xr_147, xr_148, xr_149, xr_15, xr_150, xr_2, xr_3, xr_30, xr_31, xr_4, xr_5, af_0, af_1, xt_goto, xt_ib, xt_ic, xt_if_eq, xt_ir, xt_nop, mF_19 mh_Mo, xq_218_13_virtualm mh_Mo, pF_0, pF_1, pF_2, pF_5, pF_6, pF_8, pF_12, pF_16, pF_17, pF_18, pF_22, pF_24, pF_19, pF_20, pF_21, pF_23, pN_19, pN_20, pN_21, pN_23, pA_63, pA_64, pA_65, pA_66, pA_67, pA_68, pA_69, pA_70, pA_71, wF_0, wF_1, wF_2, wF_3, wF_4, wF_5, wF_6, wF_7, wF_8, wF_9, wF_10, wF_11, wF_12, wF_13, wP_9, wP_10, wL_5, wC_5, wC_17, wD, hw_app, hw_len, wA_1, wA_2, wA_3, wA_4, wA_5, wA_6, wA_7, wA_8, wA_17, wW_1, wW_2, wW_3, wW_4, wW_5, wW_6, wW_7, wW_8, wW_17, mF_19 (Mo_hw H), xq_177_12_virtual wy_c, xq_181_62_virtual wy_c, xq_218_13_virtualm (Mo_hw H), pW_19, pWn_19, iN_add, iN_mul, iN_sub, iN_and, iN_or, iN_clr, iN_shl, iN_shr, tb_r1, b1_z, b1_or, b1_and, b1_or0, b1_or1, b1_0or, b1_t, b1_f, iN_lt, iN_inj, reduceIte, if_true, if_false, Nat.zero_add, Nat.add_zero, Bool.false_eq_true, Bool.true_eq_false, Nat.lt_irrefl, iN_az, not_true_eq_false, not_false_eq_true, Nat.reduceEqDiff, Nat.reduceLT, Nat.reduceAdd, Nat.reduceMul, Nat.reduceSub]
    · have hid := uv_id (ν := ν) (k := 0)
      rw [h] at hid
      clear g1 g2 f2 hI hX hWT
      simp (disch := first | assumption | omega | exact st8_a (Nat.le_of_ble_eq_true rfl)) only [e1, e2, h, hid, eb_233_0, eb_233_1, eb_233_2, eb_233_3, eb_233_4, eb_233_5, eb_233_6, kl_a, kl_d, kl_f, kl_i, kl_l, kl_n, kl_r, xr_1, xr_10, xr_11, xr_12, xr_13, xr_14, xr_146, xr_147, xr_148, xr_149, xr_15, xr_150, xr_2, xr_3, xr_30, xr_31, xr_4, xr_5, af_0, af_1, xt_goto, xt_ib, xt_ic, xt_if_eq, xt_ir, xt_nop, mF_19 mh_Mo, xq_218_13_virtualm mh_Mo, pF_0, pF_1, pF_2, pF_5, pF_6, pF_8, pF_12, pF_16, pF_17, pF_18, pF_22, pF_24, pF_19, pF_20, pF_21, pF_23, pN_19, pN_20, pN_21, pN_23, pA_63, pA_64, pA_65, pA_66, pA_67, pA_68, pA_69, pA_70, pA_71, wF_0, wF_1, wF_2, wF_3, wF_4, wF_5, wF_6, wF_7, wF_8, wF_9, wF_10, wF_11, wF_12, wF_13, wP_9, wP_10, wL_5, wC_5, wC_17, wD, hw_app, hw_len, wA_1, wA_2, wA_3, wA_4, wA_5, wA_6, wA_7, wA_8, wA_17, wW_1, wW_2, wW_3, wW_4, wW_5, wW_6, wW_7, wW_8, wW_17, mF_19 (Mo_hw H), xq_177_12_virtual wy_c, xq_181_62_virtual wy_c, xq_218_13_virtualm (Mo_hw H), pW_19, pWn_19, iN_add, iN_mul, iN_sub, iN_and, iN_or, iN_clr, iN_shl, iN_shr, tb_r1, b1_z, b1_or, b1_and, b1_or0, b1_or1, b1_0or, b1_t, b1_f, iN_lt, iN_inj, reduceIte, if_true, if_false, Nat.zero_add, Nat.add_zero, Bool.false_eq_true, Bool.true_eq_false, Nat.lt_irrefl, iN_az, not_true_eq_false, not_false_eq_true, Nat.reduceEqDiff, Nat.reduceLT, Nat.reduceAdd, Nat.reduceMul, Nat.reduceSub]
  · obtain ⟨g3, g4⟩ := g2 rfl
    obtain ⟨p1, p2, p3⟩ := (PA_Gd O hWT).mp g3
    refine ⟨uv ν 0 (.ref (72 + (Q.length + (18 + 0)))), wcs (72 + Q.length) (σ 1 6) N .null ++ [oI (ar (σ 1 6) (N 8))], 0, ?_, GT_w (GT_ww hL (c := 1) (Nat.le_refl _) SZ_1) (by decide) (by decide), fun _ h => if_neg h, .inr ⟨Q.length + (18 + 0), fun l => N 8 l / (σ 1 5), fun l => N 8 l % (σ 1 5), if_pos rfl, Nat.le_add_right _ _, ?_, fun l hl => ⟨(vb O (p1 l hl)).2.1, (vb O (p1 l hl)).2.2.1⟩, p2, rfl, (by decide), fun _ _ _ => Nat.zero_le _, fun s r h _ hx => g4 _ (PA_G O hWT h (.inl rfl)) (TX_n O (fun l hl => (h.1 l hl).2) hx)⟩⟩
    · rw [b1_t] at e2
      rw [len_w (τ := τ) (M := M) (σ := σ) (μ := u1 μ 0 0) (ν := ν), ← hw_mh, show b1 (decide (0 ≠ 4294967295)) = 1 from rfl]
      clear g2 g3 g4 p1 p2 p3 g1 f2 hI hX hWT hν
      simp (disch := first | assumption | omega | exact st8_a (Nat.le_of_ble_eq_true rfl)) only [e1, e2, e3, eb_233_0, eb_233_1, eb_233_2, eb_233_3, eb_233_4, eb_233_5, eb_233_6, kl_a, kl_d, kl_f, kl_i, kl_l, kl_n, kl_r, xr_1, xr_10, xr_11, xr_12, xr_13, xr_14, xr_146, xr_147, xr_148, xr_149, xr_15, xr_150, xr_2, xr_3, xr_30, xr_31, xr_4, xr_5, af_0, af_1, xt_goto, xt_ib, xt_ic, xt_if_eq, xt_ir, xt_nop, mF_19 mh_Mo, xq_218_13_virtualm mh_Mo, pF_0, pF_1, pF_2, pF_5, pF_6, pF_8, pF_12, pF_16, pF_17, pF_18, pF_22, pF_24, pF_19, pF_20, pF_21, pF_23, pN_19, pN_20, pN_21, pN_23, pA_63, pA_64, pA_65, pA_66, pA_67, pA_68, pA_69, pA_70, pA_71, wF_0, wF_1, wF_2, wF_3, wF_4, wF_5, wF_6, wF_7, wF_8, wF_9, wF_10, wF_11, wF_12, wF_13, wP_9, wP_10, wL_5, wC_5, wC_17, wD, hw_app, hw_len, wA_1, wA_2, wA_3, wA_4, wA_5, wA_6, wA_7, wA_8, wA_17, wW_1, wW_2, wW_3, wW_4, wW_5, wW_6, wW_7, wW_8, wW_17, mF_19 (Mo_hw H), xq_177_12_virtual wy_c, xq_181_62_virtual wy_c, xq_218_13_virtualm (Mo_hw H), pW_19, pWn_19, iN_add, iN_mul, iN_sub, iN_and, iN_or, iN_clr, iN_shl, iN_shr, tb_r1, b1_z, b1_or, b1_and, b1_or0, b1_or1, b1_0or, b1_t, b1_f, iN_lt, iN_inj, reduceIte, if_true, if_false, Nat.zero_add, Nat.add_zero, Bool.false_eq_true, Bool.true_eq_false, Nat.lt_irrefl, iN_az, not_true_eq_false, not_false_eq_true, Nat.reduceEqDiff, Nat.reduceLT, Nat.reduceAdd, Nat.reduceMul, Nat.reduceSub]
    · rw [gt_w, tv_t]
      rfl
-- next
set_option maxRecDepth 100000 in
theorem m_235n (hν : ν 0 = .null) : ev xs (d + 2) 235 0 ([.ref 62, .retAddr 9, .retAddr 9], [], mh τ M σ μ ν Q) = some (.inl (some (.int (nI (0)))), mh τ M σ (u1 μ 0 1) ν Q) := by
  simp (disch := first | assumption | omega | exact st8_a (Nat.le_of_ble_eq_true rfl)) only [m_234n hν, eb_235_0, eb_235_1, eb_235_2, kl_a, kl_d, kl_f, kl_i, kl_l, kl_n, kl_r, xr_1, xr_10, xr_11, xr_12, xr_13, xr_14, xr_146, xr_147, xr_148, xr_149, xr_15, xr_150, xr_2, xr_27, xr_3, xr_30, xr_31, xr_4, xr_5, af_0, af_1, xt_goto, xt_ib, xt_ic, xt_if_eq, xt_ir, xt_nop, mF_19 mh_Mo, xq_218_13_virtualm mh_Mo, xq_234_13_virtualm mh_Mo, pF_0, pF_1, pF_2, pF_5, pF_6, pF_8, pF_12, pF_16, pF_17, pF_18, pF_22, pF_24, pF_19, pF_20, pF_21, pF_23, pN_19, pN_20, pN_21, pN_23, pA_63, pA_64, pA_65, pA_66, pA_67, pA_68, pA_69, pA_70, pA_71, iN_add, iN_mul, iN_sub, iN_and, iN_or, iN_clr, iN_shl, iN_shr, tb_r1, b1_z, b1_or, b1_and, b1_or0, b1_or1, b1_0or, b1_t, b1_f, iN_lt, iN_inj, reduceIte, if_true, if_false, Nat.zero_add, Nat.add_zero, Bool.false_eq_true, Bool.true_eq_false, Nat.lt_irrefl, iN_az, not_true_eq_false, not_false_eq_true, Nat.reduceEqDiff, Nat.reduceLT, Nat.reduceAdd, Nat.reduceMul, Nat.reduceSub]
set_option maxRecDepth 100000 in
theorem GB_TX {t u : Nat → Nat} : GB n 0 t u ↔ TX n u t := by
  constructor
  · rintro ⟨j, -, hj, h1, h2⟩
    exact ⟨j, hj, fun i hi => (h1 i (Nat.zero_le _) hi).symm, h2⟩
  · rintro ⟨j, hj, h1, h2⟩
    exact ⟨j, Nat.zero_le _, hj, fun i _ hi => (h1 i hi).symm, h2⟩
set_option maxRecDepth 100000 in
theorem m_235 (O : Ok σ) (hν : ν 0 = .ref (72 + i)) (hi : Q[i]? = some (oI (ar (σ 1 6) (tv σ s r)))) (hb : ∀ l, l < (σ 1 6) → s l < (σ 1 2) ∧ r l < (σ 1 5)) : ∃ ν' T, ∃ b : Bool, ev xs (d + 13) 235 0 ([.ref 62, .retAddr 9, .retAddr 9], [], mh τ M σ μ ν Q) = some (.inl (some (.int (nI (b1 b)))), mh τ M σ (u1 μ 0 0) ν' (Q ++ T)) ∧ GT T 19 1833 ∧ (∀ a, a ≠ 0 → ν' a = ν a) ∧ (b = false → ν' 0 = ν 0 ∧ ∀ s2 r2, Gd σ (alr σ) s2 r2 → ¬ LX (σ 1 6) s r s2 r2) ∧ (b = true → ∃ j s2 r2, ν' 0 = .ref (72 + j) ∧ Q.length ≤ j ∧ (Q ++ T)[j]? = some (oI (ar (σ 1 6) (tv σ s2 r2))) ∧ Gd σ (alr σ) s2 r2 ∧ LX (σ 1 6) s r s2 r2 ∧ ∀ s3 r3, Gd σ (alr σ) s3 r3 → LX (σ 1 6) s r s3 r3 → ¬ LX (σ 1 6) s3 r3 s2 r2) := by
  obtain ⟨hD1, hD2, hH1, hH2, hS, hC, hT, hR, hL, hQ⟩ := Ok_b O
  have H := mh_Mo (τ := τ) (M := M) (σ := σ) (μ := u1 μ 0 0) (ν := ν) (Q := Q)
  obtain ⟨W, e1, hX, hWT⟩ := m_218 (xs := xs) (d := d + 6) O H
  have hI := WT_IW O hX hWT
  have hq : (mh τ M σ (u1 μ 0 0) ν Q)[72 + i]? = some (oI (ar (σ 1 6) (tv σ s r))) := mh_Q.trans hi
  obtain ⟨N, b, e2, f2, g1, g2⟩ := m_179 (xs := xs) (d := d + (6 - (σ 1 6))) (β := .null) (T := []) O H hq (fun l hl => tv_b (hb l hl).1 (hb l hl).2) (σ 1 6) 0 (Nat.zero_add _) W hI
  rw [show d + (6 - (σ 1 6)) + (σ 1 6) + 6 = d + 12 by omega] at e2
  have e3 := m_181 (xs := xs) (d := d + 11) (W := N) (β := .null) (T := []) O H
  rw [List.length_nil, List.nil_append] at e3
  have hr : ∀ l, l < (σ 1 6) → r l < (σ 1 5) := fun l hl => (hb l hl).2
  have ha := tv_AG (σ := σ) (s := s) (n := (σ 1 6)) hr
  have at0 : ∀ t : Nat → Nat, AT 0 t (W 8) := fun t j hj => absurd hj (Nat.not_lt_zero j)
  have hid := uv_id (ν := ν) (k := 0)
  rw [hν] at hid
  have key : ∀ s3 r3, Gd σ (alr σ) s3 r3 → LX (σ 1 6) s r s3 r3 → GB (σ 1 6) 0 (tv σ s3 r3) (tv σ s r) := fun s3 r3 hG hL2 => GB_TX.mpr (TX_n O hr (LX_c2 (AG_s (tv_AG fun l hl => (hG.1 l hl).2)) hL2))
  cases b
  · refine ⟨ν, wcs (72 + Q.length) (σ 1 6) N .null ++ [], false, ?_, GT_w (GT_ww hL (c := 0) (Nat.le_refl _) SZ_0) (by decide) (by decide), fun _ _ => rfl, fun _ => ⟨rfl, fun s3 r3 hG hL2 => g1 rfl _ (PA_G O hWT hG (.inl rfl)) (at0 _) (key s3 r3 hG hL2)⟩, fun z => (by cases z)⟩
    rw [b1_f] at e2
    rw [← hw_mh, b1_f]
    clear g1 g2 f2 hI hX hWT hi hq ha at0 key hb hr
    simp (disch := first | assumption | omega | exact st8_a (Nat.le_of_ble_eq_true rfl)) only [m_234r hν, e1, e2, hν, hid, eb_235_0, eb_235_1, eb_235_2, eb_235_3, eb_235_4, eb_235_5, eb_235_6, eb_235_7, eb_235_8, eb_235_9, kl_a, kl_d, kl_f, kl_i, kl_l, kl_n, kl_r, xr_1, xr_10, xr_11, xr_12, xr_13, xr_14, xr_146, xr_147, xr_148, xr_149, xr_15, xr_150, xr_2, xr_27, xr_3, xr_30, xr_31, xr_4, xr_5, af_0, af_1, xt_goto, xt_ib, xt_ic, xt_if_eq, xt_ir, xt_nop, mF_19 mh_Mo, xq_218_13_virtualm mh_Mo, xq_234_13_virtualm mh_Mo, pF_0, pF_1, pF_2, pF_5, pF_6, pF_8, pF_12, pF_16, pF_17, pF_18, pF_22, pF_24, pF_19, pF_20, pF_21, pF_23, pN_19, pN_20, pN_21, pN_23, pA_63, pA_64, pA_65, pA_66, pA_67, pA_68, pA_69, pA_70, pA_71, wF_0, wF_1, wF_2, wF_3, wF_4, wF_5, wF_6, wF_7, wF_8, wF_9, wF_10, wF_11, wF_12, wF_13, wP_9, wP_10, wL_5, wC_5, wC_17, wD, hw_app, hw_len, wA_1, wA_2, wA_3, wA_4, wA_5, wA_6, wA_7, wA_8, wA_17, wW_1, wW_2, wW_3, wW_4, wW_5, wW_6, wW_7, wW_8, wW_17, mF_19 (Mo_hw H), xq_179_12_virtual wy_c, xq_181_62_virtual wy_c, xq_218_13_virtualm (Mo_hw H), xq_234_13_virtualm (Mo_hw H), pW_19, pWn_19, iN_add, iN_mul, iN_sub, iN_and, iN_or, iN_clr, iN_shl, iN_shr, tb_r1, b1_z, b1_or, b1_and, b1_or0, b1_or1, b1_0or, b1_t, b1_f, iN_lt, iN_inj, reduceIte, if_true, if_false, Nat.zero_add, Nat.add_zero, Bool.false_eq_true, Bool.true_eq_false, Nat.lt_irrefl, iN_az, not_true_eq_false, not_false_eq_true, Nat.reduceEqDiff, Nat.reduceLT, Nat.reduceAdd, Nat.reduceMul, Nat.reduceSub]
  · obtain ⟨g3, g4, g5⟩ := g2 rfl
    obtain ⟨p1, p2, p3⟩ := (PA_Gd O hWT).mp g3
    refine ⟨uv ν 0 (.ref (72 + (Q.length + (18 + 0)))), wcs (72 + Q.length) (σ 1 6) N .null ++ [oI (ar (σ 1 6) (N 8))], true, ?_, GT_w (GT_ww hL (c := 1) (Nat.le_refl _) SZ_1) (by decide) (by decide), fun _ h => if_neg h, fun z => (by cases z), fun _ => ⟨Q.length + (18 + 0), fun l => N 8 l / (σ 1 5), fun l => N 8 l % (σ 1 5), if_pos rfl, Nat.le_add_right _ _, ?_, p2, LX_c1 ha (TX_LX.mp (GB_TX.mp g4)), fun s3 r3 hG hL2 hx => g5 _ (PA_G O hWT hG (.inl rfl)) (at0 _) (key s3 r3 hG hL2) (TX_n O (fun l hl => (hG.1 l hl).2) hx)⟩⟩
    · rw [b1_t] at e2
      rw [len_w (τ := τ) (M := M) (σ := σ) (μ := u1 μ 0 0) (ν := ν), ← hw_mh, b1_t]
      clear g2 g3 g4 g5 p1 p2 p3 g1 f2 hI hX hWT hi hq ha at0 key hb hr
      simp (disch := first | assumption | omega | exact st8_a (Nat.le_of_ble_eq_true rfl)) only [m_234r hν, e1, e2, e3, hν, eb_235_0, eb_235_1, eb_235_2, eb_235_3, eb_235_4, eb_235_5, eb_235_6, eb_235_7, eb_235_8, eb_235_9, kl_a, kl_d, kl_f, kl_i, kl_l, kl_n, kl_r, xr_1, xr_10, xr_11, xr_12, xr_13, xr_14, xr_146, xr_147, xr_148, xr_149, xr_15, xr_150, xr_2, xr_27, xr_3, xr_30, xr_31, xr_4, xr_5, af_0, af_1, xt_goto, xt_ib, xt_ic, xt_if_eq, xt_ir, xt_nop, mF_19 mh_Mo, xq_218_13_virtualm mh_Mo, xq_234_13_virtualm mh_Mo, pF_0, pF_1, pF_2, pF_5, pF_6, pF_8, pF_12, pF_16, pF_17, pF_18, pF_22, pF_24, pF_19, pF_20, pF_21, pF_23, pN_19, pN_20, pN_21, pN_23, pA_63, pA_64, pA_65, pA_66, pA_67, pA_68, pA_69, pA_70, pA_71, wF_0, wF_1, wF_2, wF_3, wF_4, wF_5, wF_6, wF_7, wF_8, wF_9, wF_10, wF_11, wF_12, wF_13, wP_9, wP_10, wL_5, wC_5, wC_17, wD, hw_app, hw_len, wA_1, wA_2, wA_3, wA_4, wA_5, wA_6, wA_7, wA_8, wA_17, wW_1, wW_2, wW_3, wW_4, wW_5, wW_6, wW_7, wW_8, wW_17, mF_19 (Mo_hw H), xq_179_12_virtual wy_c, xq_181_62_virtual wy_c, xq_218_13_virtualm (Mo_hw H), xq_234_13_virtualm (Mo_hw H), pW_19, pWn_19, iN_add, iN_mul, iN_sub, iN_and, iN_or, iN_clr, iN_shl, iN_shr, tb_r1, b1_z, b1_or, b1_and, b1_or0, b1_or1, b1_0or, b1_t, b1_f, iN_lt, iN_inj, reduceIte, if_true, if_false, Nat.zero_add, Nat.add_zero, Bool.false_eq_true, Bool.true_eq_false, Nat.lt_irrefl, iN_az, not_true_eq_false, not_false_eq_true, Nat.reduceEqDiff, Nat.reduceLT, Nat.reduceAdd, Nat.reduceMul, Nat.reduceSub]
    · rw [gt_w, tv_t]
      rfl
set_option maxRecDepth 100000 in
theorem wF10' {j : _} : rt xs d m hs tt ((.getfield j, n, 12, 10) :: rr) (L, .ref (mh τ M σ μ ν Q).length :: st, hw (mh τ M σ μ ν0 Q) nn W β T) = rt xs d m hs tt rr (L, .int (nI (W 0 10)) :: st, hw (mh τ M σ μ ν0 Q) nn W β T) := by
  rw [show (mh τ M σ μ ν Q).length = (mh τ M σ μ ν0 Q).length by rw [mh_len, mh_len], wF_10]
set_option maxRecDepth 100000 in
theorem wF9' {j : _} : rt xs d m hs tt ((.getfield j, n, 12, 9) :: rr) (L, .ref (mh τ M σ μ ν Q).length :: st, hw (mh τ M σ μ ν0 Q) nn W β T) = rt xs d m hs tt rr (L, β :: st, hw (mh τ M σ μ ν0 Q) nn W β T) := by
  rw [show (mh τ M σ μ ν Q).length = (mh τ M σ μ ν0 Q).length by rw [mh_len, mh_len], wF_9]
-- best
set_option maxRecDepth 100000 in
theorem m_257 (O : Ok σ) : ∃ ν' T v, ev xs (d + 14) 257 0 ([.ref 62, .retAddr 9], [], mh τ M σ μ ν Q) = some (.inl (some (.int (nI (v)))), mh τ M σ (u1 μ 0 0) ν' (Q ++ T)) ∧ GT T 181 2805 ∧ MOU σ ν ν' Q.length (Q ++ T) v (Gd σ (alr σ)) (wt σ) := by
  obtain ⟨hD1, hD2, hH1, hH2, hS, hC, hT, hR, hL, hQ⟩ := Ok_b O
  have H := mh_Mo (τ := τ) (M := M) (σ := σ) (μ := u1 μ 0 0) (ν := ν) (Q := Q)
  obtain ⟨W, e1, hX, hWT⟩ := m_218 (xs := xs) (d := d + 7) O H
  have hI := WT_IW O hX hWT
  obtain ⟨N, β, T, e2, f2, g1, g2, g3⟩ := m_183 (xs := xs) (d := d + (6 - (σ 1 6))) (P := fun t => PA σ W (σ 1 6) t) O H (fun t h => PA_162 O hWT h) (σ 1 6) 0 (Nat.zero_add _) W .null [] 0 hI (fun _ => Iff.rfl) rfl (.inl ⟨rfl, fun t _ ⟨k, hk, _⟩ => absurd hk (Nat.not_lt_zero k)⟩)
  rw [show d + (6 - (σ 1 6)) + (σ 1 6) + 7 = d + 13 by omega, List.nil_append] at e2
  rw [List.nil_append] at g1
  have at0 : ∀ t : Nat → Nat, TX 0 t (W 8) ∨ AT 0 t (W 8) := fun t => .inr fun j hj => absurd hj (Nat.not_lt_zero j)
  have hT : T.length ≤ 163 := by
    have : pot .null (W 0 10) = 163 := rfl
    omega
  refine ⟨if β = .null then ν else uv ν 0 β, wcs (72 + Q.length) (σ 1 6) N β ++ T, if β = .null then 4294967295 else N 0 10, ?_, GT_ww hL hT g3, ?_⟩
  · rw [← hw_mh]
    clear g2 g3 f2 hI hX hWT at0
    rcases g1 with ⟨h1, -⟩ | ⟨i, t, h1, -⟩
    · subst h1
      simp (disch := first | assumption | omega | exact st8_a (Nat.le_of_ble_eq_true rfl)) only [e1, e2, eb_257_0, eb_257_1, eb_257_2, eb_257_3, eb_257_4, kl_a, kl_d, kl_f, kl_i, kl_l, kl_n, kl_r, xr_1, xr_10, xr_11, xr_12, xr_13, xr_14, xr_146, xr_147, xr_148, xr_149, xr_15, xr_150, xr_2, xr_3, xr_4, xr_5, xr_64, af_0, af_1, xt_ib, xt_ic, xt_ir, xt_nn_0, xt_nn_1, xq_218_13_virtualm mh_Mo, pF_0, pF_1, pF_2, pF_5, pF_6, pF_8, pF_12, pF_16, pF_17, pF_18, pF_22, pF_24, pF_19, pF_20, pF_21, pF_23, pN_19, pN_20, pN_21, pN_23, pA_63, pA_64, pA_65, pA_66, pA_67, pA_68, pA_69, pA_70, pA_71, wF_0, wF_1, wF_2, wF_3, wF_4, wF_5, wF_6, wF_7, wF_8, wF_9, wF_10, wF_11, wF_12, wF_13, wP_9, wP_10, wL_5, wC_5, wC_17, wD, hw_app, hw_len, wA_1, wA_2, wA_3, wA_4, wA_5, wA_6, wA_7, wA_8, wA_17, wW_1, wW_2, wW_3, wW_4, wW_5, wW_6, wW_7, wW_8, wW_17, xq_183_12_virtual wy_c, xq_218_13_virtualm (Mo_hw H), pW_19, pWn_19, iN_add, iN_mul, iN_sub, iN_and, iN_or, iN_clr, iN_shl, iN_shr, tb_r1, b1_z, b1_or, b1_and, b1_or0, b1_or1, b1_0or, b1_t, b1_f, iN_lt, iN_inj, reduceIte, if_true, if_false, Nat.zero_add, Nat.add_zero, Bool.false_eq_true, Bool.true_eq_false, Nat.lt_irrefl, iN_az, not_true_eq_false, not_false_eq_true, Nat.reduceEqDiff, Nat.reduceLT, Nat.reduceAdd, Nat.reduceMul, Nat.reduceSub]
    · subst h1
      rw [if_neg (by intro h; cases h), if_neg (by intro h; cases h)]
      simp (disch := first | assumption | omega | exact st8_a (Nat.le_of_ble_eq_true rfl)) only [e1, e2, wF10', eb_257_0, eb_257_1, eb_257_2, eb_257_3, eb_257_4, kl_a, kl_d, kl_f, kl_i, kl_l, kl_n, kl_r, xr_1, xr_10, xr_11, xr_12, xr_13, xr_14, xr_146, xr_147, xr_148, xr_149, xr_15, xr_150, xr_2, xr_3, xr_4, xr_5, xr_64, af_0, af_1, xt_ib, xt_ic, xt_ir, xt_nn_0, xt_nn_1, xq_218_13_virtualm mh_Mo, pF_0, pF_1, pF_2, pF_5, pF_6, pF_8, pF_12, pF_16, pF_17, pF_18, pF_22, pF_24, pF_19, pF_20, pF_21, pF_23, pN_19, pN_20, pN_21, pN_23, pA_63, pA_64, pA_65, pA_66, pA_67, pA_68, pA_69, pA_70, pA_71, wF_0, wF_1, wF_2, wF_3, wF_4, wF_5, wF_6, wF_7, wF_8, wF_9, wF_10, wF_11, wF_12, wF_13, wP_9, wP_10, wL_5, wC_5, wC_17, wD, hw_app, hw_len, wA_1, wA_2, wA_3, wA_4, wA_5, wA_6, wA_7, wA_8, wA_17, wW_1, wW_2, wW_3, wW_4, wW_5, wW_6, wW_7, wW_8, wW_17, xq_183_12_virtual wy_c, xq_218_13_virtualm (Mo_hw H), pW_19, pWn_19, iN_add, iN_mul, iN_sub, iN_and, iN_or, iN_clr, iN_shl, iN_shr, tb_r1, b1_z, b1_or, b1_and, b1_or0, b1_or1, b1_0or, b1_t, b1_f, iN_lt, iN_inj, reduceIte, if_true, if_false, Nat.zero_add, Nat.add_zero, Bool.false_eq_true, Bool.true_eq_false, Nat.lt_irrefl, iN_az, not_true_eq_false, not_false_eq_true, Nat.reduceEqDiff, Nat.reduceLT, Nat.reduceAdd, Nat.reduceMul, Nat.reduceSub]
  · rcases g1 with ⟨h1, h2⟩ | ⟨i, t, h1, h2, h3, -, h5, h6⟩
    · subst h1
      rw [if_pos rfl, if_pos rfl]
      exact ⟨fun _ _ => rfl, .inl ⟨rfl, rfl, fun s r h => h2 _ (PA_G O hWT h (.inl rfl)) (at0 _)⟩⟩
    · subst h1
      rw [if_neg (by intro h; cases h), if_neg (by intro h; cases h)]
      obtain ⟨p1, p2, p3⟩ := (PA_Gd O hWT).mp h3
      have hv := PA_162 O hWT h3
      have hwt : ∀ s r, Gd σ (alr σ) s r → wtt σ (tv σ s r) = wt σ s r := fun s r h => wt_cg (tv_AG fun l hl => (h.1 l hl).2)
      refine ⟨fun _ h => if_neg h, .inr ⟨Q.length + (18 + i), fun l => t l / (σ 1 5), fun l => t l % (σ 1 5), ?_, Nat.le_add_right _ _, ?_, fun l hl => ⟨(vb O (p1 l hl)).2.1, (vb O (p1 l hl)).2.2.1⟩, p2, h5.symm, by omega, fun s r h => ?_, fun s r h h7 hx => ?_⟩⟩
      · rw [len_w (τ := τ) (M := M) (σ := σ) (μ := u1 μ 0 0) (ν := ν)]
        exact if_pos rfl
      · rw [gt_w, tv_t]
        exact h2
      · rw [← hwt s r h]
        exact (h6 _ (PA_G O hWT h (.inl rfl)) (at0 _)).1
      · rw [← hwt s r h] at h7
        exact (h6 _ (PA_G O hWT h (.inl rfl)) (at0 _)).2 h7 (TX_n O (fun l hl => (h.1 l hl).2) hx)
-- fairest
set_option maxRecDepth 100000 in
theorem m_264 (O : Ok σ) (hν : ν 0 = .null ∨ ∃ a, ν 0 = .ref a) : ∃ ν' T v, ev xs (d + 14) 264 0 ([.ref 62, .retAddr 9], [], mh τ M σ μ ν Q) = some (.inl (some (.int (nI (b1 (decide (v ≠ 4294967295)))))), mh τ M σ (u1 μ 0 0) ν' (Q ++ T)) ∧ GT T 186 2835 ∧ MOU σ ν ν' Q.length (Q ++ T) v (Gd σ (alr σ)) (fun s _ => sm (σ 1 4) fun t => 5 ^ shr σ s t) := by
  obtain ⟨hD1, hD2, hH1, hH2, hS, hC, hT, hR, hL, hQ⟩ := Ok_b O
  have H := mh_Mo (τ := τ) (M := M) (σ := σ) (μ := u1 μ 0 0) (ν := ν) (Q := Q)
  obtain ⟨W, e1, hX, hWT⟩ := m_218 (xs := xs) (d := d + 7) O H
  have hI := WT_IW O hX hWT
  obtain ⟨N, β, T, e2, f2, -, g1, g2, g3⟩ := m_184 (xs := xs) (d := d + (6 - (σ 1 6))) (P := fun t => PA σ W (σ 1 6) t) O H (σ 1 6) 0 (Nat.zero_add _) W .null [] hI (fun _ => Iff.rfl) hX.2 (.inl ⟨rfl, fun t _ ⟨k, hk, _⟩ => absurd hk (Nat.not_lt_zero k)⟩)
  rw [show d + (6 - (σ 1 6)) + (σ 1 6) + 7 = d + 13 by omega, List.nil_append] at e2
  rw [List.nil_append] at g1
  have at0 : ∀ t : Nat → Nat, TX 0 t (W 8) ∨ AT 0 t (W 8) := fun t => .inr fun j hj => absurd hj (Nat.not_lt_zero j)
  have hT : T.length ≤ 168 := by
    have : potf .null (W 17) = 168 := rfl
    omega
  have hid := uv_id (ν := ν) (k := 0)
  rcases g1 with ⟨h1, h2⟩ | ⟨i, t, h1, h2, h3, -, h5, h6⟩
  · subst h1
    refine ⟨ν, wcs (72 + Q.length) (σ 1 6) N .null ++ T, 4294967295, ?_, GT_ww hL hT g3, fun _ _ => rfl, .inl ⟨rfl, rfl, fun s r h => h2 _ (PA_G O hWT h (.inl rfl)) (at0 _)⟩⟩
    rw [← hw_mh, show b1 (decide (4294967295 ≠ 4294967295)) = 0 from rfl]
    clear g2 g3 f2 hI hX hWT at0 h2
    rcases hν with h | ⟨a, h⟩
    · rw [h] at hid
      simp (disch := first | assumption | omega | exact st8_a (Nat.le_of_ble_eq_true rfl)) only [e1, e2, h, hid, wF9', eb_264_0, eb_264_1, eb_264_2, eb_264_3, eb_264_4, eb_264_5, eb_264_6, eb_264_7, eb_264_8, kl_a, kl_d, kl_f, kl_i, kl_l, kl_n, kl_r, xr_1, xr_10, xr_11, xr_12, xr_13, xr_14, xr_146, xr_147, xr_148, xr_149, xr_15, xr_150, xr_2, xr_27, xr_3, xr_4, xr_5, af_0, af_1, xt_goto, xt_ib, xt_ic, xt_ir, xt_nn_0, xt_nn_1, xt_nop, xt_nu_0, xt_nu_1, mF_19 mh_Mo, xq_218_13_virtualm mh_Mo, pF_0, pF_1, pF_2, pF_5, pF_6, pF_8, pF_12, pF_16, pF_17, pF_18, pF_22, pF_24, pF_19, pF_20, pF_21, pF_23, pN_19, pN_20, pN_21, pN_23, pA_63, pA_64, pA_65, pA_66, pA_67, pA_68, pA_69, pA_70, pA_71, wF_0, wF_1, wF_2, wF_3, wF_4, wF_5, wF_6, wF_7, wF_8, wF_9, wF_10, wF_11, wF_12, wF_13, wP_9, wP_10, wL_5, wC_5, wC_17, wD, hw_app, hw_len, wA_1, wA_2, wA_3, wA_4, wA_5, wA_6, wA_7, wA_8, wA_17, wW_1, wW_2, wW_3, wW_4, wW_5, wW_6, wW_7, wW_8, wW_17, mF_19 (Mo_hw H), xq_184_12_virtual wy_c, xq_218_13_virtualm (Mo_hw H), pW_19, pWn_19, iN_add, iN_mul, iN_sub, iN_and, iN_or, iN_clr, iN_shl, iN_shr, tb_r1, b1_z, b1_or, b1_and, b1_or0, b1_or1, b1_0or, b1_t, b1_f, iN_lt, iN_inj, reduceIte, if_true, if_false, Nat.zero_add, Nat.add_zero, Bool.false_eq_true, Bool.true_eq_false, Nat.lt_irrefl, iN_az, not_true_eq_false, not_false_eq_true, Nat.reduceEqDiff, Nat.reduceLT, Nat.reduceAdd, Nat.reduceMul, Nat.reduceSub]
    · rw [h] at hid
      simp (disch := first | assumption | omega | exact st8_a (Nat.le_of_ble_eq_true rfl)) only [e1, e2, h, hid, wF9', eb_264_0, eb_264_1, eb_264_2, eb_264_3, eb_264_4, eb_264_5, eb_264_6, eb_264_7, eb_264_8, kl_a, kl_d, kl_f, kl_i, kl_l, kl_n, kl_r, xr_1, xr_10, xr_11, xr_12, xr_13, xr_14, xr_146, xr_147, xr_148, xr_149, xr_15, xr_150, xr_2, xr_27, xr_3, xr_4, xr_5, af_0, af_1, xt_goto, xt_ib, xt_ic, xt_ir, xt_nn_0, xt_nn_1, xt_nop, xt_nu_0, xt_nu_1, mF_19 mh_Mo, xq_218_13_virtualm mh_Mo, pF_0, pF_1, pF_2, pF_5, pF_6, pF_8, pF_12, pF_16, pF_17, pF_18, pF_22, pF_24, pF_19, pF_20, pF_21, pF_23, pN_19, pN_20, pN_21, pN_23, pA_63, pA_64, pA_65, pA_66, pA_67, pA_68, pA_69, pA_70, pA_71, wF_0, wF_1, wF_2, wF_3, wF_4, wF_5, wF_6, wF_7, wF_8, wF_9, wF_10, wF_11, wF_12, wF_13, wP_9, wP_10, wL_5, wC_5, wC_17, wD, hw_app, hw_len, wA_1, wA_2, wA_3, wA_4, wA_5, wA_6, wA_7, wA_8, wA_17, wW_1, wW_2, wW_3, wW_4, wW_5, wW_6, wW_7, wW_8, wW_17, mF_19 (Mo_hw H), xq_184_12_virtual wy_c, xq_218_13_virtualm (Mo_hw H), pW_19, pWn_19, iN_add, iN_mul, iN_sub, iN_and, iN_or, iN_clr, iN_shl, iN_shr, tb_r1, b1_z, b1_or, b1_and, b1_or0, b1_or1, b1_0or, b1_t, b1_f, iN_lt, iN_inj, reduceIte, if_true, if_false, Nat.zero_add, Nat.add_zero, Bool.false_eq_true, Bool.true_eq_false, Nat.lt_irrefl, iN_az, not_true_eq_false, not_false_eq_true, Nat.reduceEqDiff, Nat.reduceLT, Nat.reduceAdd, Nat.reduceMul, Nat.reduceSub]
  · subst h1
    obtain ⟨p1, p2, p3⟩ := (PA_Gd O hWT).mp h3
    have hv : kvl σ (σ 1 6) t ≤ 4 * 15625 := by
      have : kvl σ (σ 1 6) t ≤ (σ 1 4) * 15625 := sm_le fun u _ => by
        have := shm_le (σ := σ) (u := u) (tab := t) (m := (σ 1 6))
        exact Nat.le_trans (Nat.pow_le_pow_right (by decide) (Nat.le_trans this hL)) (by decide)
      omega
    have hwt : ∀ s r, Gd σ (alr σ) s r → kvl σ (σ 1 6) (tv σ s r) = sm (σ 1 4) fun t => 5 ^ shr σ s t := fun s r h => sm_cg fun u _ => by
      rw [← shr_cg (fun l hl => (tv_AG (σ := σ) (fun l hl => (h.1 l hl).2) l hl).1)]
      rfl
    refine ⟨uv ν 0 (.ref (72 + (Q.length + (18 + i)))), wcs (72 + Q.length) (σ 1 6) N (.ref ((mh τ M σ (u1 μ 0 0) ν Q).length + (18 + i))) ++ T, kvl σ (σ 1 6) t, ?_, GT_ww hL hT g3, fun _ h => if_neg h, .inr ⟨Q.length + (18 + i), fun l => t l / (σ 1 5), fun l => t l % (σ 1 5), if_pos rfl, Nat.le_add_right _ _, ?_, fun l hl => ⟨(vb O (p1 l hl)).2.1, (vb O (p1 l hl)).2.2.1⟩, p2, rfl, by omega, fun s r h => ?_, fun s r h h7 hx => ?_⟩⟩
    · have hne : kvl σ (σ 1 6) t ≠ 4294967295 := by omega
      rw [len_w (τ := τ) (M := M) (σ := σ) (μ := u1 μ 0 0) (ν := ν), ← hw_mh, decide_eq_true hne, b1_t]
      clear g2 g3 f2 hI hX hWT at0 h2 h3 h5 h6 p1 p2 p3 hwt hν
      simp (disch := first | assumption | omega | exact st8_a (Nat.le_of_ble_eq_true rfl)) only [e1, e2, wF9', eb_264_0, eb_264_1, eb_264_2, eb_264_3, eb_264_4, eb_264_5, eb_264_6, eb_264_7, eb_264_8, kl_a, kl_d, kl_f, kl_i, kl_l, kl_n, kl_r, xr_1, xr_10, xr_11, xr_12, xr_13, xr_14, xr_146, xr_147, xr_148, xr_149, xr_15, xr_150, xr_2, xr_27, xr_3, xr_4, xr_5, af_0, af_1, xt_goto, xt_ib, xt_ic, xt_ir, xt_nn_0, xt_nn_1, xt_nop, xt_nu_0, xt_nu_1, mF_19 mh_Mo, xq_218_13_virtualm mh_Mo, pF_0, pF_1, pF_2, pF_5, pF_6, pF_8, pF_12, pF_16, pF_17, pF_18, pF_22, pF_24, pF_19, pF_20, pF_21, pF_23, pN_19, pN_20, pN_21, pN_23, pA_63, pA_64, pA_65, pA_66, pA_67, pA_68, pA_69, pA_70, pA_71, wF_0, wF_1, wF_2, wF_3, wF_4, wF_5, wF_6, wF_7, wF_8, wF_9, wF_10, wF_11, wF_12, wF_13, wP_9, wP_10, wL_5, wC_5, wC_17, wD, hw_app, hw_len, wA_1, wA_2, wA_3, wA_4, wA_5, wA_6, wA_7, wA_8, wA_17, wW_1, wW_2, wW_3, wW_4, wW_5, wW_6, wW_7, wW_8, wW_17, mF_19 (Mo_hw H), xq_184_12_virtual wy_c, xq_218_13_virtualm (Mo_hw H), pW_19, pWn_19, iN_add, iN_mul, iN_sub, iN_and, iN_or, iN_clr, iN_shl, iN_shr, tb_r1, b1_z, b1_or, b1_and, b1_or0, b1_or1, b1_0or, b1_t, b1_f, iN_lt, iN_inj, reduceIte, if_true, if_false, Nat.zero_add, Nat.add_zero, Bool.false_eq_true, Bool.true_eq_false, Nat.lt_irrefl, iN_az, not_true_eq_false, not_false_eq_true, Nat.reduceEqDiff, Nat.reduceLT, Nat.reduceAdd, Nat.reduceMul, Nat.reduceSub]
    · rw [gt_w, tv_t]
      exact h2
    · show kvl σ (σ 1 6) t ≤ sm (σ 1 4) fun t => 5 ^ shr σ s t
      rw [← hwt s r h]
      exact (h6 _ (PA_G O hWT h (.inl rfl)) (at0 _)).1
    · have h8 : (sm (σ 1 4) fun t => 5 ^ shr σ s t) = kvl σ (σ 1 6) t := h7
      rw [← hwt s r h] at h8
      exact (h6 _ (PA_G O hWT h (.inl rfl)) (at0 _)).2 h8 (TX_n O (fun l hl => (h.1 l hl).2) hx)
-- wishes
set_option maxRecDepth 100000 in
theorem m_261 (O : Ok σ) (ha : a < 4294967296) (hb : b < 4294967296) : ev xs (d + 2) 261 0 ([.ref 62, .int (nI a), .int (nI b)], [], mh τ M σ μ ν Q) = if a < (σ 1 4) ∧ b < (σ 1 0) then some (.inl (some (.int (nI (0)))), mh τ M σ (u1 μ 0 0) ν Q) else some (.inl (some (.int (nI (1)))), mh τ M σ (u1 μ 0 1) ν Q) := by
  obtain ⟨hD1, hD2, hH1, hH2, hS, hC, hT, hR, hL, hQ⟩ := Ok_b O
  have hD3 : (σ 1 0) < 1000 := by omega
  by_cases h1 : a < (σ 1 4)
  · by_cases h2 : b < (σ 1 0)
    · rw [if_pos ⟨h1, h2⟩]
      simp (disch := first | assumption | omega | exact st8_a (Nat.le_of_ble_eq_true rfl)) only [m_191 O mh_Mo ha, m_188n hb hD3, decide_eq_true h1, decide_eq_true h2, en1, eb_261_0, eb_261_1, eb_261_2, eb_261_3, eb_261_4, eb_261_6, eb_261_7, xr_1, xr_10, xr_2, xr_27, xr_28, xr_3, xr_31, xr_4, xr_5, xr_77, af_0, af_1, xt_goto, xt_ib, xt_ic, xt_if_eq, xt_ir, xt_nop, mF_0 mh_Mo, xq_187_13_virtualm mh_Mo, xq_188_200_static, xq_191_13_virtualm mh_Mo, pF_0, pF_1, pF_2, pF_5, pF_6, pF_8, pF_12, pF_16, pF_17, pF_18, pF_22, pF_24, pF_19, pF_20, pF_21, pF_23, pN_19, pN_20, pN_21, pN_23, pA_63, pA_64, pA_65, pA_66, pA_67, pA_68, pA_69, pA_70, pA_71, iN_add, iN_mul, iN_and, iN_or, iN_clr, iN_shl, iN_shr, tb_r1, b1_z, b1_or, b1_and, b1_or0, b1_or1, b1_0or, b1_t, b1_f, iN_lt, iN_inj, reduceIte, if_true, if_false, Nat.zero_add, Nat.add_zero, Bool.false_eq_true, Bool.true_eq_false, Nat.lt_irrefl, iN_az, not_true_eq_false, not_false_eq_true, Nat.reduceEqDiff, Nat.reduceLT, Nat.reduceAdd, Nat.reduceMul, Nat.reduceSub]
    · rw [if_neg fun z => h2 z.2]
      simp (disch := first | assumption | omega | exact st8_a (Nat.le_of_ble_eq_true rfl)) only [m_191 O mh_Mo ha, m_188n hb hD3, decide_eq_true h1, decide_eq_false h2, en0, eb_261_0, eb_261_1, eb_261_2, eb_261_3, eb_261_5, eb_261_6, eb_261_7, xr_1, xr_10, xr_2, xr_27, xr_28, xr_3, xr_31, xr_4, xr_5, xr_77, af_0, af_1, xt_goto, xt_ib, xt_ic, xt_if_eq, xt_ir, xt_nop, mF_0 mh_Mo, xq_187_13_virtualm mh_Mo, xq_188_200_static, xq_191_13_virtualm mh_Mo, pF_0, pF_1, pF_2, pF_5, pF_6, pF_8, pF_12, pF_16, pF_17, pF_18, pF_22, pF_24, pF_19, pF_20, pF_21, pF_23, pN_19, pN_20, pN_21, pN_23, pA_63, pA_64, pA_65, pA_66, pA_67, pA_68, pA_69, pA_70, pA_71, iN_add, iN_mul, iN_and, iN_or, iN_clr, iN_shl, iN_shr, tb_r1, b1_z, b1_or, b1_and, b1_or0, b1_or1, b1_0or, b1_t, b1_f, iN_lt, iN_inj, reduceIte, if_true, if_false, Nat.zero_add, Nat.add_zero, Bool.false_eq_true, Bool.true_eq_false, Nat.lt_irrefl, iN_az, not_true_eq_false, not_false_eq_true, Nat.reduceEqDiff, Nat.reduceLT, Nat.reduceAdd, Nat.reduceMul, Nat.reduceSub]
  · rw [if_neg fun z => h1 z.1]
    simp (disch := first | assumption | omega | exact st8_a (Nat.le_of_ble_eq_true rfl)) only [m_191 O mh_Mo ha, decide_eq_false h1, en0, eb_261_0, eb_261_1, eb_261_5, eb_261_6, eb_261_7, xr_1, xr_10, xr_2, xr_27, xr_28, xr_3, xr_31, xr_4, xr_5, xr_77, af_0, af_1, xt_goto, xt_ib, xt_ic, xt_if_eq, xt_ir, xt_nop, mF_0 mh_Mo, xq_187_13_virtualm mh_Mo, xq_188_200_static, xq_191_13_virtualm mh_Mo, pF_0, pF_1, pF_2, pF_5, pF_6, pF_8, pF_12, pF_16, pF_17, pF_18, pF_22, pF_24, pF_19, pF_20, pF_21, pF_23, pN_19, pN_20, pN_21, pN_23, pA_63, pA_64, pA_65, pA_66, pA_67, pA_68, pA_69, pA_70, pA_71, iN_add, iN_mul, iN_and, iN_or, iN_clr, iN_shl, iN_shr, tb_r1, b1_z, b1_or, b1_and, b1_or0, b1_or1, b1_0or, b1_t, b1_f, iN_lt, iN_inj, reduceIte, if_true, if_false, Nat.zero_add, Nat.add_zero, Bool.false_eq_true, Bool.true_eq_false, Nat.lt_irrefl, iN_az, not_true_eq_false, not_false_eq_true, Nat.reduceEqDiff, Nat.reduceLT, Nat.reduceAdd, Nat.reduceMul, Nat.reduceSub]
set_option maxRecDepth 100000 in
theorem m_263x (O : Ok σ) (ha : a < 4294967296) (hb : b < 4294967296) (h : ¬ (a < (σ 1 4) ∧ b < (σ 1 0))) : ev xs (d + 3) 263 0 ([.ref 62, .int (nI a), .int (nI b)], [], mh τ M σ μ ν Q) = some (.inl (some (.int (nI (0)))), mh τ M σ (u1 μ 0 1) ν Q) := by
  have e := m_261 (xs := xs) (d := d) (τ := τ) (M := M) (μ := μ) (ν := ν) (Q := Q) O ha hb
  rw [if_neg h] at e
  simp (disch := first | assumption | omega | exact st8_a (Nat.le_of_ble_eq_true rfl)) only [e, eb_263_0, eb_263_1, eb_263_2, eb_263_4, xr_1, xr_10, xr_2, xr_28, xr_3, xr_31, xr_4, xr_5, af_0, af_1, xt_goto, xt_ib, xt_ic, xt_if_eq, xt_ir, xq_245_13_virtualm mh_Mo, xq_261_13_virtualm mh_Mo, pF_0, pF_1, pF_2, pF_5, pF_6, pF_8, pF_12, pF_16, pF_17, pF_18, pF_22, pF_24, pF_19, pF_20, pF_21, pF_23, pN_19, pN_20, pN_21, pN_23, pA_63, pA_64, pA_65, pA_66, pA_67, pA_68, pA_69, pA_70, pA_71, iN_add, iN_mul, iN_sub, iN_and, iN_or, iN_clr, iN_shl, iN_shr, tb_r1, b1_z, b1_or, b1_and, b1_or0, b1_or1, b1_0or, b1_t, b1_f, iN_lt, iN_inj, reduceIte, if_true, if_false, Nat.zero_add, Nat.add_zero, Bool.false_eq_true, Bool.true_eq_false, Nat.lt_irrefl, iN_az, not_true_eq_false, not_false_eq_true, Nat.reduceEqDiff, Nat.reduceLT, Nat.reduceAdd, Nat.reduceMul, Nat.reduceSub]
set_option maxRecDepth 100000 in
theorem m_263 (O : Ok σ) (h : a < (σ 1 4) ∧ b < (σ 1 0)) : ∃ T v, ev xs (d + 16) 263 0 ([.ref 62, .int (nI a), .int (nI b)], [], mh τ M σ μ ν Q) = some (.inl (some (.int (nI (v)))), mh τ M σ (u1 μ 0 0) ν (Q ++ T)) ∧ GT T 18 1827 ∧ ((KB σ a b (alr σ) ∧ v = 4294967295) ∨ (¬ KB σ a b (alr σ) ∧ v < 1024 ∧ ST σ a b (σ 1 7) (alr σ) v)) := by
  obtain ⟨hD1, hD2, hH1, hH2, hS, hC, hT, hR, hL, hQ⟩ := Ok_b O
  have e := m_261 (xs := xs) (d := d + 13) (τ := τ) (M := M) (μ := μ) (ν := ν) (Q := Q) O (show a < 4294967296 by omega) (show b < 4294967296 by omega)
  rw [if_pos h] at e
  obtain ⟨N, v, e2, q⟩ := m_245 (xs := xs) (d := d) (t := a) (y := b) O (mh_Mo (τ := τ) (M := M) (σ := σ) (μ := u1 μ 0 0) (ν := ν) (Q := Q)) (.inr h)
  refine ⟨wcs (72 + Q.length) (σ 1 6) N .null ++ [], v, ?_, GT_w (GT_ww hL (c := 0) (Nat.le_refl _) SZ_0) (by decide) (by decide), q⟩
  rw [hw_mh] at e2
  clear q
  simp (disch := first | assumption | omega | exact st8_a (Nat.le_of_ble_eq_true rfl)) only [e, e2, eb_263_0, eb_263_1, eb_263_3, eb_263_4, xr_1, xr_10, xr_2, xr_28, xr_3, xr_31, xr_4, xr_5, af_0, af_1, xt_goto, xt_ib, xt_ic, xt_if_eq, xt_ir, xq_245_13_virtualm mh_Mo, xq_261_13_virtualm mh_Mo, pF_0, pF_1, pF_2, pF_5, pF_6, pF_8, pF_12, pF_16, pF_17, pF_18, pF_22, pF_24, pF_19, pF_20, pF_21, pF_23, pN_19, pN_20, pN_21, pN_23, pA_63, pA_64, pA_65, pA_66, pA_67, pA_68, pA_69, pA_70, pA_71, iN_add, iN_mul, iN_sub, iN_and, iN_or, iN_clr, iN_shl, iN_shr, tb_r1, b1_z, b1_or, b1_and, b1_or0, b1_or1, b1_0or, b1_t, b1_f, iN_lt, iN_inj, reduceIte, if_true, if_false, Nat.zero_add, Nat.add_zero, Bool.false_eq_true, Bool.true_eq_false, Nat.lt_irrefl, iN_az, not_true_eq_false, not_false_eq_true, Nat.reduceEqDiff, Nat.reduceLT, Nat.reduceAdd, Nat.reduceMul, Nat.reduceSub]
set_option maxRecDepth 100000 in
theorem m_246 (O : Ok σ) : ∃ T v, ev xs (d + 16) 246 0 ([.ref 62], [], mh τ M σ μ ν Q) = some (.inl (some (.int (nI (v)))), mh τ M σ (u1 μ 0 0) ν (Q ++ T)) ∧ GT T 18 1827 ∧ ((KB σ 4294967295 0 (alr σ) ∧ v = 4294967295) ∨ (¬ KB σ 4294967295 0 (alr σ) ∧ v < 1024 ∧ ST σ 4294967295 0 (σ 1 7) (alr σ) v)) := by
  obtain ⟨hD1, hD2, hH1, hH2, hS, hC, hT, hR, hL, hQ⟩ := Ok_b O
  obtain ⟨N, v, e2, q⟩ := m_245 (xs := xs) (d := d) (t := 4294967295) (y := 0) O (mh_Mo (τ := τ) (M := M) (σ := σ) (μ := u1 μ 0 0) (ν := ν) (Q := Q)) (.inl rfl)
  refine ⟨wcs (72 + Q.length) (σ 1 6) N .null ++ [], v, ?_, GT_w (GT_ww hL (c := 0) (Nat.le_refl _) SZ_0) (by decide) (by decide), q⟩
  rw [hw_mh] at e2
  clear q
  simp (disch := first | assumption | omega | exact st8_a (Nat.le_of_ble_eq_true rfl)) only [e2, eb_246_0, eb_246_1, xr_1, xr_10, xr_2, xr_3, xr_4, xr_5, xr_64, af_0, af_1, xt_ib, xt_ic, xt_ir, xq_245_13_virtualm mh_Mo, pF_0, pF_1, pF_2, pF_5, pF_6, pF_8, pF_12, pF_16, pF_17, pF_18, pF_22, pF_24, pF_19, pF_20, pF_21, pF_23, pN_19, pN_20, pN_21, pN_23, pA_63, pA_64, pA_65, pA_66, pA_67, pA_68, pA_69, pA_70, pA_71, iN_add, iN_mul, iN_sub, iN_and, iN_or, iN_clr, iN_shl, iN_shr, tb_r1, b1_z, b1_or, b1_and, b1_or0, b1_or1, b1_0or, b1_t, b1_f, iN_lt, iN_inj, reduceIte, if_true, if_false, Nat.zero_add, Nat.add_zero, Bool.false_eq_true, Bool.true_eq_false, Nat.lt_irrefl, iN_az, not_true_eq_false, not_false_eq_true, Nat.reduceEqDiff, Nat.reduceLT, Nat.reduceAdd, Nat.reduceMul, Nat.reduceSub]
set_option maxRecDepth 100000 in
theorem m_247q (O : Ok σ) {n0 : Nat} (hRS : RS σ n0 g) (h0 : n0 ≤ 252) : ∃ T f, ev xs (d + 15) 247 0 ([.ref 62, .retAddr 9, .retAddr 9, .retAddr 9, .retAddr 9, .retAddr 9, .retAddr 9], [], mh τ M σ μ ν Q) = some (.inl (some (.ref (72 + (Q.length + (18 + 1))))), mh τ M σ μ ν (Q ++ T)) ∧ (Q ++ T)[Q.length + (18 + 1)]? = some (oI (ar n0 f)) ∧ GT T 20 3103 ∧ ∀ i, i < n0 → f i = g i := by
  obtain ⟨hD1, hD2, hH1, hH2, hS, hC, hT, hR, hL, hQ⟩ := Ok_b O
  obtain ⟨N, n, f, e, h1, h2⟩ := m_247 (xs := xs) (d := d) O (mh_Mo (τ := τ) (M := M) (σ := σ) (μ := μ) (ν := ν) (Q := Q))
  obtain ⟨rfl, h4⟩ := RS_u h2 hRS
  rw [hw_mh, show (mh τ M σ μ ν Q).length + 19 = 72 + (Q.length + (18 + 1)) by rw [mh_len]; omega] at e
  have ha := alr_lt O
  refine ⟨_, f, e, gt_w 1, ?_, h4⟩
  exact GT_w (GT_a (GT_wc hL) (GT_a (A := [_]) (B := [_]) (GT_1 (a := 1024) (by omega)) (GT_1 (a := 252) h0))) (by decide) (by decide)
set_option maxRecDepth 100000 in
theorem m_248 (O : Ok σ) {n0 : Nat} (hRS : RS σ n0 g) (h0 : n0 ≤ 252) : ∃ T, ev xs (d + 16) 248 0 ([.ref 62], [], mh τ M σ μ ν Q) = some (.inl (some (.int (nI (n0)))), mh τ M σ (u1 μ 0 0) ν (Q ++ T)) ∧ GT T 20 3103 := by
  obtain ⟨T, f, e, q1, q2, q3⟩ := m_247q (xs := xs) (d := d) (τ := τ) (M := M) (μ := u1 μ 0 0) (ν := ν) (Q := Q) O hRS h0
  refine ⟨T, ?_, q2⟩
  have q4 : (mh τ M σ (u1 μ 0 0) ν (Q ++ T))[72 + (Q.length + (18 + 1))]? = _ := mh_Q.trans q1
  clear q2 q3 hRS
  simp (disch := first | assumption | omega | exact st8_a (Nat.le_of_ble_eq_true rfl)) only [e, q_ln q4, eb_248_0, eb_248_1, xr_1, xr_10, xr_2, xr_3, xr_4, xr_5, af_0, af_1, xt_ib, xt_ic, xt_ir, xq_247_13_virtualm mh_Mo, pF_0, pF_1, pF_2, pF_5, pF_6, pF_8, pF_12, pF_16, pF_17, pF_18, pF_22, pF_24, pF_19, pF_20, pF_21, pF_23, pN_19, pN_20, pN_21, pN_23, pA_63, pA_64, pA_65, pA_66, pA_67, pA_68, pA_69, pA_70, pA_71, iN_add, iN_mul, iN_sub, iN_and, iN_or, iN_clr, iN_shl, iN_shr, tb_r1, b1_z, b1_or, b1_and, b1_or0, b1_or1, b1_0or, b1_t, b1_f, iN_lt, iN_inj, reduceIte, if_true, if_false, Nat.zero_add, Nat.add_zero, Bool.false_eq_true, Bool.true_eq_false, Nat.lt_irrefl, iN_az, not_true_eq_false, not_false_eq_true, Nat.reduceEqDiff, Nat.reduceLT, Nat.reduceAdd, Nat.reduceMul, Nat.reduceSub]
set_option maxRecDepth 100000 in
theorem m_249 (O : Ok σ) {n0 : Nat} (hRS : RS σ n0 g) (h0 : n0 ≤ 252) (hu : u < 4294967296) : ∃ T, ev xs (d + 16) 249 0 ([.ref 62, .int (nI u), .retAddr 9], [], mh τ M σ μ ν Q) = (if u < n0 then some (.inl (some (.int (nI (g u)))), mh τ M σ (u1 μ 0 0) ν (Q ++ T)) else some (.inl (some (.int (nI (0)))), mh τ M σ (u1 μ 0 1) ν (Q ++ T))) ∧ GT T 20 3103 := by
  obtain ⟨T, f, e, q1, q2, q3⟩ := m_247q (xs := xs) (d := d) (τ := τ) (M := M) (μ := μ) (ν := ν) (Q := Q) O hRS h0
  refine ⟨T, ?_, q2⟩
  have q4 : (mh τ M σ μ ν (Q ++ T))[72 + (Q.length + (18 + 1))]? = _ := mh_Q.trans q1
  have hn : n0 < 1000 := by omega
  by_cases h : u < n0
  · rw [if_pos h, ← q3 u h]
    clear q2 q3 hRS
    simp (disch := first | assumption | omega | exact st8_a (Nat.le_of_ble_eq_true rfl)) only [e, q_ln q4, m_188n hu hn, decide_eq_true h, en1, pQ_l q1, eb_249_0, eb_249_1, eb_249_2, eb_249_3, eb_249_5, eb_249_6, kl_a, kl_d, kl_f, kl_i, kl_l, kl_n, kl_r, xr_1, xr_10, xr_135, xr_136, xr_137, xr_138, xr_139, xr_16, xr_17, xr_18, xr_19, xr_2, xr_20, xr_27, xr_28, xr_3, xr_4, xr_5, xr_77, af_0, af_1, xt_goto, xt_ib, xt_ic, xt_if_eq, xt_ir, xt_nop, mA_63 mh_Mo, mA_64 mh_Mo, mA_65 mh_Mo, mA_66 mh_Mo, mA_67 mh_Mo, mA_68 mh_Mo, mA_69 mh_Mo, mA_70 mh_Mo, mA_71 mh_Mo, xq_187_13_virtualm mh_Mo, xq_188_200_static, xq_247_13_virtualm mh_Mo, pF_0, pF_1, pF_2, pF_5, pF_6, pF_8, pF_12, pF_16, pF_17, pF_18, pF_22, pF_24, pF_19, pF_20, pF_21, pF_23, pN_19, pN_20, pN_21, pN_23, pA_63, pA_64, pA_65, pA_66, pA_67, pA_68, pA_69, pA_70, pA_71, iN_add, iN_mul, iN_and, iN_or, iN_clr, iN_shl, iN_shr, tb_r1, b1_z, b1_or, b1_and, b1_or0, b1_or1, b1_0or, b1_t, b1_f, iN_lt, iN_inj, reduceIte, if_true, if_false, Nat.zero_add, Nat.add_zero, Bool.false_eq_true, Bool.true_eq_false, Nat.lt_irrefl, iN_az, not_true_eq_false, not_false_eq_true, Nat.reduceEqDiff, Nat.reduceLT, Nat.reduceAdd, Nat.reduceMul, Nat.reduceSub]
  · rw [if_neg h]
    clear q2 q3 hRS
    simp (disch := first | assumption | omega | exact st8_a (Nat.le_of_ble_eq_true rfl)) only [e, q_ln q4, m_188n hu hn, decide_eq_false h, en0, eb_249_0, eb_249_1, eb_249_2, eb_249_3, eb_249_4, eb_249_6, kl_a, kl_d, kl_f, kl_i, kl_l, kl_n, kl_r, xr_1, xr_10, xr_135, xr_136, xr_137, xr_138, xr_139, xr_16, xr_17, xr_18, xr_19, xr_2, xr_20, xr_27, xr_28, xr_3, xr_4, xr_5, xr_77, af_0, af_1, xt_goto, xt_ib, xt_ic, xt_if_eq, xt_ir, xt_nop, mA_63 mh_Mo, mA_64 mh_Mo, mA_65 mh_Mo, mA_66 mh_Mo, mA_67 mh_Mo, mA_68 mh_Mo, mA_69 mh_Mo, mA_70 mh_Mo, mA_71 mh_Mo, xq_187_13_virtualm mh_Mo, xq_188_200_static, xq_247_13_virtualm mh_Mo, pF_0, pF_1, pF_2, pF_5, pF_6, pF_8, pF_12, pF_16, pF_17, pF_18, pF_22, pF_24, pF_19, pF_20, pF_21, pF_23, pN_19, pN_20, pN_21, pN_23, pA_63, pA_64, pA_65, pA_66, pA_67, pA_68, pA_69, pA_70, pA_71, iN_add, iN_mul, iN_and, iN_or, iN_clr, iN_shl, iN_shr, tb_r1, b1_z, b1_or, b1_and, b1_or0, b1_or1, b1_0or, b1_t, b1_f, iN_lt, iN_inj, reduceIte, if_true, if_false, Nat.zero_add, Nat.add_zero, Bool.false_eq_true, Bool.true_eq_false, Nat.lt_irrefl, iN_az, not_true_eq_false, not_false_eq_true, Nat.reduceEqDiff, Nat.reduceLT, Nat.reduceAdd, Nat.reduceMul, Nat.reduceSub]
set_option maxRecDepth 100000 in
theorem m_250x (O : Ok σ) (hu : u < 4294967296) (h : ¬ u < (σ 1 7)) : ev xs (d + 1) 250 0 ([.ref 62, .int (nI u), .retAddr 9], [], mh τ M σ μ ν Q) = some (.inl (some (.int (nI (0)))), mh τ M σ (u1 μ 0 1) ν Q) := by
  obtain ⟨hD1, hD2, hH1, hH2, hS, hC, hT, hR, hL, hQ⟩ := Ok_b O
  have hn : (σ 1 7) < 1000 := by omega
  simp (disch := first | assumption | omega | exact st8_a (Nat.le_of_ble_eq_true rfl)) only [m_188n hu hn, decide_eq_false h, en0, eb_250_0, eb_250_1, eb_250_2, eb_250_3, kl_a, kl_d, kl_f, kl_i, kl_l, kl_n, kl_r, xr_1, xr_10, xr_135, xr_136, xr_137, xr_138, xr_139, xr_145, xr_16, xr_17, xr_18, xr_19, xr_2, xr_20, xr_27, xr_28, xr_3, xr_4, xr_44, xr_5, xr_58, xr_64, xr_75, xr_77, xr_8, xr_9, af_0, af_1, xt_goto, xt_ib, xt_ic, xt_if_eq, xt_if_ne, xt_ir, xt_nop, mF_12 mh_Mo, xq_172_100_special, xq_187_13_virtualm mh_Mo, xq_188_200_static, xq_217_13_virtualm mh_Mo, xq_244_200_static, pF_0, pF_1, pF_2, pF_5, pF_6, pF_8, pF_12, pF_16, pF_17, pF_18, pF_22, pF_24, pF_19, pF_20, pF_21, pF_23, pN_19, pN_20, pN_21, pN_23, pA_63, pA_64, pA_65, pA_66, pA_67, pA_68, pA_69, pA_70, pA_71, iN_add, iN_mul, iN_and, iN_or, iN_clr, iN_shl, iN_shr, tb_r1, b1_z, b1_or, b1_and, b1_or0, b1_or1, b1_0or, b1_t, b1_f, iN_lt, iN_inj, reduceIte, if_true, if_false, Nat.zero_add, Nat.add_zero, Bool.false_eq_true, Bool.true_eq_false, Nat.lt_irrefl, iN_az, not_true_eq_false, not_false_eq_true, Nat.reduceEqDiff, Nat.reduceLT, Nat.reduceAdd, Nat.reduceMul, Nat.reduceSub]
set_option maxRecDepth 100000 in
theorem m_250 (O : Ok σ) (h : u < (σ 1 7)) : ∃ T, ∃ b : Bool, ev xs (d + 15) 250 0 ([.ref 62, .int (nI u), .retAddr 9], [], mh τ M σ μ ν Q) = some (.inl (some (.int (nI (b1 b)))), mh τ M σ (u1 μ 0 0) ν (Q ++ T)) ∧ GT T 18 1827 ∧ (b = true ↔ ¬ KS σ (alr σ) ∧ KS σ (clr (alr σ) (1 <<< u))) := by
  obtain ⟨hD1, hD2, hH1, hH2, hS, hC, hT, hR, hL, hQ⟩ := Ok_b O
  have H := mh_Mo (τ := τ) (M := M) (σ := σ) (μ := u1 μ 0 0) (ν := ν) (Q := Q)
  have hn : (σ 1 7) < 1000 := by omega
  have hu : u < 4294967296 := by omega
  obtain ⟨W, e1, hB, hZ⟩ := m_172 (xs := xs) (d := d + 9) O H
  have e2 := fun W => m_217 (xs := xs) (d := d + 14) O (Mo_hw (nn := (σ 1 6)) (W := W) (β := .null) (T := []) H)
  have hX : WX σ W := ⟨hB, fun i hi j _ => hZ (10 + i) (by omega) j⟩
  obtain ⟨N, b, e3, hX2, q1⟩ := m_244 (xs := xs) (d := d) (β := .null) (T := []) (t := 4294967295) (y := 0) O H hX (alr_lt O) (.inl rfl)
  rw [KS_KB] at q1
  cases b
  · have hc : clr (alr σ) (1 <<< u) < 1024 := by
      exact clr_lt (n := 10) (alr_lt O)
    obtain ⟨K, b2, e4, hX3, q2⟩ := m_244 (xs := xs) (d := d) (β := .null) (T := []) (t := 4294967295) (y := 0) O H hX2 hc (.inl rfl)
    rw [KS_KB] at q2
    refine ⟨wcs (72 + Q.length) (σ 1 6) K .null ++ [], b2, ?_, GT_w (GT_ww hL (c := 0) (Nat.le_refl _) SZ_0) (by decide) (by decide), ?_⟩
    · rw [← hw_mh]
      rw [b1_f] at e3
      have ha := alr_lt O
      have hsh := one_shl u
      clear q1 q2 hX hX2 hX3 hB hZ
      cases b2
      · rw [b1_f] at e4
        simp (disch := first | assumption | omega | exact st8_a (Nat.le_of_ble_eq_true rfl)) only [m_188n hu hn, decide_eq_true h, en1, xr_145, e1, e2, e3, e4, eb_250_0, eb_250_1, eb_250_2, eb_250_3, eb_250_4, eb_250_5, eb_250_6, eb_250_7, eb_250_8, eb_250_9, eb_250_10, eb_250_11, eb_250_12, eb_250_13, kl_a, kl_d, kl_f, kl_i, kl_l, kl_n, kl_r, xr_1, xr_10, xr_135, xr_136, xr_137, xr_138, xr_139, xr_16, xr_17, xr_18, xr_19, xr_2, xr_20, xr_27, xr_28, xr_3, xr_4, xr_44, xr_5, xr_58, xr_64, xr_75, xr_77, xr_8, xr_9, af_0, af_1, xt_goto, xt_ib, xt_ic, xt_if_eq, xt_if_ne, xt_ir, xt_nop, mF_12 mh_Mo, xq_172_100_special, xq_187_13_virtualm mh_Mo, xq_188_200_static, xq_217_13_virtualm mh_Mo, xq_244_200_static, pF_0, pF_1, pF_2, pF_5, pF_6, pF_8, pF_12, pF_16, pF_17, pF_18, pF_22, pF_24, pF_19, pF_20, pF_21, pF_23, pN_19, pN_20, pN_21, pN_23, pA_63, pA_64, pA_65, pA_66, pA_67, pA_68, pA_69, pA_70, pA_71, wF_0, wF_1, wF_2, wF_3, wF_4, wF_5, wF_6, wF_7, wF_8, wF_9, wF_10, wF_11, wF_12, wF_13, wP_9, wP_10, wL_5, wC_5, wC_17, wD, hw_app, hw_len, wA_1, wA_2, wA_3, wA_4, wA_5, wA_6, wA_7, wA_8, wA_17, wW_1, wW_2, wW_3, wW_4, wW_5, wW_6, wW_7, wW_8, wW_17, mF_12 (Mo_hw H), xq_187_13_virtualm (Mo_hw H), xq_217_13_virtualm (Mo_hw H), pW_19, pWn_19, iN_add, iN_mul, iN_and, iN_or, iN_clr, iN_shl, iN_shr, tb_r1, b1_z, b1_or, b1_and, b1_or0, b1_or1, b1_0or, b1_t, b1_f, iN_lt, iN_inj, reduceIte, if_true, if_false, Nat.zero_add, Nat.add_zero, Bool.false_eq_true, Bool.true_eq_false, Nat.lt_irrefl, iN_az, not_true_eq_false, not_false_eq_true, Nat.reduceEqDiff, Nat.reduceLT, Nat.reduceAdd, Nat.reduceMul, Nat.reduceSub]
      · rw [b1_t] at e4
        simp (disch := first | assumption | omega | exact st8_a (Nat.le_of_ble_eq_true rfl)) only [m_188n hu hn, decide_eq_true h, en1, xr_145, e1, e2, e3, e4, eb_250_0, eb_250_1, eb_250_2, eb_250_3, eb_250_4, eb_250_5, eb_250_6, eb_250_7, eb_250_8, eb_250_9, eb_250_10, eb_250_11, eb_250_12, eb_250_13, kl_a, kl_d, kl_f, kl_i, kl_l, kl_n, kl_r, xr_1, xr_10, xr_135, xr_136, xr_137, xr_138, xr_139, xr_16, xr_17, xr_18, xr_19, xr_2, xr_20, xr_27, xr_28, xr_3, xr_4, xr_44, xr_5, xr_58, xr_64, xr_75, xr_77, xr_8, xr_9, af_0, af_1, xt_goto, xt_ib, xt_ic, xt_if_eq, xt_if_ne, xt_ir, xt_nop, mF_12 mh_Mo, xq_172_100_special, xq_187_13_virtualm mh_Mo, xq_188_200_static, xq_217_13_virtualm mh_Mo, xq_244_200_static, pF_0, pF_1, pF_2, pF_5, pF_6, pF_8, pF_12, pF_16, pF_17, pF_18, pF_22, pF_24, pF_19, pF_20, pF_21, pF_23, pN_19, pN_20, pN_21, pN_23, pA_63, pA_64, pA_65, pA_66, pA_67, pA_68, pA_69, pA_70, pA_71, wF_0, wF_1, wF_2, wF_3, wF_4, wF_5, wF_6, wF_7, wF_8, wF_9, wF_10, wF_11, wF_12, wF_13, wP_9, wP_10, wL_5, wC_5, wC_17, wD, hw_app, hw_len, wA_1, wA_2, wA_3, wA_4, wA_5, wA_6, wA_7, wA_8, wA_17, wW_1, wW_2, wW_3, wW_4, wW_5, wW_6, wW_7, wW_8, wW_17, mF_12 (Mo_hw H), xq_187_13_virtualm (Mo_hw H), xq_217_13_virtualm (Mo_hw H), pW_19, pWn_19, iN_add, iN_mul, iN_and, iN_or, iN_clr, iN_shl, iN_shr, tb_r1, b1_z, b1_or, b1_and, b1_or0, b1_or1, b1_0or, b1_t, b1_f, iN_lt, iN_inj, reduceIte, if_true, if_false, Nat.zero_add, Nat.add_zero, Bool.false_eq_true, Bool.true_eq_false, Nat.lt_irrefl, iN_az, not_true_eq_false, not_false_eq_true, Nat.reduceEqDiff, Nat.reduceLT, Nat.reduceAdd, Nat.reduceMul, Nat.reduceSub]
    · rw [q2]
      exact ⟨fun z => ⟨fun w => (by have := q1.mpr w; cases this), z⟩, fun z => z.2⟩
  · refine ⟨wcs (72 + Q.length) (σ 1 6) N .null ++ [], false, ?_, GT_w (GT_ww hL (c := 0) (Nat.le_refl _) SZ_0) (by decide) (by decide), ?_⟩
    · rw [← hw_mh]
      rw [b1_t] at e3
      clear q1 hX hX2 hB hZ
      simp (disch := first | assumption | omega | exact st8_a (Nat.le_of_ble_eq_true rfl)) only [m_188n hu hn, decide_eq_true h, en1, xr_145, e1, e2, e3, eb_250_0, eb_250_1, eb_250_2, eb_250_3, eb_250_4, eb_250_5, eb_250_6, eb_250_7, eb_250_8, eb_250_9, eb_250_10, eb_250_11, eb_250_12, eb_250_13, kl_a, kl_d, kl_f, kl_i, kl_l, kl_n, kl_r, xr_1, xr_10, xr_135, xr_136, xr_137, xr_138, xr_139, xr_16, xr_17, xr_18, xr_19, xr_2, xr_20, xr_27, xr_28, xr_3, xr_4, xr_44, xr_5, xr_58, xr_64, xr_75, xr_77, xr_8, xr_9, af_0, af_1, xt_goto, xt_ib, xt_ic, xt_if_eq, xt_if_ne, xt_ir, xt_nop, mF_12 mh_Mo, xq_172_100_special, xq_187_13_virtualm mh_Mo, xq_188_200_static, xq_217_13_virtualm mh_Mo, xq_244_200_static, pF_0, pF_1, pF_2, pF_5, pF_6, pF_8, pF_12, pF_16, pF_17, pF_18, pF_22, pF_24, pF_19, pF_20, pF_21, pF_23, pN_19, pN_20, pN_21, pN_23, pA_63, pA_64, pA_65, pA_66, pA_67, pA_68, pA_69, pA_70, pA_71, wF_0, wF_1, wF_2, wF_3, wF_4, wF_5, wF_6, wF_7, wF_8, wF_9, wF_10, wF_11, wF_12, wF_13, wP_9, wP_10, wL_5, wC_5, wC_17, wD, hw_app, hw_len, wA_1, wA_2, wA_3, wA_4, wA_5, wA_6, wA_7, wA_8, wA_17, wW_1, wW_2, wW_3, wW_4, wW_5, wW_6, wW_7, wW_8, wW_17, mF_12 (Mo_hw H), xq_187_13_virtualm (Mo_hw H), xq_217_13_virtualm (Mo_hw H), pW_19, pWn_19, iN_add, iN_mul, iN_and, iN_or, iN_clr, iN_shl, iN_shr, tb_r1, b1_z, b1_or, b1_and, b1_or0, b1_or1, b1_0or, b1_t, b1_f, iN_lt, iN_inj, reduceIte, if_true, if_false, Nat.zero_add, Nat.add_zero, Bool.false_eq_true, Bool.true_eq_false, Nat.lt_irrefl, iN_az, not_true_eq_false, not_false_eq_true, Nat.reduceEqDiff, Nat.reduceLT, Nat.reduceAdd, Nat.reduceMul, Nat.reduceSub]
    · exact ⟨fun z => (by cases z), fun z => absurd (q1.mp rfl) z.1⟩
end Mdg
