/-! THE MODEL rings, improve -/
/-- the lightest table so far, in the model's heap -/
def RJ (σ : Nat → Nat → Nat) (μ0 : Nat → Nat) (ν0 : Nat → Value) (p : Nat) (st : RT) (μ : Nat → Nat) (ν : Nat → Value) (B : ab_H) : Prop :=
  μ 0 = μ0 0 ∧ μ 1 = st.1 ∧ st.1 < 2147483648 ∧ (∀ a, a ≠ 3 → ν a = ν0 a) ∧ (∀ l, l < (σ 1 6) → st.2.1 l < (σ 1 2) ∧ st.2.2 l < (σ 1 5)) ∧ ∃ j, ν 3 = .ref (72 + j) ∧ j ≠ p ∧ B[j]? = some (oI (ar (σ 1 6) (tv σ st.2.1 st.2.2)))
section Mda
variable {xs : List Int32} {d m n k i j p : Nat} {τ M σ : Nat → Nat → Nat} {μ μ0 : Nat → Nat} {ν ν0 : Nat → Value} {A B Q T : ab_H} {s r g f : Nat → Nat} {st : RT} {x y : ab_O}
set_option maxRecDepth 100000 in
theorem st_last : (B ++ [x]).set B.length y = B ++ [y] := by
  rw [List.set_append_right _ _ (Nat.le_refl _), Nat.sub_self]
  rfl
set_option maxRecDepth 100000 in
theorem gt_last : (B ++ [x])[B.length]? = some x := by
  rw [List.getElem?_append_right (Nat.le_refl _), Nat.sub_self]
  rfl
set_option maxRecDepth 100000 in
theorem gt_ap (h : B[i]? = some x) : (B ++ T)[i]? = some x := by
  obtain ⟨hi, -⟩ := List.getElem?_eq_some_iff.mp h
  rw [List.getElem?_append_left hi, h]
set_option maxRecDepth 100000 in
theorem brk_cg {s2 r2 : Nat → Nat} (O : Ok σ) (h : AG (σ 1 6) s r s2 r2) : brk σ s r = brk σ s2 r2 := en_cg fun q hq => by rw [kpq_cg O h hq]
set_option maxRecDepth 100000 in
theorem wt_cg {s2 r2 : Nat → Nat} (h : AG (σ 1 6) s r s2 r2) : wt σ s r = wt σ s2 r2 := by
  unfold wt
  rw [sm_cg (n := (σ 1 6)) (g := fun l => wv σ l (s2 l) (r2 l)) fun l hl => by rw [(h l hl).1, (h l hl).2], sm_cg (n := (σ 1 4)) (g := fun u => σ 11 2 * gap σ (ctc σ s2 u)) fun u _ => by rw [ctc_c2 h]]
set_option maxRecDepth 100000 in
theorem mvk_tv : ∀ k, mvk g (tv σ s r) m k = tv σ (mvk g s m k) (mvk g r m k) := by
  intro k
  induction k with
  | zero => rfl
  | succ k ih =>
    funext l
    rw [mvk, mvk, mvk, ih]
    unfold tv
    by_cases h : l = g k
    · rw [h, u1_s, u1_s, u1_s]
    · rw [u1_n h, u1_n h, u1_n h]
set_option maxRecDepth 100000 in
theorem rem_i (hk : k < m) : (k + 1) % m = if k + 1 < m then k + 1 else 0 := by
  split
  · exact Nat.mod_eq_of_lt (by assumption)
  · rw [show k + 1 = m by omega, Nat.mod_self]
set_option maxRecDepth 100000 in
theorem m_259l (O : Ok σ) (hp : B[p]? = some (oI (ar m g))) (hi : B[i]? = some (oI (ar (σ 1 6) f))) (hν : ν 0 = .ref (72 + i)) (hm : m ≤ 4) (hg : ∀ j, j < m → g j < (σ 1 6)) {y6 : Value} : ∀ k, k ≤ m → ev xs d 259 2 ([.ref 62, .ref (72 + p), .int (nI m), .int (nI m), .ref (72 + B.length), .int (nI k), y6], [], mh τ M σ μ ν (B ++ [oI (ar (σ 1 6) (mvk g f m k))])) = ev xs d 259 2 ([.ref 62, .ref (72 + p), .int (nI m), .int (nI m), .ref (72 + B.length), .int (nI m), y6], [], mh τ M σ μ ν (B ++ [oI (ar (σ 1 6) (mvk g f m m))])) := by
  obtain ⟨hD1, hD2, hH1, hH2, hS, hC, hT, hR, hL, hQ⟩ := Ok_b O
  refine lp m ?_ ?_
  · rfl
  · intro k hk ih
    have g1 := hg k hk
    have hr : (k + 1) % m < m := Nat.mod_lt _ (by omega)
    have g2 := hg _ hr
    have q1 : (B ++ [oI (ar (σ 1 6) (mvk g f m k))])[p]? = _ := gt_ap hp
    have q2 : (B ++ [oI (ar (σ 1 6) (mvk g f m k))])[i]? = _ := gt_ap hi
    have q3 : (B ++ [oI (ar (σ 1 6) (mvk g f m k))])[B.length]? = _ := gt_last
    rw [← ih, mvk, ← rem_i hk, eb_259_2]
    clear ih hg hp hi
    simp (disch := first | assumption | omega | exact st8_a (Nat.le_of_ble_eq_true rfl)) only [hk, hν, pQ_l q1, pQ_l q2, pQ_s q3, st_last, eb_259_3, kl_a, kl_d, kl_f, kl_i, kl_l, kl_n, kl_r, xr_1, xr_10, xr_11, xr_12, xr_13, xr_14, xr_143, xr_15, xr_175, xr_176, xr_177, xr_178, xr_179, xr_2, xr_27, xr_3, xr_31, xr_33, xr_34, xr_35, xr_36, xr_37, xr_38, xr_39, xr_4, xr_40, xr_5, xr_56, xr_57, xr_63, xr_80, xr_81, xr_82, xr_83, xr_84, af_0, af_1, xt_goto, xt_ic_eq, xt_ic_ge, xt_ic_ne, xt_if_eq, xt_if_ne, xt_nop, xt_re, mF_11 mh_Mo, mF_19 mh_Mo, mF_24 mh_Mo, mF_8 mh_Mo, mA_63 mh_Mo, mA_64 mh_Mo, mA_65 mh_Mo, mA_66 mh_Mo, mA_67 mh_Mo, mA_68 mh_Mo, mA_69 mh_Mo, mA_70 mh_Mo, mA_71 mh_Mo, xq_210_13_virtualm mh_Mo, xq_212_13_virtualm mh_Mo, xq_259_13_virtualm mh_Mo, pF_0, pF_1, pF_2, pF_5, pF_6, pF_8, pF_12, pF_16, pF_17, pF_18, pF_22, pF_24, pF_19, pF_20, pF_21, pF_23, pN_19, pN_20, pN_21, pN_23, pA_63, pA_64, pA_65, pA_66, pA_67, pA_68, pA_69, pA_70, pA_71, iN_add, iN_mul, iN_sub, iN_and, iN_or, iN_clr, iN_shl, iN_shr, tb_r1, b1_z, b1_or, b1_and, b1_or0, b1_or1, b1_0or, b1_t, b1_f, iN_lt, iN_inj, reduceIte, if_true, if_false, Nat.zero_add, Nat.add_zero, Bool.false_eq_true, Bool.true_eq_false, Nat.lt_irrefl, iN_az, not_true_eq_false, not_false_eq_true, Nat.reduceEqDiff, Nat.reduceLT, Nat.reduceAdd, Nat.reduceMul, Nat.reduceSub]
set_option maxRecDepth 100000 in
theorem m_259e (O : Ok σ) (hp : B[p]? = some (oI (ar m g))) (hi : B[i]? = some (oI (ar (σ 1 6) (tv σ s r)))) (hν : ν0 0 = .ref (72 + i)) (hm : m ≤ 4) (hg : ∀ j, j < m → g j < (σ 1 6)) (hb : ∀ l, l < (σ 1 6) → s l < (σ 1 2) ∧ r l < (σ 1 5)) (hJ : RJ σ μ0 ν0 p st μ ν B) : ∃ μ' ν' f', ev xs (d + 7) 259 0 ([.ref 62, .ref (72 + p), .int (nI m), .int (nI m), .retAddr 9, .retAddr 9, .retAddr 9], [], mh τ M σ μ ν B) = some (.inl none, mh τ M σ μ' ν' (B ++ [oI (ar (σ 1 6) f')])) ∧ RJ σ μ0 ν0 p (RW σ s r g m st) μ' ν' (B ++ [oI (ar (σ 1 6) f')]) := by
  obtain ⟨hD1, hD2, hH1, hH2, hS, hC, hT, hR, hL, hQ⟩ := Ok_b O
  obtain ⟨j1, j2, j3, j4, j5, j, j6, j7, j8⟩ := hJ
  have hν' : ν 0 = .ref (72 + i) := (j4 0 (by decide)).trans hν
  have e1 := m_259l (xs := xs) (d := d + 7) (τ := τ) (M := M) (μ := μ) (ν := ν) (y6 := .retAddr 9) O hp hi hν' hm hg 0 (Nat.zero_le _)
  rw [mvk, mvk_tv] at e1
  have bs : ∀ l, l < (σ 1 6) → mvk g s m m l < (σ 1 2) := mvk_b (fun l hl => (hb l hl).1) hg m (Nat.le_refl _)
  have br : ∀ l, l < (σ 1 6) → mvk g r m m l < (σ 1 5) := mvk_b (fun l hl => (hb l hl).2) hg m (Nat.le_refl _)
  generalize hX : RW σ s r g m st = X
  unfold RW at hX
  generalize hs' : mvk g s m m = s' at *
  generalize hr' : mvk g r m m = r' at *
  have ha := tv_AG (σ := σ) (s := s') (n := (σ 1 6)) br
  have hgl : (mh τ M σ μ ν (B ++ [oI (ar (σ 1 6) (tv σ s' r'))]))[72 + B.length]? = some (oI (ar (σ 1 6) (tv σ s' r'))) := mh_Q.trans gt_last
  have e2 := m_212 (xs := xs) (d := d + 2) O (mh_Mo (τ := τ) (M := M) (μ := μ) (ν := ν)) hgl hL (Nat.le_refl _) fun l hl => tv_b (bs l hl) (br l hl)
  obtain ⟨b, q, e3⟩ := m_210 (xs := xs) (d := d) O (mh_Mo (τ := τ) (M := M) (μ := μ) (ν := ν)) hgl hL (Nat.le_refl _) fun l hl => tv_b (bs l hl) (br l hl)
  rw [wt_cg ha] at e2
  rw [flt_cg ha, brk_cg O ha] at q
  have hwl : wt σ s' r' < 1000 := wt_lt O bs
  have hpi : (mh τ M σ μ ν B)[72 + i]? = some (oI (ar (σ 1 6) (tv σ s r))) := mh_Q.trans hi
  have ec : ∀ {xs d m2 hs tt rr Lc st j n2 w}, st8 st = true → rt xs d m2 hs tt ((.invokestatic j, n2, 0, w) :: rr) (Lc, .int (nI (σ 1 6)) :: .int (nI 0) :: .ref (72 + B.length) :: .int (nI 0) :: .ref (72 + i) :: st, mh τ M σ μ ν (B ++ [oI (ar (σ 1 6) fun _ => 0)])) = rt xs d m2 hs tt rr (Lc, st, mh τ M σ μ ν (B ++ [oI (ar (σ 1 6) (tv σ s r))])) := fun h8 => by
    rw [← mh_app, ← mh_app, ← mh_len (τ := τ) (M := M) (σ := σ) (μ := μ) (ν := ν)]
    exact q_cpy hpi hL h8
  by_cases hw : wt σ s' r' < st.1
  · cases b
    · rw [if_neg fun z => by
        have := q.mpr z.2
        cases this] at hX
      subst hX
      refine ⟨μ, ν, tv σ s' r', ?_, j1, j2, j3, j4, j5, j, j6, j7, gt_ap j8⟩
      clear q bs br hgl ha hb hg hp hi j1 j4 j5 j6 j7 j8
      simp (disch := first | assumption | omega | exact st8_a (Nat.le_of_ble_eq_true rfl)) only [xr_49, mh_len, mh_app, hν', @ec, eb_259_0, eb_259_1, kl_a, kl_d, kl_f, kl_i, kl_l, kl_n, kl_r, xr_1, xr_10, xr_11, xr_12, xr_13, xr_14, xr_143, xr_15, xr_175, xr_176, xr_177, xr_178, xr_179, xr_2, xr_27, xr_3, xr_31, xr_33, xr_34, xr_35, xr_36, xr_37, xr_38, xr_39, xr_4, xr_40, xr_5, xr_56, xr_57, xr_63, xr_80, xr_81, xr_82, xr_83, xr_84, af_0, af_1, xt_goto, xt_ic_eq, xt_ic_ge, xt_ic_ne, xt_if_eq, xt_if_ne, xt_nop, xt_re, mF_11 mh_Mo, mF_19 mh_Mo, mF_24 mh_Mo, mF_8 mh_Mo, mA_63 mh_Mo, mA_64 mh_Mo, mA_65 mh_Mo, mA_66 mh_Mo, mA_67 mh_Mo, mA_68 mh_Mo, mA_69 mh_Mo, mA_70 mh_Mo, mA_71 mh_Mo, xq_210_13_virtualm mh_Mo, xq_212_13_virtualm mh_Mo, xq_259_13_virtualm mh_Mo, pF_0, pF_1, pF_2, pF_5, pF_6, pF_8, pF_12, pF_16, pF_17, pF_18, pF_22, pF_24, pF_19, pF_20, pF_21, pF_23, pN_19, pN_20, pN_21, pN_23, pA_63, pA_64, pA_65, pA_66, pA_67, pA_68, pA_69, pA_70, pA_71, iN_add, iN_mul, iN_sub, iN_and, iN_or, iN_clr, iN_shl, iN_shr, tb_r1, b1_z, b1_or, b1_and, b1_or0, b1_or1, b1_0or, b1_t, b1_f, iN_lt, iN_inj, reduceIte, if_true, if_false, Nat.zero_add, Nat.add_zero, Bool.false_eq_true, Bool.true_eq_false, Nat.lt_irrefl, iN_az, not_true_eq_false, not_false_eq_true, Nat.reduceEqDiff, Nat.reduceLT, Nat.reduceAdd, Nat.reduceMul, Nat.reduceSub]
      rw [e1, eb_259_2]
      simp (disch := first | assumption | omega | exact st8_a (Nat.le_of_ble_eq_true rfl)) only [e2, e3, j2, hw, eb_259_4, eb_259_5, eb_259_6, eb_259_7, eb_259_9, kl_a, kl_d, kl_f, kl_i, kl_l, kl_n, kl_r, xr_1, xr_10, xr_11, xr_12, xr_13, xr_14, xr_143, xr_15, xr_175, xr_176, xr_177, xr_178, xr_179, xr_2, xr_27, xr_3, xr_31, xr_33, xr_34, xr_35, xr_36, xr_37, xr_38, xr_39, xr_4, xr_40, xr_5, xr_56, xr_57, xr_63, xr_80, xr_81, xr_82, xr_83, xr_84, af_0, af_1, xt_goto, xt_ic_eq, xt_ic_ge, xt_ic_ne, xt_if_eq, xt_if_ne, xt_nop, xt_re, mF_11 mh_Mo, mF_19 mh_Mo, mF_24 mh_Mo, mF_8 mh_Mo, mA_63 mh_Mo, mA_64 mh_Mo, mA_65 mh_Mo, mA_66 mh_Mo, mA_67 mh_Mo, mA_68 mh_Mo, mA_69 mh_Mo, mA_70 mh_Mo, mA_71 mh_Mo, xq_210_13_virtualm mh_Mo, xq_212_13_virtualm mh_Mo, xq_259_13_virtualm mh_Mo, pF_0, pF_1, pF_2, pF_5, pF_6, pF_8, pF_12, pF_16, pF_17, pF_18, pF_22, pF_24, pF_19, pF_20, pF_21, pF_23, pN_19, pN_20, pN_21, pN_23, pA_63, pA_64, pA_65, pA_66, pA_67, pA_68, pA_69, pA_70, pA_71, iN_add, iN_mul, iN_sub, iN_and, iN_or, iN_clr, iN_shl, iN_shr, tb_r1, b1_z, b1_or, b1_and, b1_or0, b1_or1, b1_0or, b1_t, b1_f, iN_lt, iN_inj, reduceIte, if_true, if_false, Nat.zero_add, Nat.add_zero, Bool.false_eq_true, Bool.true_eq_false, Nat.lt_irrefl, iN_az, not_true_eq_false, not_false_eq_true, Nat.reduceEqDiff, Nat.reduceLT, Nat.reduceAdd, Nat.reduceMul, Nat.reduceSub]
    · have hq := q.mp rfl
      rw [if_pos ⟨hw, hq⟩] at hX
      subst hX
      refine ⟨u1 μ 1 (wt σ s' r'), uv ν 3 (.ref (72 + B.length)), tv σ s' r', ?_, by rw [u1_n (by decide)]; exact j1, u1_s _ _ _, (Nat.lt_trans hwl (by decide) : wt σ s' r' < 2147483648), fun a ha => (if_neg ha).trans (j4 a ha), fun l hl => ⟨bs l hl, br l hl⟩, B.length, if_pos rfl, ?_, gt_last⟩
      · clear q bs br hgl ha hb hg hp hi j1 j4 j5 j6 j7 j8 hq
        simp (disch := first | assumption | omega | exact st8_a (Nat.le_of_ble_eq_true rfl)) only [xr_49, mh_len, mh_app, hν', @ec, eb_259_0, eb_259_1, kl_a, kl_d, kl_f, kl_i, kl_l, kl_n, kl_r, xr_1, xr_10, xr_11, xr_12, xr_13, xr_14, xr_143, xr_15, xr_175, xr_176, xr_177, xr_178, xr_179, xr_2, xr_27, xr_3, xr_31, xr_33, xr_34, xr_35, xr_36, xr_37, xr_38, xr_39, xr_4, xr_40, xr_5, xr_56, xr_57, xr_63, xr_80, xr_81, xr_82, xr_83, xr_84, af_0, af_1, xt_goto, xt_ic_eq, xt_ic_ge, xt_ic_ne, xt_if_eq, xt_if_ne, xt_nop, xt_re, mF_11 mh_Mo, mF_19 mh_Mo, mF_24 mh_Mo, mF_8 mh_Mo, mA_63 mh_Mo, mA_64 mh_Mo, mA_65 mh_Mo, mA_66 mh_Mo, mA_67 mh_Mo, mA_68 mh_Mo, mA_69 mh_Mo, mA_70 mh_Mo, mA_71 mh_Mo, xq_210_13_virtualm mh_Mo, xq_212_13_virtualm mh_Mo, xq_259_13_virtualm mh_Mo, pF_0, pF_1, pF_2, pF_5, pF_6, pF_8, pF_12, pF_16, pF_17, pF_18, pF_22, pF_24, pF_19, pF_20, pF_21, pF_23, pN_19, pN_20, pN_21, pN_23, pA_63, pA_64, pA_65, pA_66, pA_67, pA_68, pA_69, pA_70, pA_71, iN_add, iN_mul, iN_sub, iN_and, iN_or, iN_clr, iN_shl, iN_shr, tb_r1, b1_z, b1_or, b1_and, b1_or0, b1_or1, b1_0or, b1_t, b1_f, iN_lt, iN_inj, reduceIte, if_true, if_false, Nat.zero_add, Nat.add_zero, Bool.false_eq_true, Bool.true_eq_false, Nat.lt_irrefl, iN_az, not_true_eq_false, not_false_eq_true, Nat.reduceEqDiff, Nat.reduceLT, Nat.reduceAdd, Nat.reduceMul, Nat.reduceSub]
        rw [e1, eb_259_2]
        simp (disch := first | assumption | omega | exact st8_a (Nat.le_of_ble_eq_true rfl)) only [e2, e3, j2, hw, eb_259_4, eb_259_5, eb_259_6, eb_259_7, eb_259_8, eb_259_9, kl_a, kl_d, kl_f, kl_i, kl_l, kl_n, kl_r, xr_1, xr_10, xr_11, xr_12, xr_13, xr_14, xr_143, xr_15, xr_175, xr_176, xr_177, xr_178, xr_179, xr_2, xr_27, xr_3, xr_31, xr_33, xr_34, xr_35, xr_36, xr_37, xr_38, xr_39, xr_4, xr_40, xr_5, xr_56, xr_57, xr_63, xr_80, xr_81, xr_82, xr_83, xr_84, af_0, af_1, xt_goto, xt_ic_eq, xt_ic_ge, xt_ic_ne, xt_if_eq, xt_if_ne, xt_nop, xt_re, mF_11 mh_Mo, mF_19 mh_Mo, mF_24 mh_Mo, mF_8 mh_Mo, mA_63 mh_Mo, mA_64 mh_Mo, mA_65 mh_Mo, mA_66 mh_Mo, mA_67 mh_Mo, mA_68 mh_Mo, mA_69 mh_Mo, mA_70 mh_Mo, mA_71 mh_Mo, xq_210_13_virtualm mh_Mo, xq_212_13_virtualm mh_Mo, xq_259_13_virtualm mh_Mo, pF_0, pF_1, pF_2, pF_5, pF_6, pF_8, pF_12, pF_16, pF_17, pF_18, pF_22, pF_24, pF_19, pF_20, pF_21, pF_23, pN_19, pN_20, pN_21, pN_23, pA_63, pA_64, pA_65, pA_66, pA_67, pA_68, pA_69, pA_70, pA_71, iN_add, iN_mul, iN_sub, iN_and, iN_or, iN_clr, iN_shl, iN_shr, tb_r1, b1_z, b1_or, b1_and, b1_or0, b1_or1, b1_0or, b1_t, b1_f, iN_lt, iN_inj, reduceIte, if_true, if_false, Nat.zero_add, Nat.add_zero, Bool.false_eq_true, Bool.true_eq_false, Nat.lt_irrefl, iN_az, not_true_eq_false, not_false_eq_true, Nat.reduceEqDiff, Nat.reduceLT, Nat.reduceAdd, Nat.reduceMul, Nat.reduceSub]
      · obtain ⟨h2, -⟩ := List.getElem?_eq_some_iff.mp hp
        exact Nat.ne_of_gt h2
  · rw [if_neg fun z => hw z.1] at hX
    subst hX
    refine ⟨μ, ν, tv σ s' r', ?_, j1, j2, j3, j4, j5, j, j6, j7, gt_ap j8⟩
    clear q bs br hgl ha hb hg hp hi j1 j4 j5 j6 j7 j8
    simp (disch := first | assumption | omega | exact st8_a (Nat.le_of_ble_eq_true rfl)) only [xr_49, mh_len, mh_app, hν', @ec, eb_259_0, eb_259_1, kl_a, kl_d, kl_f, kl_i, kl_l, kl_n, kl_r, xr_1, xr_10, xr_11, xr_12, xr_13, xr_14, xr_143, xr_15, xr_175, xr_176, xr_177, xr_178, xr_179, xr_2, xr_27, xr_3, xr_31, xr_33, xr_34, xr_35, xr_36, xr_37, xr_38, xr_39, xr_4, xr_40, xr_5, xr_56, xr_57, xr_63, xr_80, xr_81, xr_82, xr_83, xr_84, af_0, af_1, xt_goto, xt_ic_eq, xt_ic_ge, xt_ic_ne, xt_if_eq, xt_if_ne, xt_nop, xt_re, mF_11 mh_Mo, mF_19 mh_Mo, mF_24 mh_Mo, mF_8 mh_Mo, mA_63 mh_Mo, mA_64 mh_Mo, mA_65 mh_Mo, mA_66 mh_Mo, mA_67 mh_Mo, mA_68 mh_Mo, mA_69 mh_Mo, mA_70 mh_Mo, mA_71 mh_Mo, xq_210_13_virtualm mh_Mo, xq_212_13_virtualm mh_Mo, xq_259_13_virtualm mh_Mo, pF_0, pF_1, pF_2, pF_5, pF_6, pF_8, pF_12, pF_16, pF_17, pF_18, pF_22, pF_24, pF_19, pF_20, pF_21, pF_23, pN_19, pN_20, pN_21, pN_23, pA_63, pA_64, pA_65, pA_66, pA_67, pA_68, pA_69, pA_70, pA_71, iN_add, iN_mul, iN_sub, iN_and, iN_or, iN_clr, iN_shl, iN_shr, tb_r1, b1_z, b1_or, b1_and, b1_or0, b1_or1, b1_0or, b1_t, b1_f, iN_lt, iN_inj, reduceIte, if_true, if_false, Nat.zero_add, Nat.add_zero, Bool.false_eq_true, Bool.true_eq_false, Nat.lt_irrefl, iN_az, not_true_eq_false, not_false_eq_true, Nat.reduceEqDiff, Nat.reduceLT, Nat.reduceAdd, Nat.reduceMul, Nat.reduceSub]
    rw [e1, eb_259_2]
    simp (disch := first | assumption | omega | exact st8_a (Nat.le_of_ble_eq_true rfl)) only [e2, j2, hw, eb_259_4, eb_259_5, eb_259_9, kl_a, kl_d, kl_f, kl_i, kl_l, kl_n, kl_r, xr_1, xr_10, xr_11, xr_12, xr_13, xr_14, xr_143, xr_15, xr_175, xr_176, xr_177, xr_178, xr_179, xr_2, xr_27, xr_3, xr_31, xr_33, xr_34, xr_35, xr_36, xr_37, xr_38, xr_39, xr_4, xr_40, xr_5, xr_56, xr_57, xr_63, xr_80, xr_81, xr_82, xr_83, xr_84, af_0, af_1, xt_goto, xt_ic_eq, xt_ic_ge, xt_ic_ne, xt_if_eq, xt_if_ne, xt_nop, xt_re, mF_11 mh_Mo, mF_19 mh_Mo, mF_24 mh_Mo, mF_8 mh_Mo, mA_63 mh_Mo, mA_64 mh_Mo, mA_65 mh_Mo, mA_66 mh_Mo, mA_67 mh_Mo, mA_68 mh_Mo, mA_69 mh_Mo, mA_70 mh_Mo, mA_71 mh_Mo, xq_210_13_virtualm mh_Mo, xq_212_13_virtualm mh_Mo, xq_259_13_virtualm mh_Mo, pF_0, pF_1, pF_2, pF_5, pF_6, pF_8, pF_12, pF_16, pF_17, pF_18, pF_22, pF_24, pF_19, pF_20, pF_21, pF_23, pN_19, pN_20, pN_21, pN_23, pA_63, pA_64, pA_65, pA_66, pA_67, pA_68, pA_69, pA_70, pA_71, iN_add, iN_mul, iN_sub, iN_and, iN_or, iN_clr, iN_shl, iN_shr, tb_r1, b1_z, b1_or, b1_and, b1_or0, b1_or1, b1_0or, b1_t, b1_f, iN_lt, iN_inj, reduceIte, if_true, if_false, Nat.zero_add, Nat.add_zero, Bool.false_eq_true, Bool.true_eq_false, Nat.lt_irrefl, iN_az, not_true_eq_false, not_false_eq_true, Nat.reduceEqDiff, Nat.reduceLT, Nat.reduceAdd, Nat.reduceMul, Nat.reduceSub]
end Mda
