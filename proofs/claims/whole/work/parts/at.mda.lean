/-! THE MODEL rings, improve -/
/-- the lightest table so far, in the model's heap -/
def RJ (σ : Nat → Nat → Nat) (i0 q0 : Nat) (μ0 : Nat → Nat) (ν0 : Nat → Value) (p : Nat) (st : RT) (μ : Nat → Nat) (ν : Nat → Value) (B : ab_H) : Prop :=
  μ 0 = μ0 0 ∧ μ 1 = st.1 ∧ st.1 < 2147483648 ∧ (∀ a, a ≠ 3 → ν a = ν0 a) ∧ (∀ l, l < (σ 1 6) → st.2.1 l < (σ 1 2) ∧ st.2.2 l < (σ 1 5)) ∧ ∃ j, ν 3 = .ref (72 + j) ∧ (j = i0 ∨ q0 ≤ j) ∧ j ≠ p ∧ B[j]? = some (oI (ar (σ 1 6) (tv σ st.2.1 st.2.2)))
def SZ2 (T : ab_H) : Prop := ∀ o, o ∈ T → ∃ n f, n ≤ 6 ∧ o = oI (ar n f)
section Mda
variable {xs : List Int32} {d m n k i j p i0 q0 : Nat} {τ M σ : Nat → Nat → Nat} {μ μ0 : Nat → Nat} {ν ν0 : Nat → Value} {A B Q T : ab_H} {s r g f : Nat → Nat} {st : RT} {x y : ab_O}
set_option maxRecDepth 100000 in
theorem st_last : (B ++ [x]).set B.length y = B ++ [y] := by
  rw [List.set_append_right _ _ (Nat.le_refl _), Nat.sub_self]
  rfl
set_option maxRecDepth 100000 in
theorem gt_last : (B ++ [x])[B.length]? = some x := by
  rw [List.getElem?_append_right (Nat.le_refl _), Nat.sub_self]
  rfl
set_option maxRecDepth 100000 in
theorem gt_ap (h : B[i]? = some x) : (B ++ T)[i]? = some x := by
  obtain ⟨hi, -⟩ := List.getElem?_eq_some_iff.mp h
  rw [List.getElem?_append_left hi, h]
set_option maxRecDepth 100000 in
theorem brk_cg {s2 r2 : Nat → Nat} (O : Ok σ) (h : AG (σ 1 6) s r s2 r2) : brk σ s r = brk σ s2 r2 := en_cg fun q hq => by rw [kpq_cg O h hq]
set_option maxRecDepth 100000 in
theorem wt_cg {s2 r2 : Nat → Nat} (h : AG (σ 1 6) s r s2 r2) : wt σ s r = wt σ s2 r2 := by
  unfold wt
  rw [sm_cg (n := (σ 1 6)) (g := fun l => wv σ l (s2 l) (r2 l)) fun l hl => by rw [(h l hl).1, (h l hl).2], sm_cg (n := (σ 1 4)) (g := fun u => σ 11 2 * gap σ (ctc σ s2 u)) fun u _ => by rw [ctc_c2 h]]
set_option maxRecDepth 100000 in
theorem mvk_tv : ∀ k, mvk g (tv σ s r) m k = tv σ (mvk g s m k) (mvk g r m k) := by
  intro k
  induction k with
  | zero => rfl
  | succ k ih =>
    funext l
    rw [mvk, mvk, mvk, ih]
    unfold tv
    by_cases h : l = g k
    · rw [h, u1_s, u1_s, u1_s]
    · rw [u1_n h, u1_n h, u1_n h]
set_option maxRecDepth 100000 in
theorem rem_i (hk : k < m) : (k + 1) % m = if k + 1 < m then k + 1 else 0 := by
  split
  · exact Nat.mod_eq_of_lt (by assumption)
  · rw [show k + 1 = m by omega, Nat.mod_self]
set_option maxRecDepth 100000 in
theorem m_259l (O : Ok σ) (hp : B[p]? = some (oI (ar m g))) (hi : B[i]? = some (oI (ar (σ 1 6) f))) (hν : ν 0 = .ref (72 + i)) (hm : m ≤ 4) (hg : ∀ j, j < m → g j < (σ 1 6)) {y6 : Value} : ∀ k, k ≤ m → ev xs d 259 2 ([.ref 62, .ref (72 + p), .int (nI m), .int (nI m), .ref (72 + B.length), .int (nI k), y6], [], mh τ M σ μ ν (B ++ [oI (ar (σ 1 6) (mvk g f m k))])) = ev xs d 259 2 ([.ref 62, .ref (72 + p), .int (nI m), .int (nI m), .ref (72 + B.length), .int (nI m), y6], [], mh τ M σ μ ν (B ++ [oI (ar (σ 1 6) (mvk g f m m))])) := by
  obtain ⟨hD1, hD2, hH1, hH2, hS, hC, hT, hR, hL, hQ⟩ := Ok_b O
  refine lp m ?_ ?_
  · rfl
  · intro k hk ih
    have g1 := hg k hk
    have hr : (k + 1) % m < m := Nat.mod_lt _ (by omega)
    have g2 := hg _ hr
    have q1 : (B ++ [oI (ar (σ 1 6) (mvk g f m k))])[p]? = _ := gt_ap hp
    have q2 : (B ++ [oI (ar (σ 1 6) (mvk g f m k))])[i]? = _ := gt_ap hi
    have q3 : (B ++ [oI (ar (σ 1 6) (mvk g f m k))])[B.length]? = _ := gt_last
    rw [← ih, mvk, ← rem_i hk, eb_259_2]
    clear ih hg hp hi
    simp (disch := first | assumption | omega | exact st8_a (Nat.le_of_ble_eq_true rfl)) only [hk, hν, pQ_l q1, pQ_l q2, pQ_s q3, st_last, eb_259_3, kl_a, kl_d, kl_f, kl_i, kl_l, kl_n, kl_r, xr_1, xr_10, xr_11, xr_12, xr_13, xr_14, xr_143, xr_15, xr_175, xr_176, xr_177, xr_178, xr_179, xr_2, xr_27, xr_3, xr_31, xr_33, xr_34, xr_35, xr_36, xr_37, xr_38, xr_39, xr_4, xr_40, xr_5, xr_56, xr_57, xr_63, xr_80, xr_81, xr_82, xr_83, xr_84, af_0, af_1, xt_goto, xt_ic_eq, xt_ic_ge, xt_ic_ne, xt_if_eq, xt_if_ne, xt_nop, xt_re, mF_11 mh_Mo, mF_19 mh_Mo, mF_24 mh_Mo, mF_8 mh_Mo, mA_63 mh_Mo, mA_64 mh_Mo, mA_65 mh_Mo, mA_66 mh_Mo, mA_67 mh_Mo, mA_68 mh_Mo, mA_69 mh_Mo, mA_70 mh_Mo, mA_71 mh_Mo, xq_210_13_virtualm mh_Mo, xq_212_13_virtualm mh_Mo, xq_259_13_virtualm mh_Mo, pF_0, pF_1, pF_2, pF_5, pF_6, pF_8, pF_12, pF_16, pF_17, pF_18, pF_22, pF_24, pF_19, pF_20, pF_21, pF_23, pN_19, pN_20, pN_21, pN_23, pA_63, pA_64, pA_65, pA_66, pA_67, pA_68, pA_69, pA_70, pA_71, iN_add, iN_mul, iN_sub, iN_and, iN_or, iN_clr, iN_shl, iN_shr, tb_r1, b1_z, b1_or, b1_and, b1_or0, b1_or1, b1_0or, b1_t, b1_f, iN_lt, iN_inj, reduceIte, if_true, if_false, Nat.zero_add, Nat.add_zero, Bool.false_eq_true, Bool.true_eq_false, Nat.lt_irrefl, iN_az, not_true_eq_false, not_false_eq_true, Nat.reduceEqDiff, Nat.reduceLT, Nat.reduceAdd, Nat.reduceMul, Nat.reduceSub]
set_option maxRecDepth 100000 in
theorem m_259e (O : Ok σ) (hp : B[p]? = some (oI (ar m g))) (hi : B[i]? = some (oI (ar (σ 1 6) (tv σ s r)))) (hν : ν0 0 = .ref (72 + i)) (hm : m ≤ 4) (hq0 : q0 ≤ p) (hg : ∀ j, j < m → g j < (σ 1 6)) (hb : ∀ l, l < (σ 1 6) → s l < (σ 1 2) ∧ r l < (σ 1 5)) (hJ : RJ σ i q0 μ0 ν0 p st μ ν B) : ∃ μ' ν' f', ev xs (d + 7) 259 0 ([.ref 62, .ref (72 + p), .int (nI m), .int (nI m), .retAddr 9, .retAddr 9, .retAddr 9], [], mh τ M σ μ ν B) = some (.inl none, mh τ M σ μ' ν' (B ++ [oI (ar (σ 1 6) f')])) ∧ RJ σ i q0 μ0 ν0 p (RW σ s r g m st) μ' ν' (B ++ [oI (ar (σ 1 6) f')]) := by
  obtain ⟨hD1, hD2, hH1, hH2, hS, hC, hT, hR, hL, hQ⟩ := Ok_b O
  obtain ⟨j1, j2, j3, j4, j5, j, j6, j9, j7, j8⟩ := hJ
  have hν' : ν 0 = .ref (72 + i) := (j4 0 (by decide)).trans hν
  have e1 := m_259l (xs := xs) (d := d + 7) (τ := τ) (M := M) (μ := μ) (ν := ν) (y6 := .retAddr 9) O hp hi hν' hm hg 0 (Nat.zero_le _)
  rw [mvk, mvk_tv] at e1
  have bs : ∀ l, l < (σ 1 6) → mvk g s m m l < (σ 1 2) := mvk_b (fun l hl => (hb l hl).1) hg m (Nat.le_refl _)
  have br : ∀ l, l < (σ 1 6) → mvk g r m m l < (σ 1 5) := mvk_b (fun l hl => (hb l hl).2) hg m (Nat.le_refl _)
  generalize hX : RW σ s r g m st = X
  unfold RW at hX
  generalize hs' : mvk g s m m = s' at *
  generalize hr' : mvk g r m m = r' at *
  have ha := tv_AG (σ := σ) (s := s') (n := (σ 1 6)) br
  have hgl : (mh τ M σ μ ν (B ++ [oI (ar (σ 1 6) (tv σ s' r'))]))[72 + B.length]? = some (oI (ar (σ 1 6) (tv σ s' r'))) := mh_Q.trans gt_last
  have e2 := m_212 (xs := xs) (d := d + 2) O (mh_Mo (τ := τ) (M := M) (μ := μ) (ν := ν)) hgl hL (Nat.le_refl _) fun l hl => tv_b (bs l hl) (br l hl)
  obtain ⟨b, q, e3⟩ := m_210 (xs := xs) (d := d) O (mh_Mo (τ := τ) (M := M) (μ := μ) (ν := ν)) hgl hL (Nat.le_refl _) fun l hl => tv_b (bs l hl) (br l hl)
  rw [wt_cg ha] at e2
  rw [flt_cg ha, brk_cg O ha] at q
  have hwl : wt σ s' r' < 1000 := wt_lt O bs
  have hpi : (mh τ M σ μ ν B)[72 + i]? = some (oI (ar (σ 1 6) (tv σ s r))) := mh_Q.trans hi
  have ec : ∀ {xs d m2 hs tt rr Lc st j n2 w}, st8 st = true → rt xs d m2 hs tt ((.invokestatic j, n2, 0, w) :: rr) (Lc, .int (nI (σ 1 6)) :: .int (nI 0) :: .ref (72 + B.length) :: .int (nI 0) :: .ref (72 + i) :: st, mh τ M σ μ ν (B ++ [oI (ar (σ 1 6) fun _ => 0)])) = rt xs d m2 hs tt rr (Lc, st, mh τ M σ μ ν (B ++ [oI (ar (σ 1 6) (tv σ s r))])) := fun h8 => by
    rw [← mh_app, ← mh_app, ← mh_len (τ := τ) (M := M) (σ := σ) (μ := μ) (ν := ν)]
    exact q_cpy hpi hL h8
  by_cases hw : wt σ s' r' < st.1
  · cases b
    · rw [if_neg fun z => by
        have := q.mpr z.2
        cases this] at hX
      subst hX
      refine ⟨μ, ν, tv σ s' r', ?_, j1, j2, j3, j4, j5, j, j6, j9, j7, gt_ap j8⟩
      clear q bs br hgl ha hb hg hi j1 j4 j5 j6 j9 j7 j8 hq0
      simp (disch := first | assumption | omega | exact st8_a (Nat.le_of_ble_eq_true rfl)) only [xr_49, mh_len, mh_app, hν', @ec, eb_259_0, eb_259_1, kl_a, kl_d, kl_f, kl_i, kl_l, kl_n, kl_r, xr_1, xr_10, xr_11, xr_12, xr_13, xr_14, xr_143, xr_15, xr_175, xr_176, xr_177, xr_178, xr_179, xr_2, xr_27, xr_3, xr_31, xr_33, xr_34, xr_35, xr_36, xr_37, xr_38, xr_39, xr_4, xr_40, xr_5, xr_56, xr_57, xr_63, xr_80, xr_81, xr_82, xr_83, xr_84, af_0, af_1, xt_goto, xt_ic_eq, xt_ic_ge, xt_ic_ne, xt_if_eq, xt_if_ne, xt_nop, xt_re, mF_11 mh_Mo, mF_19 mh_Mo, mF_24 mh_Mo, mF_8 mh_Mo, mA_63 mh_Mo, mA_64 mh_Mo, mA_65 mh_Mo, mA_66 mh_Mo, mA_67 mh_Mo, mA_68 mh_Mo, mA_69 mh_Mo, mA_70 mh_Mo, mA_71 mh_Mo, xq_210_13_virtualm mh_Mo, xq_212_13_virtualm mh_Mo, xq_259_13_virtualm mh_Mo, pF_0, pF_1, pF_2, pF_5, pF_6, pF_8, pF_12, pF_16, pF_17, pF_18, pF_22, pF_24, pF_19, pF_20, pF_21, pF_23, pN_19, pN_20, pN_21, pN_23, pA_63, pA_64, pA_65, pA_66, pA_67, pA_68, pA_69, pA_70, pA_71, iN_add, iN_mul, iN_sub, iN_and, iN_or, iN_clr, iN_shl, iN_shr, tb_r1, b1_z, b1_or, b1_and, b1_or0, b1_or1, b1_0or, b1_t, b1_f, iN_lt, iN_inj, reduceIte, if_true, if_false, Nat.zero_add, Nat.add_zero, Bool.false_eq_true, Bool.true_eq_false, Nat.lt_irrefl, iN_az, not_true_eq_false, not_false_eq_true, Nat.reduceEqDiff, Nat.reduceLT, Nat.reduceAdd, Nat.reduceMul, Nat.reduceSub]
      rw [e1, eb_259_2]
      simp (disch := first | assumption | omega | exact st8_a (Nat.le_of_ble_eq_true rfl)) only [e2, e3, j2, hw, eb_259_4, eb_259_5, eb_259_6, eb_259_7, eb_259_9, kl_a, kl_d, kl_f, kl_i, kl_l, kl_n, kl_r, xr_1, xr_10, xr_11, xr_12, xr_13, xr_14, xr_143, xr_15, xr_175, xr_176, xr_177, xr_178, xr_179, xr_2, xr_27, xr_3, xr_31, xr_33, xr_34, xr_35, xr_36, xr_37, xr_38, xr_39, xr_4, xr_40, xr_5, xr_56, xr_57, xr_63, xr_80, xr_81, xr_82, xr_83, xr_84, af_0, af_1, xt_goto, xt_ic_eq, xt_ic_ge, xt_ic_ne, xt_if_eq, xt_if_ne, xt_nop, xt_re, mF_11 mh_Mo, mF_19 mh_Mo, mF_24 mh_Mo, mF_8 mh_Mo, mA_63 mh_Mo, mA_64 mh_Mo, mA_65 mh_Mo, mA_66 mh_Mo, mA_67 mh_Mo, mA_68 mh_Mo, mA_69 mh_Mo, mA_70 mh_Mo, mA_71 mh_Mo, xq_210_13_virtualm mh_Mo, xq_212_13_virtualm mh_Mo, xq_259_13_virtualm mh_Mo, pF_0, pF_1, pF_2, pF_5, pF_6, pF_8, pF_12, pF_16, pF_17, pF_18, pF_22, pF_24, pF_19, pF_20, pF_21, pF_23, pN_19, pN_20, pN_21, pN_23, pA_63, pA_64, pA_65, pA_66, pA_67, pA_68, pA_69, pA_70, pA_71, iN_add, iN_mul, iN_sub, iN_and, iN_or, iN_clr, iN_shl, iN_shr, tb_r1, b1_z, b1_or, b1_and, b1_or0, b1_or1, b1_0or, b1_t, b1_f, iN_lt, iN_inj, reduceIte, if_true, if_false, Nat.zero_add, Nat.add_zero, Bool.false_eq_true, Bool.true_eq_false, Nat.lt_irrefl, iN_az, not_true_eq_false, not_false_eq_true, Nat.reduceEqDiff, Nat.reduceLT, Nat.reduceAdd, Nat.reduceMul, Nat.reduceSub]
    · have hq := q.mp rfl
      rw [if_pos ⟨hw, hq⟩] at hX
      subst hX
      refine ⟨u1 μ 1 (wt σ s' r'), uv ν 3 (.ref (72 + B.length)), tv σ s' r', ?_, by rw [u1_n (by decide)]; exact j1, u1_s _ _ _, (Nat.lt_trans hwl (by decide) : wt σ s' r' < 2147483648), fun a ha => (if_neg ha).trans (j4 a ha), fun l hl => ⟨bs l hl, br l hl⟩, B.length, if_pos rfl, .inr ?_, ?_, gt_last⟩
      · clear q bs br hgl ha hb hg hi j1 j4 j5 j6 j9 j7 j8 hq0 hq
        simp (disch := first | assumption | omega | exact st8_a (Nat.le_of_ble_eq_true rfl)) only [xr_49, mh_len, mh_app, hν', @ec, eb_259_0, eb_259_1, kl_a, kl_d, kl_f, kl_i, kl_l, kl_n, kl_r, xr_1, xr_10, xr_11, xr_12, xr_13, xr_14, xr_143, xr_15, xr_175, xr_176, xr_177, xr_178, xr_179, xr_2, xr_27, xr_3, xr_31, xr_33, xr_34, xr_35, xr_36, xr_37, xr_38, xr_39, xr_4, xr_40, xr_5, xr_56, xr_57, xr_63, xr_80, xr_81, xr_82, xr_83, xr_84, af_0, af_1, xt_goto, xt_ic_eq, xt_ic_ge, xt_ic_ne, xt_if_eq, xt_if_ne, xt_nop, xt_re, mF_11 mh_Mo, mF_19 mh_Mo, mF_24 mh_Mo, mF_8 mh_Mo, mA_63 mh_Mo, mA_64 mh_Mo, mA_65 mh_Mo, mA_66 mh_Mo, mA_67 mh_Mo, mA_68 mh_Mo, mA_69 mh_Mo, mA_70 mh_Mo, mA_71 mh_Mo, xq_210_13_virtualm mh_Mo, xq_212_13_virtualm mh_Mo, xq_259_13_virtualm mh_Mo, pF_0, pF_1, pF_2, pF_5, pF_6, pF_8, pF_12, pF_16, pF_17, pF_18, pF_22, pF_24, pF_19, pF_20, pF_21, pF_23, pN_19, pN_20, pN_21, pN_23, pA_63, pA_64, pA_65, pA_66, pA_67, pA_68, pA_69, pA_70, pA_71, iN_add, iN_mul, iN_sub, iN_and, iN_or, iN_clr, iN_shl, iN_shr, tb_r1, b1_z, b1_or, b1_and, b1_or0, b1_or1, b1_0or, b1_t, b1_f, iN_lt, iN_inj, reduceIte, if_true, if_false, Nat.zero_add, Nat.add_zero, Bool.false_eq_true, Bool.true_eq_false, Nat.lt_irrefl, iN_az, not_true_eq_false, not_false_eq_true, Nat.reduceEqDiff, Nat.reduceLT, Nat.reduceAdd, Nat.reduceMul, Nat.reduceSub]
        rw [e1, eb_259_2]
        simp (disch := first | assumption | omega | exact st8_a (Nat.le_of_ble_eq_true rfl)) only [e2, e3, j2, hw, eb_259_4, eb_259_5, eb_259_6, eb_259_7, eb_259_8, eb_259_9, kl_a, kl_d, kl_f, kl_i, kl_l, kl_n, kl_r, xr_1, xr_10, xr_11, xr_12, xr_13, xr_14, xr_143, xr_15, xr_175, xr_176, xr_177, xr_178, xr_179, xr_2, xr_27, xr_3, xr_31, xr_33, xr_34, xr_35, xr_36, xr_37, xr_38, xr_39, xr_4, xr_40, xr_5, xr_56, xr_57, xr_63, xr_80, xr_81, xr_82, xr_83, xr_84, af_0, af_1, xt_goto, xt_ic_eq, xt_ic_ge, xt_ic_ne, xt_if_eq, xt_if_ne, xt_nop, xt_re, mF_11 mh_Mo, mF_19 mh_Mo, mF_24 mh_Mo, mF_8 mh_Mo, mA_63 mh_Mo, mA_64 mh_Mo, mA_65 mh_Mo, mA_66 mh_Mo, mA_67 mh_Mo, mA_68 mh_Mo, mA_69 mh_Mo, mA_70 mh_Mo, mA_71 mh_Mo, xq_210_13_virtualm mh_Mo, xq_212_13_virtualm mh_Mo, xq_259_13_virtualm mh_Mo, pF_0, pF_1, pF_2, pF_5, pF_6, pF_8, pF_12, pF_16, pF_17, pF_18, pF_22, pF_24, pF_19, pF_20, pF_21, pF_23, pN_19, pN_20, pN_21, pN_23, pA_63, pA_64, pA_65, pA_66, pA_67, pA_68, pA_69, pA_70, pA_71, iN_add, iN_mul, iN_sub, iN_and, iN_or, iN_clr, iN_shl, iN_shr, tb_r1, b1_z, b1_or, b1_and, b1_or0, b1_or1, b1_0or, b1_t, b1_f, iN_lt, iN_inj, reduceIte, if_true, if_false, Nat.zero_add, Nat.add_zero, Bool.false_eq_true, Bool.true_eq_false, Nat.lt_irrefl, iN_az, not_true_eq_false, not_false_eq_true, Nat.reduceEqDiff, Nat.reduceLT, Nat.reduceAdd, Nat.reduceMul, Nat.reduceSub]
      · obtain ⟨h2, -⟩ := List.getElem?_eq_some_iff.mp hp
        exact Nat.le_trans hq0 (Nat.le_of_lt h2)
      · obtain ⟨h2, -⟩ := List.getElem?_eq_some_iff.mp hp
        exact Nat.ne_of_gt h2
  · rw [if_neg fun z => hw z.1] at hX
    subst hX
    refine ⟨μ, ν, tv σ s' r', ?_, j1, j2, j3, j4, j5, j, j6, j9, j7, gt_ap j8⟩
    clear q bs br hgl ha hb hg hi j1 j4 j5 j6 j9 j7 j8 hq0
    simp (disch := first | assumption | omega | exact st8_a (Nat.le_of_ble_eq_true rfl)) only [xr_49, mh_len, mh_app, hν', @ec, eb_259_0, eb_259_1, kl_a, kl_d, kl_f, kl_i, kl_l, kl_n, kl_r, xr_1, xr_10, xr_11, xr_12, xr_13, xr_14, xr_143, xr_15, xr_175, xr_176, xr_177, xr_178, xr_179, xr_2, xr_27, xr_3, xr_31, xr_33, xr_34, xr_35, xr_36, xr_37, xr_38, xr_39, xr_4, xr_40, xr_5, xr_56, xr_57, xr_63, xr_80, xr_81, xr_82, xr_83, xr_84, af_0, af_1, xt_goto, xt_ic_eq, xt_ic_ge, xt_ic_ne, xt_if_eq, xt_if_ne, xt_nop, xt_re, mF_11 mh_Mo, mF_19 mh_Mo, mF_24 mh_Mo, mF_8 mh_Mo, mA_63 mh_Mo, mA_64 mh_Mo, mA_65 mh_Mo, mA_66 mh_Mo, mA_67 mh_Mo, mA_68 mh_Mo, mA_69 mh_Mo, mA_70 mh_Mo, mA_71 mh_Mo, xq_210_13_virtualm mh_Mo, xq_212_13_virtualm mh_Mo, xq_259_13_virtualm mh_Mo, pF_0, pF_1, pF_2, pF_5, pF_6, pF_8, pF_12, pF_16, pF_17, pF_18, pF_22, pF_24, pF_19, pF_20, pF_21, pF_23, pN_19, pN_20, pN_21, pN_23, pA_63, pA_64, pA_65, pA_66, pA_67, pA_68, pA_69, pA_70, pA_71, iN_add, iN_mul, iN_sub, iN_and, iN_or, iN_clr, iN_shl, iN_shr, tb_r1, b1_z, b1_or, b1_and, b1_or0, b1_or1, b1_0or, b1_t, b1_f, iN_lt, iN_inj, reduceIte, if_true, if_false, Nat.zero_add, Nat.add_zero, Bool.false_eq_true, Bool.true_eq_false, Nat.lt_irrefl, iN_az, not_true_eq_false, not_false_eq_true, Nat.reduceEqDiff, Nat.reduceLT, Nat.reduceAdd, Nat.reduceMul, Nat.reduceSub]
    rw [e1, eb_259_2]
    simp (disch := first | assumption | omega | exact st8_a (Nat.le_of_ble_eq_true rfl)) only [e2, j2, hw, eb_259_4, eb_259_5, eb_259_9, kl_a, kl_d, kl_f, kl_i, kl_l, kl_n, kl_r, xr_1, xr_10, xr_11, xr_12, xr_13, xr_14, xr_143, xr_15, xr_175, xr_176, xr_177, xr_178, xr_179, xr_2, xr_27, xr_3, xr_31, xr_33, xr_34, xr_35, xr_36, xr_37, xr_38, xr_39, xr_4, xr_40, xr_5, xr_56, xr_57, xr_63, xr_80, xr_81, xr_82, xr_83, xr_84, af_0, af_1, xt_goto, xt_ic_eq, xt_ic_ge, xt_ic_ne, xt_if_eq, xt_if_ne, xt_nop, xt_re, mF_11 mh_Mo, mF_19 mh_Mo, mF_24 mh_Mo, mF_8 mh_Mo, mA_63 mh_Mo, mA_64 mh_Mo, mA_65 mh_Mo, mA_66 mh_Mo, mA_67 mh_Mo, mA_68 mh_Mo, mA_69 mh_Mo, mA_70 mh_Mo, mA_71 mh_Mo, xq_210_13_virtualm mh_Mo, xq_212_13_virtualm mh_Mo, xq_259_13_virtualm mh_Mo, pF_0, pF_1, pF_2, pF_5, pF_6, pF_8, pF_12, pF_16, pF_17, pF_18, pF_22, pF_24, pF_19, pF_20, pF_21, pF_23, pN_19, pN_20, pN_21, pN_23, pA_63, pA_64, pA_65, pA_66, pA_67, pA_68, pA_69, pA_70, pA_71, iN_add, iN_mul, iN_sub, iN_and, iN_or, iN_clr, iN_shl, iN_shr, tb_r1, b1_z, b1_or, b1_and, b1_or0, b1_or1, b1_0or, b1_t, b1_f, iN_lt, iN_inj, reduceIte, if_true, if_false, Nat.zero_add, Nat.add_zero, Bool.false_eq_true, Bool.true_eq_false, Nat.lt_irrefl, iN_az, not_true_eq_false, not_false_eq_true, Nat.reduceEqDiff, Nat.reduceLT, Nat.reduceAdd, Nat.reduceMul, Nat.reduceSub]
/-- how many lessons from l on stand open -/
def rmn (σ : Nat → Nat → Nat) (i : Nat) (g : Nat → Nat) (l : Nat) : Nat := sm ((σ 1 6) - l) fun x => b1 (al i fun j => decide (g j ≠ l + x))
/-- how many rings there are of c lessons -/
def ffc : Nat → Nat → Nat
  | 0, _ => 1
  | k + 1, c => c * ffc k (c - 1)
set_option maxRecDepth 100000 in
theorem rmn_s {l : Nat} (hl : l < (σ 1 6)) : rmn σ i g l = b1 (al i fun j => decide (g j ≠ l)) + rmn σ i g (l + 1) := by
  unfold rmn
  rw [show (σ 1 6) - l = ((σ 1 6) - (l + 1)) + 1 by omega, sm_hd, Nat.add_zero]
  congr 1
  exact sm_cg fun x _ => by rw [show l + (x + 1) = l + 1 + x by omega]
set_option maxRecDepth 100000 in
theorem rmn_n {l l0 : Nat} (hl : l < (σ 1 6)) (h0 : l0 ≤ l) (h : (al i fun j => decide (g j ≠ l)) = true) : rmn σ (i + 1) (u1 g i l) l0 < rmn σ i g l0 := by
  have e : ∀ x, (al i fun j => decide (u1 g i l j ≠ l0 + x)) = al i fun j => decide (g j ≠ l0 + x) := fun x => al_cg fun j hj => by rw [u1_n (by omega)]
  refine sm_slt (k := l - l0) (fun x _ => ?_) (by omega) ?_
  · rw [al, e]
    cases (al i fun j => decide (g j ≠ l0 + x))
    · exact Nat.le_refl _
    · have := b1_lt (true && decide (u1 g i l i ≠ l0 + x))
      rw [b1_t]
      omega
  · have h2 : l0 + (l - l0) = l := by omega
    rw [al, h2, h, u1_s, decide_eq_false (fun z : l ≠ l => z rfl), Bool.and_false, b1_t, b1_f]
    decide
set_option maxRecDepth 100000 in
theorem st_mid : (A ++ (x :: T)).set A.length y = A ++ (y :: T) := by
  rw [List.set_append_right _ _ (Nat.le_refl _), Nat.sub_self]
  rfl
set_option maxRecDepth 100000 in
theorem gt_mid : (A ++ (x :: T))[A.length]? = some x := by
  rw [List.getElem?_append_right (Nat.le_refl _), Nat.sub_self]
  rfl
set_option maxRecDepth 100000 in
theorem RJ_s (h : RJ σ i0 q0 μ0 ν0 A.length st μ ν (A ++ (x :: T))) : RJ σ i0 q0 μ0 ν0 A.length st μ ν (A ++ (y :: T)) := by
  obtain ⟨j1, j2, j3, j4, j5, j, j6, j9, j7, j8⟩ := h
  refine ⟨j1, j2, j3, j4, j5, j, j6, j9, j7, ?_⟩
  rw [← st_mid (x := x), List.getElem?_set_ne (Ne.symm j7)]
  exact j8
-- whether lesson l goes on the ring
set_option maxRecDepth 100000 in
theorem m_259f {l b : Nat} (hp : Q[p]? = some (oI (ar m g))) (him : i ≤ m) (hm : m ≤ 4) (hg : ∀ j, j < i → g j < 6) (hl : l < 6) {c : Bool} {x5 : Value} : ∀ j, j ≤ i → ev xs d 259 20 ([.ref 62, .ref (72 + p), .int (nI i), x5, .int (nI l), .int (nI (b1 (c && al j fun j => decide (g j ≠ l)))), .int (nI j)], [], mh τ M σ μ ν Q) = ev xs d 259 26 ([.ref 62, .ref (72 + p), .int (nI i), x5, .int (nI l), .int (nI (b1 (c && al i fun j => decide (g j ≠ l)))), .int (nI i)], [], mh τ M σ μ ν Q) := by
  refine lp i ?_ ?_
  · rw [eb_259_20]
    clear hg hp
    simp (disch := first | assumption | omega | exact st8_a (Nat.le_of_ble_eq_true rfl)) only [kl_a, kl_d, kl_f, kl_i, kl_l, kl_n, kl_r, xr_1, xr_10, xr_11, xr_12, xr_13, xr_14, xr_143, xr_15, xr_175, xr_176, xr_177, xr_178, xr_179, xr_2, xr_27, xr_3, xr_31, xr_33, xr_34, xr_35, xr_36, xr_37, xr_38, xr_39, xr_4, xr_40, xr_5, xr_56, xr_57, xr_63, xr_80, xr_81, xr_82, xr_83, xr_84, af_0, af_1, xt_goto, xt_ic_eq, xt_ic_ge, xt_ic_ne, xt_if_eq, xt_if_ne, xt_nop, xt_re, mF_11 mh_Mo, mF_19 mh_Mo, mF_24 mh_Mo, mF_8 mh_Mo, mA_63 mh_Mo, mA_64 mh_Mo, mA_65 mh_Mo, mA_66 mh_Mo, mA_67 mh_Mo, mA_68 mh_Mo, mA_69 mh_Mo, mA_70 mh_Mo, mA_71 mh_Mo, xq_210_13_virtualm mh_Mo, xq_212_13_virtualm mh_Mo, xq_259_13_virtualm mh_Mo, pF_0, pF_1, pF_2, pF_5, pF_6, pF_8, pF_12, pF_16, pF_17, pF_18, pF_22, pF_24, pF_19, pF_20, pF_21, pF_23, pN_19, pN_20, pN_21, pN_23, pA_63, pA_64, pA_65, pA_66, pA_67, pA_68, pA_69, pA_70, pA_71, iN_add, iN_mul, iN_sub, iN_and, iN_or, iN_clr, iN_shl, iN_shr, tb_r1, b1_z, b1_or, b1_and, b1_or0, b1_or1, b1_0or, b1_t, b1_f, iN_lt, iN_inj, reduceIte, if_true, if_false, Nat.zero_add, Nat.add_zero, Bool.false_eq_true, Bool.true_eq_false, Nat.lt_irrefl, iN_az, not_true_eq_false, not_false_eq_true, Nat.reduceEqDiff, Nat.reduceLT, Nat.reduceAdd, Nat.reduceMul, Nat.reduceSub]
  · intro j hj ih
    have g1 := hg j hj
    have hjm : j < m := by omega
    rw [eb_259_20, ← ih, al]
    clear hg ih
    cases hc2 : (c && al j fun j => decide (g j ≠ l))
    · rw [← Bool.and_assoc, hc2]
      simp (disch := first | assumption | omega | exact st8_a (Nat.le_of_ble_eq_true rfl)) only [hj, show b1 false = 0 from rfl, show b1 true = 1 from rfl, Bool.false_and, eb_259_21, eb_259_24, eb_259_25, kl_a, kl_d, kl_f, kl_i, kl_l, kl_n, kl_r, xr_1, xr_10, xr_11, xr_12, xr_13, xr_14, xr_143, xr_15, xr_175, xr_176, xr_177, xr_178, xr_179, xr_2, xr_27, xr_3, xr_31, xr_33, xr_34, xr_35, xr_36, xr_37, xr_38, xr_39, xr_4, xr_40, xr_5, xr_56, xr_57, xr_63, xr_80, xr_81, xr_82, xr_83, xr_84, af_0, af_1, xt_goto, xt_ic_eq, xt_ic_ge, xt_ic_ne, xt_if_eq, xt_if_ne, xt_nop, xt_re, mF_11 mh_Mo, mF_19 mh_Mo, mF_24 mh_Mo, mF_8 mh_Mo, mA_63 mh_Mo, mA_64 mh_Mo, mA_65 mh_Mo, mA_66 mh_Mo, mA_67 mh_Mo, mA_68 mh_Mo, mA_69 mh_Mo, mA_70 mh_Mo, mA_71 mh_Mo, xq_210_13_virtualm mh_Mo, xq_212_13_virtualm mh_Mo, xq_259_13_virtualm mh_Mo, pF_0, pF_1, pF_2, pF_5, pF_6, pF_8, pF_12, pF_16, pF_17, pF_18, pF_22, pF_24, pF_19, pF_20, pF_21, pF_23, pN_19, pN_20, pN_21, pN_23, pA_63, pA_64, pA_65, pA_66, pA_67, pA_68, pA_69, pA_70, pA_71, iN_add, iN_mul, iN_sub, iN_and, iN_or, iN_clr, iN_shl, iN_shr, tb_r1, b1_z, b1_or, b1_and, b1_or0, b1_or1, b1_0or, iN_lt, iN_inj, reduceIte, if_true, if_false, Nat.zero_add, Nat.add_zero, Bool.false_eq_true, Bool.true_eq_false, Nat.lt_irrefl, iN_az, not_true_eq_false, not_false_eq_true, Nat.reduceEqDiff, Nat.reduceLT, Nat.reduceAdd, Nat.reduceMul, Nat.reduceSub]
    · rw [← Bool.and_assoc, hc2]
      by_cases h : g j = l
      · rw [decide_eq_false (fun z : g j ≠ l => z h)]
        simp (disch := first | assumption | omega | exact st8_a (Nat.le_of_ble_eq_true rfl)) only [hj, eq_true h, pQ_l hp, show b1 false = 0 from rfl, show b1 true = 1 from rfl, Bool.and_false, eb_259_21, eb_259_22, eb_259_24, eb_259_25, kl_a, kl_d, kl_f, kl_i, kl_l, kl_n, kl_r, xr_1, xr_10, xr_11, xr_12, xr_13, xr_14, xr_143, xr_15, xr_175, xr_176, xr_177, xr_178, xr_179, xr_2, xr_27, xr_3, xr_31, xr_33, xr_34, xr_35, xr_36, xr_37, xr_38, xr_39, xr_4, xr_40, xr_5, xr_56, xr_57, xr_63, xr_80, xr_81, xr_82, xr_83, xr_84, af_0, af_1, xt_goto, xt_ic_eq, xt_ic_ge, xt_ic_ne, xt_if_eq, xt_if_ne, xt_nop, xt_re, mF_11 mh_Mo, mF_19 mh_Mo, mF_24 mh_Mo, mF_8 mh_Mo, mA_63 mh_Mo, mA_64 mh_Mo, mA_65 mh_Mo, mA_66 mh_Mo, mA_67 mh_Mo, mA_68 mh_Mo, mA_69 mh_Mo, mA_70 mh_Mo, mA_71 mh_Mo, xq_210_13_virtualm mh_Mo, xq_212_13_virtualm mh_Mo, xq_259_13_virtualm mh_Mo, pF_0, pF_1, pF_2, pF_5, pF_6, pF_8, pF_12, pF_16, pF_17, pF_18, pF_22, pF_24, pF_19, pF_20, pF_21, pF_23, pN_19, pN_20, pN_21, pN_23, pA_63, pA_64, pA_65, pA_66, pA_67, pA_68, pA_69, pA_70, pA_71, iN_add, iN_mul, iN_sub, iN_and, iN_or, iN_clr, iN_shl, iN_shr, tb_r1, b1_z, b1_or, b1_and, b1_or0, b1_or1, b1_0or, iN_lt, iN_inj, reduceIte, if_true, if_false, Nat.zero_add, Nat.add_zero, Bool.false_eq_true, Bool.true_eq_false, Nat.lt_irrefl, iN_az, not_true_eq_false, not_false_eq_true, Nat.reduceEqDiff, Nat.reduceLT, Nat.reduceAdd, Nat.reduceMul, Nat.reduceSub]
      · rw [decide_eq_true (show g j ≠ l from h)]
        simp (disch := first | assumption | omega | exact st8_a (Nat.le_of_ble_eq_true rfl)) only [hj, h, pQ_l hp, show b1 false = 0 from rfl, show b1 true = 1 from rfl, Bool.and_true, eb_259_21, eb_259_22, eb_259_23, eb_259_25, kl_a, kl_d, kl_f, kl_i, kl_l, kl_n, kl_r, xr_1, xr_10, xr_11, xr_12, xr_13, xr_14, xr_143, xr_15, xr_175, xr_176, xr_177, xr_178, xr_179, xr_2, xr_27, xr_3, xr_31, xr_33, xr_34, xr_35, xr_36, xr_37, xr_38, xr_39, xr_4, xr_40, xr_5, xr_56, xr_57, xr_63, xr_80, xr_81, xr_82, xr_83, xr_84, af_0, af_1, xt_goto, xt_ic_eq, xt_ic_ge, xt_ic_ne, xt_if_eq, xt_if_ne, xt_nop, xt_re, mF_11 mh_Mo, mF_19 mh_Mo, mF_24 mh_Mo, mF_8 mh_Mo, mA_63 mh_Mo, mA_64 mh_Mo, mA_65 mh_Mo, mA_66 mh_Mo, mA_67 mh_Mo, mA_68 mh_Mo, mA_69 mh_Mo, mA_70 mh_Mo, mA_71 mh_Mo, xq_210_13_virtualm mh_Mo, xq_212_13_virtualm mh_Mo, xq_259_13_virtualm mh_Mo, pF_0, pF_1, pF_2, pF_5, pF_6, pF_8, pF_12, pF_16, pF_17, pF_18, pF_22, pF_24, pF_19, pF_20, pF_21, pF_23, pN_19, pN_20, pN_21, pN_23, pA_63, pA_64, pA_65, pA_66, pA_67, pA_68, pA_69, pA_70, pA_71, iN_add, iN_mul, iN_sub, iN_and, iN_or, iN_clr, iN_shl, iN_shr, tb_r1, b1_z, b1_or, b1_and, b1_or0, b1_or1, b1_0or, iN_lt, iN_inj, reduceIte, if_true, if_false, Nat.zero_add, Nat.add_zero, Bool.false_eq_true, Bool.true_eq_false, Nat.lt_irrefl, iN_az, not_true_eq_false, not_false_eq_true, Nat.reduceEqDiff, Nat.reduceLT, Nat.reduceAdd, Nat.reduceMul, Nat.reduceSub]
set_option maxRecDepth 100000 in
theorem m_259r (O : Ok σ) {i0 : Nat} (hi0 : A[i0]? = some (oI (ar (σ 1 6) (tv σ s r)))) (hν : ν0 0 = .ref (72 + i0)) (hq0 : q0 ≤ A.length) (hm : m ≤ 4) (hb : ∀ l, l < (σ 1 6) → s l < (σ 1 2) ∧ r l < (σ 1 5)) : ∀ k i, i + k = m → 1 ≤ i → ∀ c μ ν g T st, rmn σ i g (g 0 + 1) ≤ c → (∀ j, j < i → g j < (σ 1 6)) → RJ σ i0 q0 μ0 ν0 A.length st μ ν (A ++ (oI (ar m g) :: T)) → ∃ μ' ν' g' T', ev xs (d + k + 7) 259 0 ([.ref 62, .ref (72 + A.length), .int (nI i), .int (nI m), .retAddr 9, .retAddr 9, .retAddr 9], [], mh τ M σ μ ν (A ++ (oI (ar m g) :: T))) = some (.inl none, mh τ M σ μ' ν' (A ++ (oI (ar m g') :: (T ++ T')))) ∧ RJ σ i0 q0 μ0 ν0 A.length (RE σ s r k i g st) μ' ν' (A ++ (oI (ar m g') :: (T ++ T'))) ∧ (∀ j, j < i → g' j = g j) ∧ SZ σ T' ∧ T'.length ≤ ffc k c := by
  obtain ⟨hD1, hD2, hH1, hH2, hS, hC, hT, hR, hL, hQ⟩ := Ok_b O
  intro k
  induction k with
  | zero =>
    intro i hi h1 c μ ν g T st hc hg hJ
    have him : i = m := by omega
    subst him
    obtain ⟨μ', ν', f', e, q⟩ := m_259e (xs := xs) (d := d) (τ := τ) (M := M) O gt_mid (gt_ap (T := oI (ar i g) :: T) hi0) hν hm hq0 hg hb hJ
    refine ⟨μ', ν', g, [oI (ar (σ 1 6) f')], ?_, ?_, fun _ _ => rfl, SZ_1, Nat.le_refl _⟩
    · rw [List.append_assoc, List.cons_append] at e
      exact e
    · rw [List.append_assoc, List.cons_append] at q
      exact q
  | succ k ih =>
    intro i hi h1 c μ ν g T st hc hg hJ
    have g0 := hg 0 (by omega)
    have him : i < m := by omega
    have key : ∀ l, l ≤ (σ 1 6) → g 0 + 1 ≤ l → ∀ μ ν g2 T st y5 y6, (∀ j, j < i → g2 j = g j) → RJ σ i0 q0 μ0 ν0 A.length st μ ν (A ++ (oI (ar m g2) :: T)) → ∃ μ' ν' g' T', ev xs (d + k + 8) 259 14 ([.ref 62, .ref (72 + A.length), .int (nI i), .int (nI m), .int (nI l), y5, y6], [], mh τ M σ μ ν (A ++ (oI (ar m g2) :: T))) = some (.inl none, mh τ M σ μ' ν' (A ++ (oI (ar m g') :: (T ++ T')))) ∧ RJ σ i0 q0 μ0 ν0 A.length (fo (fun l st => if σ 7 l = σ 7 (g 0) ∧ (al i fun j => decide (g j ≠ l)) = true then RE σ s r k (i + 1) (u1 g i l) st else st) ((σ 1 6) - l) l st) μ' ν' (A ++ (oI (ar m g') :: (T ++ T'))) ∧ (∀ j, j < i → g' j = g j) ∧ SZ σ T' ∧ T'.length ≤ rmn σ i g l * ffc k (c - 1) := by
      refine lp (σ 1 6) ?_ ?_
      · intro _ μ ν g2 T st y5 y6 h2 hJ
        refine ⟨μ, ν, g2, [], ?_, ?_, h2, SZ_0, Nat.zero_le _⟩
        · rw [eb_259_14, List.append_nil]
          clear hJ ih hg hb hi0 h2
          simp (disch := first | assumption | omega | exact st8_a (Nat.le_of_ble_eq_true rfl)) only [eb_259_29, kl_a, kl_d, kl_f, kl_i, kl_l, kl_n, kl_r, xr_1, xr_10, xr_11, xr_12, xr_13, xr_14, xr_143, xr_15, xr_175, xr_176, xr_177, xr_178, xr_179, xr_2, xr_27, xr_3, xr_31, xr_33, xr_34, xr_35, xr_36, xr_37, xr_38, xr_39, xr_4, xr_40, xr_5, xr_56, xr_57, xr_63, xr_80, xr_81, xr_82, xr_83, xr_84, af_0, af_1, xt_goto, xt_ic_eq, xt_ic_ge, xt_ic_ne, xt_if_eq, xt_if_ne, xt_nop, xt_re, mF_11 mh_Mo, mF_19 mh_Mo, mF_24 mh_Mo, mF_8 mh_Mo, mA_63 mh_Mo, mA_64 mh_Mo, mA_65 mh_Mo, mA_66 mh_Mo, mA_67 mh_Mo, mA_68 mh_Mo, mA_69 mh_Mo, mA_70 mh_Mo, mA_71 mh_Mo, xq_210_13_virtualm mh_Mo, xq_212_13_virtualm mh_Mo, xq_259_13_virtualm mh_Mo, pF_0, pF_1, pF_2, pF_5, pF_6, pF_8, pF_12, pF_16, pF_17, pF_18, pF_22, pF_24, pF_19, pF_20, pF_21, pF_23, pN_19, pN_20, pN_21, pN_23, pA_63, pA_64, pA_65, pA_66, pA_67, pA_68, pA_69, pA_70, pA_71, iN_add, iN_mul, iN_sub, iN_and, iN_or, iN_clr, iN_shl, iN_shr, tb_r1, b1_z, b1_or, b1_and, b1_or0, b1_or1, b1_0or, b1_t, b1_f, iN_lt, iN_inj, reduceIte, if_true, if_false, Nat.zero_add, Nat.add_zero, Bool.false_eq_true, Bool.true_eq_false, Nat.lt_irrefl, iN_az, not_true_eq_false, not_false_eq_true, Nat.reduceEqDiff, Nat.reduceLT, Nat.reduceAdd, Nat.reduceMul, Nat.reduceSub]
        · rw [Nat.sub_self, List.append_nil]
          exact hJ
      · intro l hl ihl hl0 μ ν g2 T st y5 y6 h2 hJ
        have hs : (σ 1 6) - l = ((σ 1 6) - (l + 1)) + 1 := by omega
        have e0 : g2 0 = g 0 := h2 0 (by omega)
        have l1 := (Ok_l O hl).2.2
        have l2 := (Ok_l O g0).2.2
        have l2' : σ 7 (g2 0) = 1 ∨ σ 7 (g2 0) = 2 := by rw [e0]; exact l2
        have e5 : g2 0 < 6 := by omega
        have h0m : 0 < m := by omega
        have hll : l < 6 := by omega
        have hi0' : ¬ i = 0 := by omega
        have qm := gt_mid (A := A) (T := T) (x := oI (ar m g2))
        have ef : (al i fun j => decide (g2 j ≠ l)) = al i fun j => decide (g j ≠ l) := al_cg fun j hj => by rw [h2 j hj]
        have f1 := fun c => m_259f (xs := xs) (d := d + k + 8) (τ := τ) (M := M) (σ := σ) (μ := μ) (ν := ν) (x5 := .int (nI m)) (b := 0) (c := c) qm (Nat.le_of_lt him) hm (fun j hj => by rw [h2 j hj]; have := hg j hj; omega) hll 0 (Nat.zero_le _)
        rw [ef] at f1
        have hrs := rmn_s (σ := σ) (i := i) (g := g) hl
        by_cases hp : σ 7 l = σ 7 (g 0) ∧ (al i fun j => decide (g j ≠ l)) = true
        · have hp1 : σ 7 l = σ 7 (g2 0) := by rw [e0]; exact hp.1
          have hn := rmn_n (σ := σ) (l0 := g 0 + 1) hl hl0 hp.2
          rw [hp.2, b1_t] at hrs
          obtain ⟨μ1, ν1, g1, T1, e1, a1, a2, a3, a4⟩ := ih (i + 1) (by omega) (by omega) (c - 1) μ ν (u1 g2 i l) T st (by
            rw [u1_n (by omega), e0]
            have e9 : rmn σ (i + 1) (u1 g2 i l) (g 0 + 1) = rmn σ (i + 1) (u1 g i l) (g 0 + 1) := sm_cg fun x _ => by
              rw [al_cg (n := i + 1) (q := fun j => decide (u1 g i l j ≠ g 0 + 1 + x)) fun j hj => ?_]
              by_cases hji : j = i
              · rw [hji, u1_s, u1_s]
              · rw [u1_n hji, u1_n hji, h2 j (by omega)]
            rw [e9]
            omega) (fun j hj => by
            by_cases hji : j = i
            · rw [hji, u1_s]; exact hl
            · rw [u1_n hji, h2 j (by omega)]; exact hg j (by omega)) (RJ_s hJ)
          obtain ⟨μ', ν', g', T', e2, b1', b2, b3, b4⟩ := ihl (by omega) μ1 ν1 g1 (T ++ T1) _ (.int (nI 1)) (.int (nI i)) (fun j hj => by rw [a2 j (by omega), u1_n (by omega), h2 j hj]) a1
          rw [RE_cg k (i + 1) (by omega) (g := u1 g i l) (g2 := u1 g2 i l) fun j hj => by
            by_cases hji : j = i
            · rw [hji, u1_s, u1_s]
            · rw [u1_n hji, u1_n hji, h2 j (by omega)]] at b1'
          refine ⟨μ', ν', g', T1 ++ T', ?_, ?_, b2, SZ_a a3 b3, ?_⟩
          · have f2 := f1 true
            rw [hp.2, al, Bool.and_self] at f2
            rw [show d + k + 7 = d + k + 7 from rfl] at e1
            rw [← List.append_assoc, ← e2, eb_259_14]
            clear ih ihl a1 a2 a3 a4 b1' b2 b3 b4 hJ hg hb hi0 h2 hrs hn ef f1
            simp (disch := first | assumption | omega | exact st8_a (Nat.le_of_ble_eq_true rfl)) only [hl, hi0', pQ_l qm, eq_true hp1, eb_259_15, eb_259_16, eb_259_17, eb_259_19, kl_a, kl_d, kl_f, kl_i, kl_l, kl_n, kl_r, xr_1, xr_10, xr_11, xr_12, xr_13, xr_14, xr_143, xr_15, xr_175, xr_176, xr_177, xr_178, xr_179, xr_2, xr_27, xr_3, xr_31, xr_33, xr_34, xr_35, xr_36, xr_37, xr_38, xr_39, xr_4, xr_40, xr_5, xr_56, xr_57, xr_63, xr_80, xr_81, xr_82, xr_83, xr_84, af_0, af_1, xt_goto, xt_ic_eq, xt_ic_ge, xt_ic_ne, xt_if_eq, xt_if_ne, xt_nop, xt_re, mF_11 mh_Mo, mF_19 mh_Mo, mF_24 mh_Mo, mF_8 mh_Mo, mA_63 mh_Mo, mA_64 mh_Mo, mA_65 mh_Mo, mA_66 mh_Mo, mA_67 mh_Mo, mA_68 mh_Mo, mA_69 mh_Mo, mA_70 mh_Mo, mA_71 mh_Mo, xq_210_13_virtualm mh_Mo, xq_212_13_virtualm mh_Mo, xq_259_13_virtualm mh_Mo, pF_0, pF_1, pF_2, pF_5, pF_6, pF_8, pF_12, pF_16, pF_17, pF_18, pF_22, pF_24, pF_19, pF_20, pF_21, pF_23, pN_19, pN_20, pN_21, pN_23, pA_63, pA_64, pA_65, pA_66, pA_67, pA_68, pA_69, pA_70, pA_71, iN_add, iN_mul, iN_sub, iN_and, iN_or, iN_clr, iN_shl, iN_shr, tb_r1, b1_z, b1_or, b1_and, b1_or0, b1_or1, b1_0or, iN_lt, iN_inj, reduceIte, if_true, if_false, Nat.zero_add, Nat.add_zero, Bool.false_eq_true, Bool.true_eq_false, Nat.lt_irrefl, iN_az, not_true_eq_false, not_false_eq_true, Nat.reduceEqDiff, Nat.reduceLT, Nat.reduceAdd, Nat.reduceMul, Nat.reduceSub]
            rw [show b1 true = 1 from rfl] at f2
            rw [f2]
            simp (disch := first | assumption | omega | exact st8_a (Nat.le_of_ble_eq_true rfl)) only [hi0', pQ_s qm, st_mid, e1, eb_259_26, eb_259_27, eb_259_28, kl_a, kl_d, kl_f, kl_i, kl_l, kl_n, kl_r, xr_1, xr_10, xr_11, xr_12, xr_13, xr_14, xr_143, xr_15, xr_175, xr_176, xr_177, xr_178, xr_179, xr_2, xr_27, xr_3, xr_31, xr_33, xr_34, xr_35, xr_36, xr_37, xr_38, xr_39, xr_4, xr_40, xr_5, xr_56, xr_57, xr_63, xr_80, xr_81, xr_82, xr_83, xr_84, af_0, af_1, xt_goto, xt_ic_eq, xt_ic_ge, xt_ic_ne, xt_if_eq, xt_if_ne, xt_nop, xt_re, mF_11 mh_Mo, mF_19 mh_Mo, mF_24 mh_Mo, mF_8 mh_Mo, mA_63 mh_Mo, mA_64 mh_Mo, mA_65 mh_Mo, mA_66 mh_Mo, mA_67 mh_Mo, mA_68 mh_Mo, mA_69 mh_Mo, mA_70 mh_Mo, mA_71 mh_Mo, xq_210_13_virtualm mh_Mo, xq_212_13_virtualm mh_Mo, xq_259_13_virtualm mh_Mo, pF_0, pF_1, pF_2, pF_5, pF_6, pF_8, pF_12, pF_16, pF_17, pF_18, pF_22, pF_24, pF_19, pF_20, pF_21, pF_23, pN_19, pN_20, pN_21, pN_23, pA_63, pA_64, pA_65, pA_66, pA_67, pA_68, pA_69, pA_70, pA_71, iN_add, iN_mul, iN_sub, iN_and, iN_or, iN_clr, iN_shl, iN_shr, tb_r1, b1_z, b1_or, b1_and, b1_or0, b1_or1, b1_0or, b1_t, b1_f, iN_lt, iN_inj, reduceIte, if_true, if_false, Nat.zero_add, Nat.add_zero, Bool.false_eq_true, Bool.true_eq_false, Nat.lt_irrefl, iN_az, not_true_eq_false, not_false_eq_true, Nat.reduceEqDiff, Nat.reduceLT, Nat.reduceAdd, Nat.reduceMul, Nat.reduceSub]
          · rw [hs, fo, if_pos hp, ← List.append_assoc]
            exact b1'
          · rw [List.length_append, hrs, Nat.add_mul, Nat.one_mul]
            omega
        · obtain ⟨μ', ν', g', T', e2, b1', b2, b3, b4⟩ := ihl (by omega) μ ν g2 T st (.int (nI 0)) (.int (nI i)) h2 hJ
          refine ⟨μ', ν', g', T', ?_, ?_, b2, b3, ?_⟩
          · rw [← e2, eb_259_14]
            clear ih ihl b1' b2 b3 b4 hJ hg hb hi0 h2 hrs ef
            by_cases hp1 : σ 7 l = σ 7 (g2 0)
            · have hp2 : (al i fun j => decide (g j ≠ l)) = false := by
                rw [e0] at hp1
                exact Bool.eq_false_iff.mpr fun z => hp ⟨hp1, z⟩
              have f2 := f1 true
              rw [hp2, al, Bool.and_self, Bool.and_false] at f2
              clear hp hp2 f1
              simp (disch := first | assumption | omega | exact st8_a (Nat.le_of_ble_eq_true rfl)) only [hl, hi0', pQ_l qm, eq_true hp1, eb_259_15, eb_259_16, eb_259_17, eb_259_19, kl_a, kl_d, kl_f, kl_i, kl_l, kl_n, kl_r, xr_1, xr_10, xr_11, xr_12, xr_13, xr_14, xr_143, xr_15, xr_175, xr_176, xr_177, xr_178, xr_179, xr_2, xr_27, xr_3, xr_31, xr_33, xr_34, xr_35, xr_36, xr_37, xr_38, xr_39, xr_4, xr_40, xr_5, xr_56, xr_57, xr_63, xr_80, xr_81, xr_82, xr_83, xr_84, af_0, af_1, xt_goto, xt_ic_eq, xt_ic_ge, xt_ic_ne, xt_if_eq, xt_if_ne, xt_nop, xt_re, mF_11 mh_Mo, mF_19 mh_Mo, mF_24 mh_Mo, mF_8 mh_Mo, mA_63 mh_Mo, mA_64 mh_Mo, mA_65 mh_Mo, mA_66 mh_Mo, mA_67 mh_Mo, mA_68 mh_Mo, mA_69 mh_Mo, mA_70 mh_Mo, mA_71 mh_Mo, xq_210_13_virtualm mh_Mo, xq_212_13_virtualm mh_Mo, xq_259_13_virtualm mh_Mo, pF_0, pF_1, pF_2, pF_5, pF_6, pF_8, pF_12, pF_16, pF_17, pF_18, pF_22, pF_24, pF_19, pF_20, pF_21, pF_23, pN_19, pN_20, pN_21, pN_23, pA_63, pA_64, pA_65, pA_66, pA_67, pA_68, pA_69, pA_70, pA_71, iN_add, iN_mul, iN_sub, iN_and, iN_or, iN_clr, iN_shl, iN_shr, tb_r1, b1_z, b1_or, b1_and, b1_or0, b1_or1, b1_0or, iN_lt, iN_inj, reduceIte, if_true, if_false, Nat.zero_add, Nat.add_zero, Bool.false_eq_true, Bool.true_eq_false, Nat.lt_irrefl, iN_az, not_true_eq_false, not_false_eq_true, Nat.reduceEqDiff, Nat.reduceLT, Nat.reduceAdd, Nat.reduceMul, Nat.reduceSub]
              rw [show b1 true = 1 from rfl, show b1 false = 0 from rfl] at f2
              rw [f2]
              simp (disch := first | assumption | omega | exact st8_a (Nat.le_of_ble_eq_true rfl)) only [hi0', eb_259_26, eb_259_28, kl_a, kl_d, kl_f, kl_i, kl_l, kl_n, kl_r, xr_1, xr_10, xr_11, xr_12, xr_13, xr_14, xr_143, xr_15, xr_175, xr_176, xr_177, xr_178, xr_179, xr_2, xr_27, xr_3, xr_31, xr_33, xr_34, xr_35, xr_36, xr_37, xr_38, xr_39, xr_4, xr_40, xr_5, xr_56, xr_57, xr_63, xr_80, xr_81, xr_82, xr_83, xr_84, af_0, af_1, xt_goto, xt_ic_eq, xt_ic_ge, xt_ic_ne, xt_if_eq, xt_if_ne, xt_nop, xt_re, mF_11 mh_Mo, mF_19 mh_Mo, mF_24 mh_Mo, mF_8 mh_Mo, mA_63 mh_Mo, mA_64 mh_Mo, mA_65 mh_Mo, mA_66 mh_Mo, mA_67 mh_Mo, mA_68 mh_Mo, mA_69 mh_Mo, mA_70 mh_Mo, mA_71 mh_Mo, xq_210_13_virtualm mh_Mo, xq_212_13_virtualm mh_Mo, xq_259_13_virtualm mh_Mo, pF_0, pF_1, pF_2, pF_5, pF_6, pF_8, pF_12, pF_16, pF_17, pF_18, pF_22, pF_24, pF_19, pF_20, pF_21, pF_23, pN_19, pN_20, pN_21, pN_23, pA_63, pA_64, pA_65, pA_66, pA_67, pA_68, pA_69, pA_70, pA_71, iN_add, iN_mul, iN_sub, iN_and, iN_or, iN_clr, iN_shl, iN_shr, tb_r1, b1_z, b1_or, b1_and, b1_or0, b1_or1, b1_0or, b1_t, b1_f, iN_lt, iN_inj, reduceIte, if_true, if_false, Nat.zero_add, Nat.add_zero, Bool.false_eq_true, Bool.true_eq_false, Nat.lt_irrefl, iN_az, not_true_eq_false, not_false_eq_true, Nat.reduceEqDiff, Nat.reduceLT, Nat.reduceAdd, Nat.reduceMul, Nat.reduceSub]
            · have f2 := f1 false
              rw [Bool.false_and, Bool.false_and, show b1 false = 0 from rfl] at f2
              clear hp f1
              simp (disch := first | assumption | omega | exact st8_a (Nat.le_of_ble_eq_true rfl)) only [hl, hi0', pQ_l qm, hp1, eb_259_15, eb_259_16, eb_259_18, eb_259_19, kl_a, kl_d, kl_f, kl_i, kl_l, kl_n, kl_r, xr_1, xr_10, xr_11, xr_12, xr_13, xr_14, xr_143, xr_15, xr_175, xr_176, xr_177, xr_178, xr_179, xr_2, xr_27, xr_3, xr_31, xr_33, xr_34, xr_35, xr_36, xr_37, xr_38, xr_39, xr_4, xr_40, xr_5, xr_56, xr_57, xr_63, xr_80, xr_81, xr_82, xr_83, xr_84, af_0, af_1, xt_goto, xt_ic_eq, xt_ic_ge, xt_ic_ne, xt_if_eq, xt_if_ne, xt_nop, xt_re, mF_11 mh_Mo, mF_19 mh_Mo, mF_24 mh_Mo, mF_8 mh_Mo, mA_63 mh_Mo, mA_64 mh_Mo, mA_65 mh_Mo, mA_66 mh_Mo, mA_67 mh_Mo, mA_68 mh_Mo, mA_69 mh_Mo, mA_70 mh_Mo, mA_71 mh_Mo, xq_210_13_virtualm mh_Mo, xq_212_13_virtualm mh_Mo, xq_259_13_virtualm mh_Mo, pF_0, pF_1, pF_2, pF_5, pF_6, pF_8, pF_12, pF_16, pF_17, pF_18, pF_22, pF_24, pF_19, pF_20, pF_21, pF_23, pN_19, pN_20, pN_21, pN_23, pA_63, pA_64, pA_65, pA_66, pA_67, pA_68, pA_69, pA_70, pA_71, iN_add, iN_mul, iN_sub, iN_and, iN_or, iN_clr, iN_shl, iN_shr, tb_r1, b1_z, b1_or, b1_and, b1_or0, b1_or1, b1_0or, iN_lt, iN_inj, reduceIte, if_true, if_false, Nat.zero_add, Nat.add_zero, Bool.false_eq_true, Bool.true_eq_false, Nat.lt_irrefl, iN_az, not_true_eq_false, not_false_eq_true, Nat.reduceEqDiff, Nat.reduceLT, Nat.reduceAdd, Nat.reduceMul, Nat.reduceSub]
              rw [f2]
              simp (disch := first | assumption | omega | exact st8_a (Nat.le_of_ble_eq_true rfl)) only [hi0', eb_259_26, eb_259_28, kl_a, kl_d, kl_f, kl_i, kl_l, kl_n, kl_r, xr_1, xr_10, xr_11, xr_12, xr_13, xr_14, xr_143, xr_15, xr_175, xr_176, xr_177, xr_178, xr_179, xr_2, xr_27, xr_3, xr_31, xr_33, xr_34, xr_35, xr_36, xr_37, xr_38, xr_39, xr_4, xr_40, xr_5, xr_56, xr_57, xr_63, xr_80, xr_81, xr_82, xr_83, xr_84, af_0, af_1, xt_goto, xt_ic_eq, xt_ic_ge, xt_ic_ne, xt_if_eq, xt_if_ne, xt_nop, xt_re, mF_11 mh_Mo, mF_19 mh_Mo, mF_24 mh_Mo, mF_8 mh_Mo, mA_63 mh_Mo, mA_64 mh_Mo, mA_65 mh_Mo, mA_66 mh_Mo, mA_67 mh_Mo, mA_68 mh_Mo, mA_69 mh_Mo, mA_70 mh_Mo, mA_71 mh_Mo, xq_210_13_virtualm mh_Mo, xq_212_13_virtualm mh_Mo, xq_259_13_virtualm mh_Mo, pF_0, pF_1, pF_2, pF_5, pF_6, pF_8, pF_12, pF_16, pF_17, pF_18, pF_22, pF_24, pF_19, pF_20, pF_21, pF_23, pN_19, pN_20, pN_21, pN_23, pA_63, pA_64, pA_65, pA_66, pA_67, pA_68, pA_69, pA_70, pA_71, iN_add, iN_mul, iN_sub, iN_and, iN_or, iN_clr, iN_shl, iN_shr, tb_r1, b1_z, b1_or, b1_and, b1_or0, b1_or1, b1_0or, b1_t, b1_f, iN_lt, iN_inj, reduceIte, if_true, if_false, Nat.zero_add, Nat.add_zero, Bool.false_eq_true, Bool.true_eq_false, Nat.lt_irrefl, iN_az, not_true_eq_false, not_false_eq_true, Nat.reduceEqDiff, Nat.reduceLT, Nat.reduceAdd, Nat.reduceMul, Nat.reduceSub]
          · rw [hs, fo, if_neg hp]
            exact b1'
          · rw [hrs, Nat.add_mul]
            omega
    obtain ⟨μ', ν', g', T', e, r1, r2, r3, r4⟩ := key (g 0 + 1) (by omega) (Nat.le_refl _) μ ν g T st (.retAddr 9) (.retAddr 9) (fun _ _ => rfl) hJ
    refine ⟨μ', ν', g', T', ?_, r1, r2, r3, Nat.le_trans r4 ?_⟩
    · have him2 : ¬ i = m := by omega
      have hi0' : ¬ i = 0 := by omega
      have h0m : 0 < m := by omega
      have e5 : g 0 < 6 := by omega
      have qm := gt_mid (A := A) (T := T) (x := oI (ar m g))
      rw [← e, show d + (k + 1) + 7 = d + k + 8 from rfl, eb_259_0]
      clear key ih r1 r2 r3 r4 hg hJ hb hi0 hc e
      simp (disch := first | assumption | omega | exact st8_a (Nat.le_of_ble_eq_true rfl)) only [him2, hi0', pQ_l qm, eb_259_10, eb_259_12, eb_259_13, kl_a, kl_d, kl_f, kl_i, kl_l, kl_n, kl_r, xr_1, xr_10, xr_11, xr_12, xr_13, xr_14, xr_143, xr_15, xr_175, xr_176, xr_177, xr_178, xr_179, xr_2, xr_27, xr_3, xr_31, xr_33, xr_34, xr_35, xr_36, xr_37, xr_38, xr_39, xr_4, xr_40, xr_5, xr_56, xr_57, xr_63, xr_80, xr_81, xr_82, xr_83, xr_84, af_0, af_1, xt_goto, xt_ic_eq, xt_ic_ge, xt_ic_ne, xt_if_eq, xt_if_ne, xt_nop, xt_re, mF_11 mh_Mo, mF_19 mh_Mo, mF_24 mh_Mo, mF_8 mh_Mo, mA_63 mh_Mo, mA_64 mh_Mo, mA_65 mh_Mo, mA_66 mh_Mo, mA_67 mh_Mo, mA_68 mh_Mo, mA_69 mh_Mo, mA_70 mh_Mo, mA_71 mh_Mo, xq_210_13_virtualm mh_Mo, xq_212_13_virtualm mh_Mo, xq_259_13_virtualm mh_Mo, pF_0, pF_1, pF_2, pF_5, pF_6, pF_8, pF_12, pF_16, pF_17, pF_18, pF_22, pF_24, pF_19, pF_20, pF_21, pF_23, pN_19, pN_20, pN_21, pN_23, pA_63, pA_64, pA_65, pA_66, pA_67, pA_68, pA_69, pA_70, pA_71, iN_add, iN_mul, iN_sub, iN_and, iN_or, iN_clr, iN_shl, iN_shr, tb_r1, b1_z, b1_or, b1_and, b1_or0, b1_or1, b1_0or, b1_t, b1_f, iN_lt, iN_inj, reduceIte, if_true, if_false, Nat.zero_add, Nat.add_zero, Bool.false_eq_true, Bool.true_eq_false, Nat.lt_irrefl, iN_az, not_true_eq_false, not_false_eq_true, Nat.reduceEqDiff, Nat.reduceLT, Nat.reduceAdd, Nat.reduceMul, Nat.reduceSub]
    · rw [ffc]
      exact Nat.mul_le_mul_right _ hc
set_option maxRecDepth 100000 in
theorem m_259t (O : Ok σ) {i0 : Nat} (hi0 : A[i0]? = some (oI (ar (σ 1 6) (tv σ s r)))) (hν : ν0 0 = .ref (72 + i0)) (hq0 : q0 ≤ A.length) (hm1 : 2 ≤ m) (hm : m ≤ 4) (hb : ∀ l, l < (σ 1 6) → s l < (σ 1 2) ∧ r l < (σ 1 5)) (hJ : RJ σ i0 q0 μ0 ν0 A.length st μ ν (A ++ (oI (ar m g) :: T))) : ∃ μ' ν' g' T', ev xs (d + m + 7) 259 0 ([.ref 62, .ref (72 + A.length), .int (nI 0), .int (nI m), .retAddr 9, .retAddr 9, .retAddr 9], [], mh τ M σ μ ν (A ++ (oI (ar m g) :: T))) = some (.inl none, mh τ M σ μ' ν' (A ++ (oI (ar m g') :: (T ++ T')))) ∧ RJ σ i0 q0 μ0 ν0 A.length (RM σ s r m st) μ' ν' (A ++ (oI (ar m g') :: (T ++ T'))) ∧ SZ σ T' ∧ T'.length ≤ sm (σ 1 6) fun x => ffc (m - 1) ((σ 1 6) - (x + 1)) := by
  obtain ⟨hD1, hD2, hH1, hH2, hS, hC, hT, hR, hL, hQ⟩ := Ok_b O
  have key : ∀ l, l ≤ (σ 1 6) → ∀ μ ν g2 T st y5 y6, RJ σ i0 q0 μ0 ν0 A.length st μ ν (A ++ (oI (ar m g2) :: T)) → ∃ μ' ν' g' T', ev xs (d + m + 7) 259 14 ([.ref 62, .ref (72 + A.length), .int (nI 0), .int (nI m), .int (nI l), y5, y6], [], mh τ M σ μ ν (A ++ (oI (ar m g2) :: T))) = some (.inl none, mh τ M σ μ' ν' (A ++ (oI (ar m g') :: (T ++ T')))) ∧ RJ σ i0 q0 μ0 ν0 A.length (fo (fun l st => RE σ s r (m - 1) 1 (fun _ => l) st) ((σ 1 6) - l) l st) μ' ν' (A ++ (oI (ar m g') :: (T ++ T'))) ∧ SZ σ T' ∧ T'.length ≤ sm ((σ 1 6) - l) fun x => ffc (m - 1) ((σ 1 6) - (l + x + 1)) := by
    refine lp (σ 1 6) ?_ ?_
    · intro μ ν g2 T st y5 y6 hJ
      refine ⟨μ, ν, g2, [], ?_, ?_, SZ_0, Nat.zero_le _⟩
      · rw [eb_259_14, List.append_nil]
        clear hJ hb hi0
        simp (disch := first | assumption | omega | exact st8_a (Nat.le_of_ble_eq_true rfl)) only [eb_259_29, kl_a, kl_d, kl_f, kl_i, kl_l, kl_n, kl_r, xr_1, xr_10, xr_11, xr_12, xr_13, xr_14, xr_143, xr_15, xr_175, xr_176, xr_177, xr_178, xr_179, xr_2, xr_27, xr_3, xr_31, xr_33, xr_34, xr_35, xr_36, xr_37, xr_38, xr_39, xr_4, xr_40, xr_5, xr_56, xr_57, xr_63, xr_80, xr_81, xr_82, xr_83, xr_84, af_0, af_1, xt_goto, xt_ic_eq, xt_ic_ge, xt_ic_ne, xt_if_eq, xt_if_ne, xt_nop, xt_re, mF_11 mh_Mo, mF_19 mh_Mo, mF_24 mh_Mo, mF_8 mh_Mo, mA_63 mh_Mo, mA_64 mh_Mo, mA_65 mh_Mo, mA_66 mh_Mo, mA_67 mh_Mo, mA_68 mh_Mo, mA_69 mh_Mo, mA_70 mh_Mo, mA_71 mh_Mo, xq_210_13_virtualm mh_Mo, xq_212_13_virtualm mh_Mo, xq_259_13_virtualm mh_Mo, pF_0, pF_1, pF_2, pF_5, pF_6, pF_8, pF_12, pF_16, pF_17, pF_18, pF_22, pF_24, pF_19, pF_20, pF_21, pF_23, pN_19, pN_20, pN_21, pN_23, pA_63, pA_64, pA_65, pA_66, pA_67, pA_68, pA_69, pA_70, pA_71, iN_add, iN_mul, iN_sub, iN_and, iN_or, iN_clr, iN_shl, iN_shr, tb_r1, b1_z, b1_or, b1_and, b1_or0, b1_or1, b1_0or, b1_t, b1_f, iN_lt, iN_inj, reduceIte, if_true, if_false, Nat.zero_add, Nat.add_zero, Bool.false_eq_true, Bool.true_eq_false, Nat.lt_irrefl, iN_az, not_true_eq_false, not_false_eq_true, Nat.reduceEqDiff, Nat.reduceLT, Nat.reduceAdd, Nat.reduceMul, Nat.reduceSub]
      · rw [Nat.sub_self, List.append_nil]
        exact hJ
    · intro l hl ihl μ ν g2 T st y5 y6 hJ
      have hs : (σ 1 6) - l = ((σ 1 6) - (l + 1)) + 1 := by omega
      have hll : l < 6 := by omega
      have h0m : 0 < m := by omega
      have qm := gt_mid (A := A) (T := T) (x := oI (ar m g2))
      obtain ⟨μ1, ν1, g1, T1, e1, a1, a2, a3, a4⟩ := m_259r (xs := xs) (d := d) (τ := τ) (M := M) O hi0 hν hq0 hm hb (m - 1) 1 (by omega) (Nat.le_refl _) ((σ 1 6) - (l + 1)) μ ν (u1 g2 0 l) T st (by
        rw [u1_s]
        have := sm_le (n := (σ 1 6) - (l + 1)) (c := 1) (f := fun x => b1 (al 1 fun j => decide (u1 g2 0 l j ≠ l + 1 + x))) fun x _ => by
          have := b1_lt (al 1 fun j => decide (u1 g2 0 l j ≠ l + 1 + x))
          show b1 _ ≤ 1
          omega
        rw [Nat.mul_one] at this
        exact this) (fun j hj => by
        rw [show j = 0 by omega, u1_s]; exact hl) (RJ_s hJ)
      obtain ⟨μ', ν', g', T', e2, b1', b3, b4⟩ := ihl μ1 ν1 g1 (T ++ T1) _ (.int (nI 1)) (.int (nI 0)) a1
      rw [RE_cg (m - 1) 1 (Nat.le_refl _) (g := fun _ => l) (g2 := u1 g2 0 l) fun j hj => by
        rw [show j = 0 by omega, u1_s]] at b1'
      refine ⟨μ', ν', g', T1 ++ T', ?_, ?_, SZ_a a3 b3, ?_⟩
      · rw [show d + (m - 1) + 7 = d + m + 6 by omega] at e1
        rw [← List.append_assoc, ← e2, eb_259_14]
        have f2 := m_259f (xs := xs) (d := d + m + 7) (τ := τ) (M := M) (σ := σ) (μ := μ) (ν := ν) (x5 := .int (nI m)) (i := 0) (b := 0) (c := true) qm (Nat.zero_le _) hm (fun j hj => absurd hj (Nat.not_lt_zero _)) hll 0 (Nat.zero_le _)
        rw [al, Bool.and_self, show b1 true = 1 from rfl] at f2
        clear ihl a1 a2 a3 a4 b1' b3 b4 hJ hb hi0 e2
        simp (disch := first | assumption | omega | exact st8_a (Nat.le_of_ble_eq_true rfl)) only [hl, eb_259_15, eb_259_17, eb_259_19, kl_a, kl_d, kl_f, kl_i, kl_l, kl_n, kl_r, xr_1, xr_10, xr_11, xr_12, xr_13, xr_14, xr_143, xr_15, xr_175, xr_176, xr_177, xr_178, xr_179, xr_2, xr_27, xr_3, xr_31, xr_33, xr_34, xr_35, xr_36, xr_37, xr_38, xr_39, xr_4, xr_40, xr_5, xr_56, xr_57, xr_63, xr_80, xr_81, xr_82, xr_83, xr_84, af_0, af_1, xt_goto, xt_ic_eq, xt_ic_ge, xt_ic_ne, xt_if_eq, xt_if_ne, xt_nop, xt_re, mF_11 mh_Mo, mF_19 mh_Mo, mF_24 mh_Mo, mF_8 mh_Mo, mA_63 mh_Mo, mA_64 mh_Mo, mA_65 mh_Mo, mA_66 mh_Mo, mA_67 mh_Mo, mA_68 mh_Mo, mA_69 mh_Mo, mA_70 mh_Mo, mA_71 mh_Mo, xq_210_13_virtualm mh_Mo, xq_212_13_virtualm mh_Mo, xq_259_13_virtualm mh_Mo, pF_0, pF_1, pF_2, pF_5, pF_6, pF_8, pF_12, pF_16, pF_17, pF_18, pF_22, pF_24, pF_19, pF_20, pF_21, pF_23, pN_19, pN_20, pN_21, pN_23, pA_63, pA_64, pA_65, pA_66, pA_67, pA_68, pA_69, pA_70, pA_71, iN_add, iN_mul, iN_sub, iN_and, iN_or, iN_clr, iN_shl, iN_shr, tb_r1, b1_z, b1_or, b1_and, b1_or0, b1_or1, b1_0or, iN_lt, iN_inj, reduceIte, if_true, if_false, Nat.zero_add, Nat.add_zero, Bool.false_eq_true, Bool.true_eq_false, Nat.lt_irrefl, iN_az, not_true_eq_false, not_false_eq_true, Nat.reduceEqDiff, Nat.reduceLT, Nat.reduceAdd, Nat.reduceMul, Nat.reduceSub]
        rw [f2]
        simp (disch := first | assumption | omega | exact st8_a (Nat.le_of_ble_eq_true rfl)) only [pQ_s qm, st_mid, e1, eb_259_26, eb_259_27, eb_259_28, kl_a, kl_d, kl_f, kl_i, kl_l, kl_n, kl_r, xr_1, xr_10, xr_11, xr_12, xr_13, xr_14, xr_143, xr_15, xr_175, xr_176, xr_177, xr_178, xr_179, xr_2, xr_27, xr_3, xr_31, xr_33, xr_34, xr_35, xr_36, xr_37, xr_38, xr_39, xr_4, xr_40, xr_5, xr_56, xr_57, xr_63, xr_80, xr_81, xr_82, xr_83, xr_84, af_0, af_1, xt_goto, xt_ic_eq, xt_ic_ge, xt_ic_ne, xt_if_eq, xt_if_ne, xt_nop, xt_re, mF_11 mh_Mo, mF_19 mh_Mo, mF_24 mh_Mo, mF_8 mh_Mo, mA_63 mh_Mo, mA_64 mh_Mo, mA_65 mh_Mo, mA_66 mh_Mo, mA_67 mh_Mo, mA_68 mh_Mo, mA_69 mh_Mo, mA_70 mh_Mo, mA_71 mh_Mo, xq_210_13_virtualm mh_Mo, xq_212_13_virtualm mh_Mo, xq_259_13_virtualm mh_Mo, pF_0, pF_1, pF_2, pF_5, pF_6, pF_8, pF_12, pF_16, pF_17, pF_18, pF_22, pF_24, pF_19, pF_20, pF_21, pF_23, pN_19, pN_20, pN_21, pN_23, pA_63, pA_64, pA_65, pA_66, pA_67, pA_68, pA_69, pA_70, pA_71, iN_add, iN_mul, iN_sub, iN_and, iN_or, iN_clr, iN_shl, iN_shr, tb_r1, b1_z, b1_or, b1_and, b1_or0, b1_or1, b1_0or, b1_t, b1_f, iN_lt, iN_inj, reduceIte, if_true, if_false, Nat.zero_add, Nat.add_zero, Bool.false_eq_true, Bool.true_eq_false, Nat.lt_irrefl, iN_az, not_true_eq_false, not_false_eq_true, Nat.reduceEqDiff, Nat.reduceLT, Nat.reduceAdd, Nat.reduceMul, Nat.reduceSub]
      · rw [hs, fo, ← List.append_assoc]
        exact b1'
      · rw [List.length_append, hs, sm_hd, Nat.add_zero, sm_cg (n := (σ 1 6) - (l + 1)) (f := fun x => ffc (m - 1) ((σ 1 6) - (l + (x + 1) + 1))) (g := fun x => ffc (m - 1) ((σ 1 6) - (l + 1 + x + 1))) fun x _ => by rw [show l + (x + 1) = l + 1 + x by omega]]
        omega
  obtain ⟨μ', ν', g', T', e, r1, r3, r4⟩ := key 0 (Nat.zero_le _) μ ν g T st (.retAddr 9) (.retAddr 9) hJ
  refine ⟨μ', ν', g', T', ?_, r1, r3, ?_⟩
  · have hm0 : ¬ 0 = m := by omega
    have hm0' : ¬ m = 0 := by omega
    rw [← e, eb_259_0]
    clear key r1 r3 r4 hJ hb hi0 e
    simp (disch := first | assumption | omega | exact st8_a (Nat.le_of_ble_eq_true rfl)) only [hm0, hm0', eb_259_10, eb_259_11, eb_259_13, kl_a, kl_d, kl_f, kl_i, kl_l, kl_n, kl_r, xr_1, xr_10, xr_11, xr_12, xr_13, xr_14, xr_143, xr_15, xr_175, xr_176, xr_177, xr_178, xr_179, xr_2, xr_27, xr_3, xr_31, xr_33, xr_34, xr_35, xr_36, xr_37, xr_38, xr_39, xr_4, xr_40, xr_5, xr_56, xr_57, xr_63, xr_80, xr_81, xr_82, xr_83, xr_84, af_0, af_1, xt_goto, xt_ic_eq, xt_ic_ge, xt_ic_ne, xt_if_eq, xt_if_ne, xt_nop, xt_re, mF_11 mh_Mo, mF_19 mh_Mo, mF_24 mh_Mo, mF_8 mh_Mo, mA_63 mh_Mo, mA_64 mh_Mo, mA_65 mh_Mo, mA_66 mh_Mo, mA_67 mh_Mo, mA_68 mh_Mo, mA_69 mh_Mo, mA_70 mh_Mo, mA_71 mh_Mo, xq_210_13_virtualm mh_Mo, xq_212_13_virtualm mh_Mo, xq_259_13_virtualm mh_Mo, pF_0, pF_1, pF_2, pF_5, pF_6, pF_8, pF_12, pF_16, pF_17, pF_18, pF_22, pF_24, pF_19, pF_20, pF_21, pF_23, pN_19, pN_20, pN_21, pN_23, pA_63, pA_64, pA_65, pA_66, pA_67, pA_68, pA_69, pA_70, pA_71, iN_add, iN_mul, iN_sub, iN_and, iN_or, iN_clr, iN_shl, iN_shr, tb_r1, b1_z, b1_or, b1_and, b1_or0, b1_or1, b1_0or, b1_t, b1_f, iN_lt, iN_inj, reduceIte, if_true, if_false, Nat.zero_add, Nat.add_zero, Bool.false_eq_true, Bool.true_eq_false, Nat.lt_irrefl, iN_az, not_true_eq_false, not_false_eq_true, Nat.reduceEqDiff, Nat.reduceLT, Nat.reduceAdd, Nat.reduceMul, Nat.reduceSub]
  · rw [Nat.sub_zero] at r4
    rw [sm_cg (n := (σ 1 6)) (g := fun x => ffc (m - 1) ((σ 1 6) - (0 + x + 1))) fun x _ => by rw [Nat.zero_add]]
    exact r4
set_option maxRecDepth 100000 in
theorem ffc_b : ∀ L, L < 7 → ((sm L fun x => ffc 1 (L - (x + 1))) ≤ 15) ∧ ((sm L fun x => ffc 2 (L - (x + 1))) ≤ 40) ∧ ((sm L fun x => ffc 3 (L - (x + 1))) ≤ 90) := by decide +kernel
-- improve
set_option maxRecDepth 100000 in
theorem m_260n (hν : ν 0 = .null) : ev xs (d + 1) 260 0 ([.ref 62, .retAddr 9, .retAddr 9], [], mh τ M σ μ ν Q) = some (.inl (some (.int (nI (0)))), mh τ M σ (u1 μ 0 1) ν Q) := by
  have e := m_187 (xs := xs) (d := d) (τ := τ) (M := M) (σ := σ) (μ := μ) (ν := ν) (Q := Q) (v := 1) (b := false)
  rw [if_neg (by decide), Bool.not_false, b1_f, b1_t] at e
  simp (disch := first | assumption | omega | exact st8_a (Nat.le_of_ble_eq_true rfl)) only [hν, e, eb_260_0, eb_260_4, eb_260_5, eb_260_6, eb_260_7, kl_a, kl_d, kl_f, kl_i, kl_l, kl_n, kl_r, xr_1, xr_10, xr_2, xr_27, xr_28, xr_29, xr_3, xr_30, xr_31, xr_4, xr_42, xr_5, xr_65, xr_67, xr_77, af_0, af_1, xt_goto, xt_ib, xt_ic, xt_ic_gt, xt_if_eq, xt_ir, xt_nop, xt_nu_0, xt_nu_1, mF_19 mh_Mo, mF_23 mh_Mo, mF_24 mh_Mo, xq_187_13_virtualm mh_Mo, xq_210_13_virtualm mh_Mo, xq_212_13_virtualm mh_Mo, xq_259_13_virtualm mh_Mo, pF_0, pF_1, pF_2, pF_5, pF_6, pF_8, pF_12, pF_16, pF_17, pF_18, pF_22, pF_24, pF_19, pF_20, pF_21, pF_23, pN_19, pN_20, pN_21, pN_23, pA_63, pA_64, pA_65, pA_66, pA_67, pA_68, pA_69, pA_70, pA_71, iN_add, iN_mul, iN_sub, iN_and, iN_or, iN_clr, iN_shl, iN_shr, tb_r1, b1_z, b1_or, b1_and, b1_or0, b1_or1, b1_0or, b1_t, b1_f, iN_lt, iN_inj, reduceIte, if_true, if_false, Nat.zero_add, Nat.add_zero, Bool.false_eq_true, Bool.true_eq_false, Nat.lt_irrefl, iN_az, not_true_eq_false, not_false_eq_true, Nat.reduceEqDiff, Nat.reduceLT, Nat.reduceAdd, Nat.reduceMul, Nat.reduceSub]
set_option maxRecDepth 100000 in
theorem m_260z (O : Ok σ) {i0 : Nat} (hi0 : Q[i0]? = some (oI (ar (σ 1 6) (tv σ s r)))) (hν : ν 0 = .ref (72 + i0)) (hb : ∀ l, l < (σ 1 6) → s l < (σ 1 2) ∧ r l < (σ 1 5)) (hg : ¬ (flt σ s r = 0 ∧ brk σ s r = 0)) : ev xs (d + 7) 260 0 ([.ref 62, .retAddr 9, .retAddr 9], [], mh τ M σ μ ν Q) = some (.inl (some (.int (nI (0)))), mh τ M σ (u1 μ 0 1) ν Q) := by
  obtain ⟨hD1, hD2, hH1, hH2, hS, hC, hT, hR, hL, hQ⟩ := Ok_b O
  have e := m_187 (xs := xs) (d := d + 6) (τ := τ) (M := M) (σ := σ) (μ := μ) (ν := ν) (Q := Q) (v := 1) (b := false)
  rw [if_neg (by decide), Bool.not_false, b1_f, b1_t] at e
  have ha := tv_AG (σ := σ) (s := s) (n := (σ 1 6)) fun l hl => (hb l hl).2
  obtain ⟨b, q, e3⟩ := m_210 (xs := xs) (d := d) O (mh_Mo (τ := τ) (M := M) (μ := μ) (ν := ν)) (mh_Q.trans hi0) hL (Nat.le_refl _) fun l hl => tv_b (hb l hl).1 (hb l hl).2
  rw [flt_cg ha, brk_cg O ha] at q
  cases b
  · rw [b1_f] at e3
    clear q hg ha hb hi0
    simp (disch := first | assumption | omega | exact st8_a (Nat.le_of_ble_eq_true rfl)) only [hν, e, e3, eb_260_0, eb_260_1, eb_260_2, eb_260_4, eb_260_5, eb_260_6, eb_260_7, kl_a, kl_d, kl_f, kl_i, kl_l, kl_n, kl_r, xr_1, xr_10, xr_2, xr_27, xr_28, xr_29, xr_3, xr_30, xr_31, xr_4, xr_42, xr_5, xr_65, xr_67, xr_77, af_0, af_1, xt_goto, xt_ib, xt_ic, xt_ic_gt, xt_if_eq, xt_ir, xt_nop, xt_nu_0, xt_nu_1, mF_19 mh_Mo, mF_23 mh_Mo, mF_24 mh_Mo, xq_187_13_virtualm mh_Mo, xq_210_13_virtualm mh_Mo, xq_212_13_virtualm mh_Mo, xq_259_13_virtualm mh_Mo, pF_0, pF_1, pF_2, pF_5, pF_6, pF_8, pF_12, pF_16, pF_17, pF_18, pF_22, pF_24, pF_19, pF_20, pF_21, pF_23, pN_19, pN_20, pN_21, pN_23, pA_63, pA_64, pA_65, pA_66, pA_67, pA_68, pA_69, pA_70, pA_71, iN_add, iN_mul, iN_sub, iN_and, iN_or, iN_clr, iN_shl, iN_shr, tb_r1, b1_z, b1_or, b1_and, b1_or0, b1_or1, b1_0or, b1_t, b1_f, iN_lt, iN_inj, reduceIte, if_true, if_false, Nat.zero_add, Nat.add_zero, Bool.false_eq_true, Bool.true_eq_false, Nat.lt_irrefl, iN_az, not_true_eq_false, not_false_eq_true, Nat.reduceEqDiff, Nat.reduceLT, Nat.reduceAdd, Nat.reduceMul, Nat.reduceSub]
  · exact absurd (q.mp rfl) hg
set_option maxRecDepth 100000 in
theorem RJ_n {p : Nat} (h : RJ σ i0 q0 μ0 ν0 p st μ ν B) : RJ σ i0 q0 μ0 ν0 B.length st μ ν (B ++ (x :: [])) := by
  obtain ⟨j1, j2, j3, j4, j5, j, j6, j9, j7, j8⟩ := h
  obtain ⟨h2, -⟩ := List.getElem?_eq_some_iff.mp j8
  exact ⟨j1, j2, j3, j4, j5, j, j6, j9, Nat.ne_of_lt h2, gt_ap j8⟩
set_option maxRecDepth 100000 in
theorem m_260s (O : Ok σ) {i0 : Nat} (hi0 : B[i0]? = some (oI (ar (σ 1 6) (tv σ s r)))) (hν : ν0 0 = .ref (72 + i0)) (hq0 : q0 ≤ B.length) (hm1 : 2 ≤ m) (hm : m ≤ 4) (hb : ∀ l, l < (σ 1 6) → s l < (σ 1 2) ∧ r l < (σ 1 5)) {p : Nat} (hJ : RJ σ i0 q0 μ0 ν0 p st μ ν B) {x1 : Int32} : ∃ μ' ν' T', ev xs (d + 12) 260 10 ([.ref 62, .int x1, .int (nI m)], [], mh τ M σ μ ν B) = ev xs (d + 12) 260 10 ([.ref 62, .int x1, .int (nI (m + 1))], [], mh τ M σ μ' ν' (B ++ T')) ∧ RJ σ i0 q0 μ0 ν0 B.length (RM σ s r m st) μ' ν' (B ++ T') ∧ SZ2 T' ∧ T'.length ≤ 1 + sm (σ 1 6) fun x => ffc (m - 1) ((σ 1 6) - (x + 1)) := by
  obtain ⟨μ', ν', g', T', e, q, z, c⟩ := m_259t (xs := xs) (d := d + (4 - m)) (τ := τ) (M := M) (T := []) (g := fun _ => 0) O hi0 hν hq0 hm1 hm hb (RJ_n hJ)
  rw [show d + (4 - m) + m + 7 = d + 11 by omega, List.nil_append] at e
  rw [List.nil_append] at q
  refine ⟨μ', ν', oI (ar m g') :: T', ?_, q, ?_, by rw [List.length_cons]; omega⟩
  · have h4 : ¬ 4 < m := by omega
    rw [eb_260_10]
    clear q z c hb hi0 hJ
    simp (disch := first | assumption | omega | exact st8_a (Nat.le_of_ble_eq_true rfl)) only [h4, xr_49, mh_len, mh_app, e, eb_260_11, eb_260_12, kl_a, kl_d, kl_f, kl_i, kl_l, kl_n, kl_r, xr_1, xr_10, xr_2, xr_27, xr_28, xr_29, xr_3, xr_30, xr_31, xr_4, xr_42, xr_5, xr_65, xr_67, xr_77, af_0, af_1, xt_goto, xt_ib, xt_ic, xt_ic_gt, xt_if_eq, xt_ir, xt_nop, xt_nu_0, xt_nu_1, mF_19 mh_Mo, mF_23 mh_Mo, mF_24 mh_Mo, xq_187_13_virtualm mh_Mo, xq_210_13_virtualm mh_Mo, xq_212_13_virtualm mh_Mo, xq_259_13_virtualm mh_Mo, pF_0, pF_1, pF_2, pF_5, pF_6, pF_8, pF_12, pF_16, pF_17, pF_18, pF_22, pF_24, pF_19, pF_20, pF_21, pF_23, pN_19, pN_20, pN_21, pN_23, pA_63, pA_64, pA_65, pA_66, pA_67, pA_68, pA_69, pA_70, pA_71, iN_add, iN_mul, iN_sub, iN_and, iN_or, iN_clr, iN_shl, iN_shr, tb_r1, b1_z, b1_or, b1_and, b1_or0, b1_or1, b1_0or, b1_t, b1_f, iN_lt, iN_inj, reduceIte, if_true, if_false, Nat.zero_add, Nat.add_zero, Bool.false_eq_true, Bool.true_eq_false, Nat.lt_irrefl, iN_az, not_true_eq_false, not_false_eq_true, Nat.reduceEqDiff, Nat.reduceLT, Nat.reduceAdd, Nat.reduceMul, Nat.reduceSub]
  · intro o ho
    rcases List.mem_cons.mp ho with h | h
    · exact ⟨m, g', by omega, h⟩
    · obtain ⟨f, hf⟩ := z o h
      exact ⟨(σ 1 6), f, by have := O; exact (Ok_b O).2.2.2.2.2.2.2.2.1, hf⟩
set_option maxRecDepth 100000 in
theorem m_260 (O : Ok σ) {i0 : Nat} (hi0 : Q[i0]? = some (oI (ar (σ 1 6) (tv σ s r)))) (hν : ν 0 = .ref (72 + i0)) (hb : ∀ l, l < (σ 1 6) → s l < (σ 1 2) ∧ r l < (σ 1 5)) (hg : flt σ s r = 0 ∧ brk σ s r = 0) : ∃ μ' ν' T, ev xs (d + 12) 260 0 ([.ref 62, .retAddr 9, .retAddr 9], [], mh τ M σ μ ν Q) = some (.inl (some (.int (nI (wt σ s r) - nI (RO σ s r).1))), mh τ M σ μ' ν' (Q ++ T)) ∧ μ' 0 = 0 ∧ (∀ a, a ≠ 0 → a ≠ 3 → ν' a = ν a) ∧ (∀ l, l < (σ 1 6) → (RO σ s r).2.1 l < (σ 1 2) ∧ (RO σ s r).2.2 l < (σ 1 5)) ∧ (∃ j, ν' 0 = .ref (72 + j) ∧ (j = i0 ∨ Q.length ≤ j) ∧ (Q ++ T)[j]? = some (oI (ar (σ 1 6) (tv σ (RO σ s r).2.1 (RO σ s r).2.2)))) ∧ SZ2 T ∧ T.length ≤ 148 := by
  obtain ⟨hD1, hD2, hH1, hH2, hS, hC, hT, hR, hL, hQ⟩ := Ok_b O
  have e := m_187 (xs := xs) (d := d + 11) (τ := τ) (M := M) (σ := σ) (μ := μ) (ν := ν) (Q := Q) (v := 1) (b := true)
  rw [if_pos rfl, Bool.not_true, b1_f, b1_t] at e
  have ha := tv_AG (σ := σ) (s := s) (n := (σ 1 6)) fun l hl => (hb l hl).2
  have hh : ∀ {μ ν}, (mh τ M σ μ ν Q)[72 + i0]? = some (oI (ar (σ 1 6) (tv σ s r))) := mh_Q.trans hi0
  obtain ⟨b, q, e3⟩ := m_210 (xs := xs) (d := d + 5) O (mh_Mo (τ := τ) (M := M) (μ := μ) (ν := ν)) hh hL (Nat.le_refl _) fun l hl => tv_b (hb l hl).1 (hb l hl).2
  rw [flt_cg ha, brk_cg O ha] at q
  obtain rfl : b = true := q.mpr hg
  rw [b1_t] at e3
  have e4 := m_212 (xs := xs) (d := d + 7) O (mh_Mo (τ := τ) (M := M) (μ := u1 μ 0 0) (ν := ν)) hh hL (Nat.le_refl _) fun l hl => tv_b (hb l hl).1 (hb l hl).2
  rw [wt_cg ha] at e4
  have hwl : wt σ s r < 1000 := wt_lt O fun l hl => (hb l hl).1
  have J0 : RJ σ i0 Q.length (u1 μ 0 0) ν Q.length (wt σ s r, s, r) (u1 (u1 μ 0 0) 1 (wt σ s r)) (uv ν 3 (.ref (72 + i0))) Q := by
    obtain ⟨h2, -⟩ := List.getElem?_eq_some_iff.mp hi0
    exact ⟨u1_n (by decide), u1_s _ _ _, Nat.lt_trans hwl (by decide), fun a h => if_neg h, hb, i0, if_pos rfl, .inl rfl, Nat.ne_of_lt h2, hi0⟩
  obtain ⟨μ2, ν2, T2, e5, J2, z2, c2⟩ := m_260s (xs := xs) (d := d) (τ := τ) (M := M) (m := 2) (x1 := nI (wt σ s r)) O hi0 hν (Nat.le_refl _) (by decide) (by decide) hb J0
  obtain ⟨μ3, ν3, T3, e6, J3, z3, c3⟩ := m_260s (xs := xs) (d := d) (τ := τ) (M := M) (m := 3) (x1 := nI (wt σ s r)) O (gt_ap hi0) hν (by rw [List.length_append]; omega) (by decide) (by decide) hb J2
  obtain ⟨μ4, ν4, T4, e7, J4, z4, c4⟩ := m_260s (xs := xs) (d := d) (τ := τ) (M := M) (m := 4) (x1 := nI (wt σ s r)) O (gt_ap (gt_ap hi0)) hν (by rw [List.length_append, List.length_append]; omega) (by decide) (by decide) hb J3
  obtain ⟨f2, f3, f4⟩ := ffc_b (σ 1 6) (by omega)
  have hRO : RM σ s r 4 (RM σ s r 3 (RM σ s r 2 (wt σ s r, s, r))) = RO σ s r := rfl
  rw [hRO] at J4
  obtain ⟨j1, j2, j3, j4, j5, j, j6, j9, j7, j8⟩ := J4
  refine ⟨μ4, uv ν4 0 (.ref (72 + j)), T2 ++ (T3 ++ T4), ?_, by rw [j1, u1_s], fun a h0 h3 => (if_neg h0).trans (j4 a h3), j5, ⟨j, if_pos rfl, j9, ?_⟩, ?_, ?_⟩
  · have e8 : ∀ x, ev xs (d + 12) 260 10 ([.ref 62, .int (nI (wt σ s r)), .int (nI 5)], [], mh τ M σ μ4 ν4 x) = some (.inl (some (.int (nI (wt σ s r) - nI (RO σ s r).1))), mh τ M σ μ4 (uv ν4 0 (.ref (72 + j))) x) := fun x => by
      rw [eb_260_10]
      clear q e e3 e4 e5 e6 e7 J0 J2 J3 j1 j3 j4 j5 j9 j7 j8 f2 f3 f4 z2 z3 z4 c2 c3 c4 hg hb hi0 ha hh
      simp (disch := first | assumption | omega | exact st8_a (Nat.le_of_ble_eq_true rfl)) only [j6, j2, eb_260_13, kl_a, kl_d, kl_f, kl_i, kl_l, kl_n, kl_r, xr_1, xr_10, xr_2, xr_27, xr_28, xr_29, xr_3, xr_30, xr_31, xr_4, xr_42, xr_5, xr_65, xr_67, xr_77, af_0, af_1, xt_goto, xt_ib, xt_ic, xt_ic_gt, xt_if_eq, xt_ir, xt_nop, xt_nu_0, xt_nu_1, mF_19 mh_Mo, mF_23 mh_Mo, mF_24 mh_Mo, xq_187_13_virtualm mh_Mo, xq_210_13_virtualm mh_Mo, xq_212_13_virtualm mh_Mo, xq_259_13_virtualm mh_Mo, pF_0, pF_1, pF_2, pF_5, pF_6, pF_8, pF_12, pF_16, pF_17, pF_18, pF_22, pF_24, pF_19, pF_20, pF_21, pF_23, pN_19, pN_20, pN_21, pN_23, pA_63, pA_64, pA_65, pA_66, pA_67, pA_68, pA_69, pA_70, pA_71, iN_add, iN_mul, iN_and, iN_or, iN_clr, iN_shl, iN_shr, tb_r1, b1_z, b1_or, b1_and, b1_or0, b1_or1, b1_0or, b1_t, b1_f, iN_lt, iN_inj, reduceIte, if_true, if_false, Nat.zero_add, Nat.add_zero, Bool.false_eq_true, Bool.true_eq_false, Nat.lt_irrefl, iN_az, not_true_eq_false, not_false_eq_true, Nat.reduceEqDiff, Nat.reduceLT, Nat.reduceAdd, Nat.reduceMul, Nat.reduceSub]
    rw [← List.append_assoc, ← List.append_assoc, ← e8, ← e7, ← e6, ← e5]
    clear q e8 e5 e6 e7 J0 J2 J3 j1 j3 j4 j5 j9 j7 j8 f2 f3 f4 z2 z3 z4 c2 c3 c4 hg hb hi0 ha hh
    simp (disch := first | assumption | omega | exact st8_a (Nat.le_of_ble_eq_true rfl)) only [hν, e, e3, e4, eb_260_0, eb_260_1, eb_260_2, eb_260_3, eb_260_5, eb_260_6, eb_260_8, eb_260_9, kl_a, kl_d, kl_f, kl_i, kl_l, kl_n, kl_r, xr_1, xr_10, xr_2, xr_27, xr_28, xr_29, xr_3, xr_30, xr_31, xr_4, xr_42, xr_5, xr_65, xr_67, xr_77, af_0, af_1, xt_goto, xt_ib, xt_ic, xt_ic_gt, xt_if_eq, xt_ir, xt_nop, xt_nu_0, xt_nu_1, mF_19 mh_Mo, mF_23 mh_Mo, mF_24 mh_Mo, xq_187_13_virtualm mh_Mo, xq_210_13_virtualm mh_Mo, xq_212_13_virtualm mh_Mo, xq_259_13_virtualm mh_Mo, pF_0, pF_1, pF_2, pF_5, pF_6, pF_8, pF_12, pF_16, pF_17, pF_18, pF_22, pF_24, pF_19, pF_20, pF_21, pF_23, pN_19, pN_20, pN_21, pN_23, pA_63, pA_64, pA_65, pA_66, pA_67, pA_68, pA_69, pA_70, pA_71, iN_add, iN_mul, iN_sub, iN_and, iN_or, iN_clr, iN_shl, iN_shr, tb_r1, b1_z, b1_or, b1_and, b1_or0, b1_or1, b1_0or, b1_t, b1_f, iN_lt, iN_inj, reduceIte, if_true, if_false, Nat.zero_add, Nat.add_zero, Bool.false_eq_true, Bool.true_eq_false, Nat.lt_irrefl, iN_az, not_true_eq_false, not_false_eq_true, Nat.reduceEqDiff, Nat.reduceLT, Nat.reduceAdd, Nat.reduceMul, Nat.reduceSub]
  · rw [← List.append_assoc, ← List.append_assoc]
    exact j8
  · intro o ho
    rcases List.mem_append.mp ho with h | h
    · exact z2 o h
    · rcases List.mem_append.mp h with h | h
      · exact z3 o h
      · exact z4 o h
  · have c2' : T2.length ≤ 1 + 15 := Nat.le_trans c2 (Nat.add_le_add_left f2 1)
    have c3' : T3.length ≤ 1 + 40 := Nat.le_trans c3 (Nat.add_le_add_left f3 1)
    have c4' : T4.length ≤ 1 + 90 := Nat.le_trans c4 (Nat.add_le_add_left f4 1)
    rw [List.length_append, List.length_append]
    omega
end Mda
