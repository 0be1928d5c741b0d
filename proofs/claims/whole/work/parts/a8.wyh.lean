/-! THE MODEL'S Ways: copies; the lightest value of a lesson; how heavy a timetable is at the most -/
def wq (σ : Nat → Nat → Nat) (l v : Nat) : Nat := wv σ l (v / (σ 1 5)) (v % (σ 1 5))
/-- the weight of the first k lessons' values -/
def ws (σ : Nat → Nat → Nat) (k : Nat) (t : Nat → Nat) : Nat := sm k fun j => wq σ j (t j)
def wtt (σ : Nat → Nat → Nat) (t : Nat → Nat) : Nat := wt σ (fun l => t l / (σ 1 5)) (fun l => t l % (σ 1 5))
section Wyh
variable {xs : List Int32} {d n m2 : Nat} {hs : List (Nat × Nat)} {tt : ab_T} {rr : List ab_I} {Lc st : List Value} {h h0 T A : ab_H} {σ W N K : Nat → Nat → Nat} {μ : Nat → Nat} {ν : Nat → Value} {β : Value} {a b u k v x y q set l i p nn : Nat} {t s r tab f : Nat → Nat}
set_option maxRecDepth 100000 in
theorem q_cpy {j : _} {n2 w : Nat} (hp : h[p]? = some (oI (ar nn f))) (hn : nn ≤ 6) (h8 : st8 st = true) : rt xs d m2 hs tt ((.invokestatic j, n2, 0, w) :: rr) (Lc, .int (nI nn) :: .int (nI 0) :: .ref h.length :: .int (nI 0) :: .ref p :: st, h ++ [oI (ar nn fun _ => 0)]) = rt xs d m2 hs tt rr (Lc, st, h ++ [oI (ar nn f)]) := by
  obtain ⟨hp2, -⟩ := List.getElem?_eq_some_iff.mp hp
  have h1 : (h ++ [oI (ar nn fun _ => 0)])[p]? = some (oI (ar nn f)) := by rw [List.getElem?_append_left hp2, hp]
  have h2 : (h ++ [oI (ar nn fun _ => 0)])[h.length]? = some (oI (ar nn fun _ => 0)) := by
    rw [List.getElem?_append_right (Nat.le_refl _), Nat.sub_self]
    rfl
  rw [q_cp h1 h2 (Nat.le_refl _) (Nat.le_refl _) (by omega) h8, ar_cp, List.set_append_right _ _ (Nat.le_refl _), Nat.sub_self]
  rfl
set_option maxRecDepth 100000 in
theorem wCy {j : _} {n2 w : Nat} (hp : (hw h0 n W β T)[p]? = some (oI (ar nn f))) (hn : nn ≤ 6) (h8 : st8 st = true) : rt xs d m2 hs tt ((.invokestatic j, n2, 0, w) :: rr) (Lc, .int (nI nn) :: .int (nI 0) :: .ref (h0.length + (18 + T.length)) :: .int (nI 0) :: .ref p :: st, hw h0 n W β (T ++ [oI (ar nn fun _ => 0)])) = rt xs d m2 hs tt rr (Lc, st, hw h0 n W β (T ++ [oI (ar nn f)])) := by
  rw [← hw_app, ← hw_app, ← hw_len (nn := n) (W := W) (β := β)]
  exact q_cpy hp hn h8
set_option maxRecDepth 100000 in
theorem m_182 (O : Ok σ) (H : Mo σ μ ν h0) (hp : (hw h0 (σ 1 6) W β T)[p]? = some (oI (ar (σ 1 6) f))) : ev xs d 182 0 ([.ref h0.length, .ref p, .retAddr 9], [], hw h0 (σ 1 6) W β T) = some (.inl (some (.ref (h0.length + (18 + T.length)))), hw h0 (σ 1 6) W β (T ++ [oI (ar (σ 1 6) f)])) := by
  obtain ⟨hD1, hD2, hH1, hH2, hS, hC, hT, hR, hL, hQ⟩ := Ok_b O
  simp (disch := first | assumption | omega | exact st8_a (Nat.le_of_ble_eq_true rfl)) only [xr_49, wCy hp, eb_182_0, kl_a, kl_d, kl_f, kl_i, kl_l, kl_n, kl_r, xr_1, xr_10, xr_11, xr_12, xr_13, xr_135, xr_136, xr_137, xr_138, xr_139, xr_14, xr_15, xr_16, xr_17, xr_18, xr_19, xr_2, xr_20, xr_3, xr_4, xr_5, xt_ar, wF_0, wF_1, wF_2, wF_3, wF_4, wF_5, wF_6, wF_7, wF_8, wF_9, wF_10, wF_11, wF_12, wF_13, wP_9, wP_10, wL_5, wC_5, wC_17, wD, hw_app, hw_len, wA_1, wA_2, wA_3, wA_4, wA_5, wA_6, wA_7, wA_8, wA_17, wW_1, wW_2, wW_3, wW_4, wW_5, wW_6, wW_7, wW_8, wW_17, mF_8 (Mo_hw H), iN_add, iN_mul, iN_sub, iN_and, iN_or, iN_clr, iN_shl, iN_shr, tb_r1, b1_z, b1_or, b1_and, b1_or0, b1_or1, b1_0or, b1_t, b1_f, iN_lt, iN_inj, reduceIte, if_true, if_false, Nat.zero_add, Nat.add_zero, Bool.false_eq_true, Bool.true_eq_false, Nat.lt_irrefl, iN_az, not_true_eq_false, not_false_eq_true, Nat.reduceEqDiff, Nat.reduceLT, Nat.reduceAdd, Nat.reduceMul, Nat.reduceSub]
set_option maxRecDepth 100000 in
theorem m_181 (O : Ok σ) (H : Mo σ μ ν h0) : ev xs (d + 1) 181 0 ([.ref h0.length], [], hw h0 (σ 1 6) W β T) = some (.inl (some (.ref (h0.length + (18 + T.length)))), hw h0 (σ 1 6) W β (T ++ [oI (ar (σ 1 6) (W 8))])) := by
  have e := m_182 (xs := xs) (d := d) (f := W 8) O H (hw_k (by decide) : (hw h0 (σ 1 6) W β T)[h0.length + 8]? = _)
  simp (disch := first | assumption | omega | exact st8_a (Nat.le_of_ble_eq_true rfl)) only [e, eb_181_0, eb_181_1, xr_1, xr_2, xr_3, xr_4, xr_5, af_0, af_1, xt_ar, wF_0, wF_1, wF_2, wF_3, wF_4, wF_5, wF_6, wF_7, wF_8, wF_9, wF_10, wF_11, wF_12, wF_13, wP_9, wP_10, wL_5, wC_5, wC_17, wD, hw_app, hw_len, wA_1, wA_2, wA_3, wA_4, wA_5, wA_6, wA_7, wA_8, wA_17, wW_1, wW_2, wW_3, wW_4, wW_5, wW_6, wW_7, wW_8, wW_17, xq_182_12_virtual wy_c, iN_add, iN_mul, iN_sub, iN_and, iN_or, iN_clr, iN_shl, iN_shr, tb_r1, b1_z, b1_or, b1_and, b1_or0, b1_or1, b1_0or, b1_t, b1_f, iN_lt, iN_inj, reduceIte, if_true, if_false, Nat.zero_add, Nat.add_zero, Bool.false_eq_true, Bool.true_eq_false, Nat.lt_irrefl, iN_az, not_true_eq_false, not_false_eq_true, Nat.reduceEqDiff, Nat.reduceLT, Nat.reduceAdd, Nat.reduceMul, Nat.reduceSub]
set_option maxRecDepth 100000 in
theorem m_213 (O : Ok σ) (H : Mo σ μ ν h) (hl : l < (σ 1 6)) (hu : u < 262144) (hz : u ≠ 0) (hb : ∀ v, u.testBit v = true → v < (σ 1 2) * (σ 1 5)) : ∃ x, ev xs (d + 3) 213 0 ([.ref 62, .int (nI l), .int (nI u), .retAddr 9, .retAddr 9], [], h) = some (.inl (some (.int (nI (x)))), h) ∧ x ≤ 27 ∧ ∀ v, u.testBit v = true → x ≤ wq σ l v := by
  obtain ⟨hD1, hD2, hH1, hH2, hS, hC, hT, hR, hL, hQ⟩ := Ok_b O
  have hV : (σ 1 2) * (σ 1 5) ≤ 18 := vle O
  have key : ∀ k, k ≤ (σ 1 2) * (σ 1 5) → ∀ x, x ≤ 2147483647 → (∀ v, v < k → u.testBit v = true → x ≤ wq σ l v) → (x ≤ 27 ∨ ∀ v, v < k → u.testBit v = false) → ∃ z, ev xs (d + 3) 213 1 ([.ref 62, .int (nI l), .int (nI u), .int (nI x), .int (nI k)], [], h) = some (.inl (some (.int (nI (z)))), h) ∧ (∀ v, v < (σ 1 2) * (σ 1 5) → u.testBit v = true → z ≤ wq σ l v) ∧ (z ≤ 27 ∨ ∀ v, v < (σ 1 2) * (σ 1 5) → u.testBit v = false) := by
    refine lp ((σ 1 2) * (σ 1 5)) ?_ ?_
    · intro x hx h1 h2
      refine ⟨x, ?_, h1, h2⟩
      have e := m_189 (xs := xs) (d := d + 2) O H
      rw [eb_213_1]
      clear h1 h2 hb
      simp (disch := first | assumption | omega | exact st8_a (Nat.le_of_ble_eq_true rfl)) only [e, eb_213_2, eb_213_8, kl_a, kl_d, kl_f, kl_i, kl_l, kl_n, kl_r, xr_1, xr_10, xr_2, xr_27, xr_28, xr_3, xr_31, xr_32, xr_33, xr_34, xr_37, xr_4, xr_40, xr_41, xr_44, xr_47, xr_5, xr_55, xr_76, af_0, af_1, xt_goto, xt_ib, xt_ic, xt_ic_ge, xt_ic_ne, xt_ir, xt_nop, mF_6 H, xq_189_13_virtualm H, xq_211_13_virtualm H, iN_add, iN_mul, iN_sub, iN_and, iN_or, iN_clr, iN_shl, iN_shr, tb_r1, b1_z, b1_or, b1_and, b1_or0, b1_or1, b1_0or, b1_t, b1_f, iN_lt, iN_inj, reduceIte, if_true, if_false, Nat.zero_add, Nat.add_zero, Bool.false_eq_true, Bool.true_eq_false, Nat.lt_irrefl, iN_az, not_true_eq_false, not_false_eq_true, Nat.reduceEqDiff, Nat.reduceLT, Nat.reduceAdd, Nat.reduceMul, Nat.reduceSub]
    · intro k hk ih x hx h1 h2
      have e := m_189 (xs := xs) (d := d + 2) O H
      have hk32 : k < 32 := by omega
      by_cases hk1 : u.testBit k = true
      · have e2 := m_211 (xs := xs) (d := d) O H hl hk
        have hwl : wv σ l (k / (σ 1 5)) (k % (σ 1 5)) ≤ 27 := wv_le O (vb O hk).2.1
        obtain ⟨y, e3, g1, g2⟩ := ih (min x (wv σ l (k / (σ 1 5)) (k % (σ 1 5)))) (by omega) (fun v hv hv2 => by
          by_cases ev : v = k
          · rw [ev]; exact Nat.min_le_right _ _
          · exact Nat.le_trans (Nat.min_le_left _ _) (h1 v (by omega) hv2)) (.inl (by omega))
        refine ⟨y, ?_, g1, g2⟩
        rw [eb_213_1]
        clear h1 h2 hb ih g1 g2
        simp (disch := first | assumption | omega | exact st8_a (Nat.le_of_ble_eq_true rfl)) only [e, hk, hk1, e2, eb_213_2, eb_213_3, eb_213_4, eb_213_5, eb_213_7, kl_a, kl_d, kl_f, kl_i, kl_l, kl_n, kl_r, xr_1, xr_10, xr_2, xr_27, xr_28, xr_3, xr_31, xr_32, xr_33, xr_34, xr_37, xr_4, xr_40, xr_41, xr_44, xr_47, xr_5, xr_55, xr_76, af_0, af_1, xt_goto, xt_ib, xt_ic, xt_ic_ge, xt_ic_ne, xt_ir, xt_nop, mF_6 H, xq_189_13_virtualm H, xq_211_13_virtualm H, iN_add, iN_mul, iN_sub, iN_and, iN_or, iN_clr, iN_shl, iN_shr, tb_r1, b1_z, b1_or, b1_and, b1_or0, b1_or1, b1_0or, b1_t, b1_f, iN_lt, iN_inj, reduceIte, if_true, if_false, Nat.zero_add, Nat.add_zero, Bool.false_eq_true, Bool.true_eq_false, Nat.lt_irrefl, iN_az, not_true_eq_false, not_false_eq_true, Nat.reduceEqDiff, Nat.reduceLT, Nat.reduceAdd, Nat.reduceMul, Nat.reduceSub]
        exact e3
      · have hk1 : u.testBit k = false := by simpa using hk1
        obtain ⟨y, e3, g1, g2⟩ := ih x hx (fun v hv hv2 => by
          by_cases ev : v = k
          · rw [ev, hk1] at hv2; cases hv2
          · exact h1 v (by omega) hv2) (by
          rcases h2 with h2 | h2
          · exact .inl h2
          · refine .inr fun v hv => ?_
            by_cases ev : v = k
            · rw [ev]; exact hk1
            · exact h2 v (by omega))
        refine ⟨y, ?_, g1, g2⟩
        rw [eb_213_1]
        clear h1 h2 hb ih g1 g2
        simp (disch := first | assumption | omega | exact st8_a (Nat.le_of_ble_eq_true rfl)) only [e, hk, hk1, eb_213_2, eb_213_3, eb_213_6, eb_213_7, kl_a, kl_d, kl_f, kl_i, kl_l, kl_n, kl_r, xr_1, xr_10, xr_2, xr_27, xr_28, xr_3, xr_31, xr_32, xr_33, xr_34, xr_37, xr_4, xr_40, xr_41, xr_44, xr_47, xr_5, xr_55, xr_76, af_0, af_1, xt_goto, xt_ib, xt_ic, xt_ic_ge, xt_ic_ne, xt_ir, xt_nop, mF_6 H, xq_189_13_virtualm H, xq_211_13_virtualm H, iN_add, iN_mul, iN_sub, iN_and, iN_or, iN_clr, iN_shl, iN_shr, tb_r1, b1_z, b1_or, b1_and, b1_or0, b1_or1, b1_0or, b1_t, b1_f, iN_lt, iN_inj, reduceIte, if_true, if_false, Nat.zero_add, Nat.add_zero, Bool.false_eq_true, Bool.true_eq_false, Nat.lt_irrefl, iN_az, not_true_eq_false, not_false_eq_true, Nat.reduceEqDiff, Nat.reduceLT, Nat.reduceAdd, Nat.reduceMul, Nat.reduceSub]
        exact e3
  obtain ⟨x, e, g1, g2⟩ := key 0 (Nat.zero_le _) 2147483647 (Nat.le_refl _) (fun v hv => absurd hv (Nat.not_lt_zero v)) (.inr fun v hv => absurd hv (Nat.not_lt_zero v))
  obtain ⟨w, hw⟩ := nz_tb.mp hz
  refine ⟨x, ?_, ?_, fun v hv => g1 v (hb v hv) hv⟩
  · clear hb g1 g2 key hw
    simp (disch := first | assumption | omega | exact st8_a (Nat.le_of_ble_eq_true rfl)) only [eb_213_0, kl_a, kl_d, kl_f, kl_i, kl_l, kl_n, kl_r, xr_1, xr_10, xr_2, xr_27, xr_28, xr_3, xr_31, xr_32, xr_33, xr_34, xr_37, xr_4, xr_40, xr_41, xr_44, xr_47, xr_5, xr_55, xr_76, af_0, af_1, xt_goto, xt_ib, xt_ic, xt_ic_ge, xt_ic_ne, xt_ir, xt_nop, mF_6 H, xq_189_13_virtualm H, xq_211_13_virtualm H, iN_add, iN_mul, iN_sub, iN_and, iN_or, iN_clr, iN_shl, iN_shr, tb_r1, b1_z, b1_or, b1_and, b1_or0, b1_or1, b1_0or, b1_t, b1_f, iN_lt, iN_inj, reduceIte, if_true, if_false, Nat.zero_add, Nat.add_zero, Bool.false_eq_true, Bool.true_eq_false, Nat.lt_irrefl, iN_az, not_true_eq_false, not_false_eq_true, Nat.reduceEqDiff, Nat.reduceLT, Nat.reduceAdd, Nat.reduceMul, Nat.reduceSub]
    exact e
  · rcases g2 with g2 | g2
    · exact g2
    · rw [g2 w (hb w hw)] at hw
      cases hw
/-- a lesson that begins with the first hour of a day, and lasts one -/
def fst1 (σ : Nat → Nat → Nat) (s : Nat → Nat) (l : Nat) : Bool := decide (hou σ (las σ l (s l)) = 0)
set_option maxRecDepth 100000 in
theorem sm_sw (n m : Nat) (f : Nat → Nat → Nat) : (sm n fun i => sm m fun j => f i j) = sm m fun j => sm n fun i => f i j := by
  induction n with
  | zero =>
    rw [sm, eq_comm, sm_z]
    exact fun _ _ => rfl
  | succ n ih =>
    rw [sm, ih, ← sm_add]
    exact sm_cg fun i _ => rfl
set_option maxRecDepth 100000 in
theorem sm_one (n : Nat) {f : Nat → Nat} (h1 : ∀ i, i < n → f i ≤ 1) (h : ∀ i j, i < n → j < n → f i ≠ 0 → f j ≠ 0 → i = j) : sm n f ≤ 1 := by
  induction n with
  | zero => exact Nat.zero_le _
  | succ n ih =>
    rw [sm]
    have h2 := ih (fun i hi => h1 i (by omega)) fun i j hi hj => h i j (by omega) (by omega)
    have h3 := h1 n (by omega)
    by_cases e : f n = 0
    · omega
    · have : sm n f = 0 := sm_z.mpr fun i hi => by
        by_cases e2 : f i = 0
        · exact e2
        · have := h i n (by omega) (by omega) e2 e
          omega
      omega
set_option maxRecDepth 100000 in
theorem gap_1 (O : Ok σ) (hs : ∀ l, l < (σ 1 6) → s l < (σ 1 2)) (hst : ∀ l, l < (σ 1 6) → sty σ l (s l) = true) : (sm (σ 1 4) fun t => gap σ (ctc σ s t)) ≤ sm (σ 1 6) fun l => b1 (fst1 σ s l) := by
  obtain ⟨hD1, hD2, hH1, hH2, hS, hC, hT, hR, hL, hQ⟩ := Ok_b O
  have h1 : (sm (σ 1 4) fun t => gap σ (ctc σ s t)) ≤ sm (σ 1 4) fun t => sm (σ 1 0) fun y => sm (σ 1 6) fun l => b1 (decide (σ 6 l = t) && (decide (s l = y * (σ 1 1)) && fst1 σ s l)) := by
    refine sm_mono fun t ht => ?_
    unfold gap
    refine sm_mono fun y hy => ?_
    by_cases hg : (ctc σ s t &&& dm σ y) >>> (y * (σ 1 1)) = 5
    · rw [decide_eq_true hg, b1_t]
      obtain ⟨g1, g2, g3, g4⟩ := (gap_b O (ctc_lt O hs t) hy).mp hg
      unfold ctc at g2 g3
      obtain ⟨l, hl, h2⟩ := orn_tb.mp g2
      have h3 : ¬ (∃ k, k < (σ 1 6) ∧ (if σ 6 k = t then cov σ k (s k) else 0).testBit (y * (σ 1 1) + 1) = true) := fun z => by
        rw [orn_tb.mpr z] at g3
        cases g3
      by_cases e : σ 6 l = t
      · rw [if_pos e] at h2
        have h4 : ¬ (cov σ l (s l)).testBit (y * (σ 1 1) + 1) = true := fun z => h3 ⟨l, hl, by rw [if_pos e]; exact z⟩
        rw [cov_tb] at h2 h4
        have h5 := hs l hl
        have hy2 : y = 0 ∨ y = 1 := by omega
        have h6 : s l = y * (σ 1 1) ∧ ¬ (σ 7 l = 2 ∧ s l + 1 < (σ 1 2)) := by
          rw [g1] at h2 h4 ⊢
          rcases h2 with h2 | ⟨h2, h7, h8⟩
          · refine ⟨h2.symm, fun z => h4 (.inr ⟨z.1, z.2, by omega⟩)⟩
          · exfalso
            have h9 := hst l hl
            unfold sty hou at h9
            rw [Bool.or_eq_true, decide_eq_true_eq, decide_eq_true_eq] at h9
            rcases h9 with h9 | h9
            · omega
            · split at h9 <;> rcases hy2 with rfl | rfl <;> omega
        have h7 : fst1 σ s l = true := by
          unfold fst1 las
          rw [if_neg h6.2, decide_eq_true_eq, h6.1]
          unfold hou
          rcases hy2 with rfl | rfl
          · rw [Nat.zero_mul, if_pos (by omega)]
          · rw [Nat.one_mul, if_neg (by omega), Nat.sub_self]
        have h8 : ∀ f : Nat → Nat, f l = 1 → 1 ≤ sm (σ 1 6) f := fun f hf => by
          refine Nat.pos_of_ne_zero fun z => ?_
          have := sm_z.mp z l hl
          omega
        refine h8 _ ?_
        rw [decide_eq_true e, decide_eq_true h6.1, h7]
        rfl
      · rw [if_neg e, Nat.zero_testBit] at h2
        cases h2
    · rw [decide_eq_false hg]
      exact Nat.zero_le _
  refine Nat.le_trans h1 ?_
  rw [sm_cg (fun t _ => sm_sw (σ 1 0) (σ 1 6) _), sm_sw (σ 1 4) (σ 1 6)]
  refine sm_mono fun l hl => ?_
  cases hf : fst1 σ s l
  · rw [sm_z.mpr fun t _ => sm_z.mpr fun y _ => by rw [Bool.and_false, Bool.and_false]; rfl]
    exact Nat.zero_le _
  · refine sm_one _ (fun t _ => sm_one _ (fun y _ => Nat.le_of_lt_succ (b1_lt _)) fun y y2 _ _ h2 h3 => ?_) fun t t2 _ _ h2 h3 => ?_
    · have h4 : s l = y * (σ 1 1) := by
        refine Classical.byContradiction fun z => h2 ?_
        rw [decide_eq_false z, Bool.false_and, Bool.and_false]
        rfl
      have h5 : s l = y2 * (σ 1 1) := by
        refine Classical.byContradiction fun z => h3 ?_
        rw [decide_eq_false z, Bool.false_and, Bool.and_false]
        rfl
      exact Nat.eq_of_mul_eq_mul_right (by omega) (h4.symm.trans h5)
    · have h4 : σ 6 l = t := by
        refine Classical.byContradiction fun z => h2 (sm_z.mpr fun y _ => ?_)
        rw [decide_eq_false z, Bool.false_and]
        rfl
      have h5 : σ 6 l = t2 := by
        refine Classical.byContradiction fun z => h3 (sm_z.mpr fun y _ => ?_)
        rw [decide_eq_false z, Bool.false_and]
        rfl
      exact h4.symm.trans h5
set_option maxRecDepth 100000 in
theorem sm_ml (n c : Nat) (f : Nat → Nat) : (sm n fun i => c * f i) = c * sm n f := by
  induction n with
  | zero => rfl
  | succ n ih => rw [sm, sm, ih, Nat.mul_add]
set_option maxRecDepth 100000 in
theorem wt_162 (O : Ok σ) (hs : ∀ l, l < (σ 1 6) → s l < (σ 1 2)) (hst : ∀ l, l < (σ 1 6) → sty σ l (s l) = true) : wt σ s r ≤ 162 := by
  obtain ⟨hD1, hD2, hH1, hH2, hS, hC, hT, hR, hL, hQ⟩ := Ok_b O
  have h1 := gap_1 O hs hst
  have h2 := Ok_w O (i := 2) (by decide)
  have h3 : σ 11 2 * (sm (σ 1 4) fun t => gap σ (ctc σ s t)) ≤ 9 * sm (σ 1 6) fun l => b1 (fst1 σ s l) := Nat.mul_le_mul h2 h1
  have h4 : (sm (σ 1 6) fun l => wv σ l (s l) (r l) + 9 * b1 (fst1 σ s l)) ≤ (σ 1 6) * 27 := sm_le fun l hl => by
    have h5 := wv_le (r := r l) O (hs l hl) (l := l)
    have h6 := Ok_w O (i := 1) (by decide)
    cases h7 : fst1 σ s l
    · rw [b1_f]
      omega
    · unfold fst1 at h7
      rw [decide_eq_true_eq] at h7
      rw [b1_t]
      unfold wv
      rw [h7, Nat.mul_zero]
      split <;> omega
  rw [sm_add, sm_ml] at h4
  unfold wt
  rw [sm_ml]
  omega
set_option maxRecDepth 100000 in
theorem PA_162 (O : Ok σ) (hT : WT σ set (σ 1 7) k y W) (hP : PA σ W (σ 1 6) t) : wtt σ t ≤ 162 := by
  obtain ⟨h1, h2, -⟩ := (PA_Gd O hT).mp hP
  exact wt_162 O (fun l hl => (vb O (h1 l hl)).2.1) fun l hl => (((flt_0 _ _).mp h2.2.1).1 l hl).1
set_option maxRecDepth 100000 in
theorem ws_le : ws σ (σ 1 6) t ≤ wtt σ t := Nat.le_add_right _ _
end Wyh
