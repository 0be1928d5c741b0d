/-! THE MODEL: fillShares; sums of powers order the shares -/
section Wyk
variable {xs : List Int32} {d m n : Nat} {h0 T A : ab_H} {σ W N K : Nat → Nat → Nat} {μ : Nat → Nat} {ν : Nat → Value} {β : Value} {a b u k v x y q set l i p p2 nn : Nat} {t s r tab f g F : Nat → Nat} {G : Nat → Nat}
set_option maxRecDepth 100000 in
theorem sh_l {m2 : Nat} {hs : List (Nat × Nat)} {tt : ab_T} {rr : List ab_I} {qq : Nat × Nat × Nat} {Lc st : List Value} (hk : k ≤ 6) (hi : i < 4) : rt xs d m2 hs tt ((.iaload, qq) :: rr) (Lc, .int (nI i) :: .ref (h0.length + (10 + k)) :: st, hw h0 nn (ur W (10 + k) f) β T) = rt xs d m2 hs tt rr (Lc, .int (nI (f i)) :: st, hw h0 nn (ur W (10 + k) f) β T) := by
  rw [q_ia (sh_k hk) hi (by decide), ur_s]
set_option maxRecDepth 100000 in
theorem sh_w {m2 : Nat} {hs : List (Nat × Nat)} {tt : ab_T} {rr : List ab_I} {qq : Nat × Nat × Nat} {Lc st : List Value} (hk : k ≤ 6) (hi : i < 4) : rt xs d m2 hs tt ((.iastore, qq) :: rr) (Lc, .int (nI v) :: .int (nI i) :: .ref (h0.length + (10 + k)) :: st, hw h0 nn (ur W (10 + k) f) β T) = rt xs d m2 hs tt rr (Lc, st, hw h0 nn (ur W (10 + k) (u1 f i v)) β T) := by
  rw [q_is (sh_k hk) hi (by decide), ur_s, sh_s hk, ur_ur]
set_option maxRecDepth 100000 in
theorem shm_le : shm σ u tab m ≤ m := by
  have := sm_le (n := m) (c := 1) (f := fun l => b1 (decide (σ 6 l = u) && decide (cov σ l (tab l / (σ 1 5)) &&& lh σ ≠ 0))) fun i _ => Nat.le_of_lt_succ (b1_lt _)
  unfold shm
  omega
-- fillShares
set_option maxRecDepth 100000 in
theorem m_215 (O : Ok σ) (H : Mo σ μ ν h0) (hk : k ≤ 6) (hm : m ≤ (σ 1 6)) (ht : ∀ l, l < m → W 8 l < (σ 1 2) * (σ 1 5)) : ∃ g, ev xs (d + 4) 215 0 ([.ref 62, .ref (h0.length + (10 + k)), .ref (h0.length + 8), .int (nI m), .retAddr 9, .retAddr 9, .retAddr 9], [], hw h0 (σ 1 6) W β T) = some (.inl none, hw h0 (σ 1 6) (ur W (10 + k) g) β T) ∧ DS (σ 1 4) g ∧ (∀ j, j < (σ 1 4) → g j ≤ 6) ∧ (∀ j, (σ 1 4) ≤ j → g j = W (10 + k) j) ∧ ∀ G : Nat → Nat, (sm (σ 1 4) fun j => G (g j)) = sm (σ 1 4) fun u => G (shm σ u (W 8) m) := by
  obtain ⟨hD1, hD2, hH1, hH2, hS, hC, hT, hR, hL, hQ⟩ := Ok_b O
  have own6 : ∀ u, shm σ u (W 8) m ≤ 6 := fun u => Nat.le_trans shm_le (by omega)
  -- one teacher's share goes in
  have inn : ∀ t, t < (σ 1 4) → ∀ i, i ≤ t → ∀ f, DX (t + 1) i f → (∀ b, i < b → b < t + 1 → f b ≤ shm σ t (W 8) m) → (∀ j, j < t + 1 → j ≠ i → f j ≤ 6) → (∀ j, t < j → f j = W (10 + k) j) → (∀ G : Nat → Nat, (sx (t + 1) i fun j => G (f j)) = sm t fun u => G (shm σ u (W 8) m)) → ∃ f2 y, ev xs (d + 4) 215 4 ([.ref 62, .ref (h0.length + (10 + k)), .ref (h0.length + 8), .int (nI m), .int (nI t), .int (nI (shm σ t (W 8) m)), .int (nI i)], [], hw h0 (σ 1 6) (ur W (10 + k) f) β T) = ev xs (d + 4) 215 1 ([.ref 62, .ref (h0.length + (10 + k)), .ref (h0.length + 8), .int (nI m), .int (nI (t + 1)), .int (nI (shm σ t (W 8) m)), y], [], hw h0 (σ 1 6) (ur W (10 + k) f2) β T) ∧ DS (t + 1) f2 ∧ (∀ j, j < t + 1 → f2 j ≤ 6) ∧ (∀ j, t + 1 ≤ j → f2 j = W (10 + k) j) ∧ ∀ G : Nat → Nat, (sm (t + 1) fun j => G (f2 j)) = sm (t + 1) fun u => G (shm σ u (W 8) m) := by
    intro t ht4 i
    have o6 := own6 t
    -- the hole is filled
    have fill : ∀ i, i ≤ t → ∀ f, DX (t + 1) i f → (∀ b, i < b → b < t + 1 → f b ≤ shm σ t (W 8) m) → (∀ j, j < t + 1 → j ≠ i → f j ≤ 6) → (∀ j, t < j → f j = W (10 + k) j) → (∀ G : Nat → Nat, (sx (t + 1) i fun j => G (f j)) = sm t fun u => G (shm σ u (W 8) m)) → (∀ a, a < i → shm σ t (W 8) m ≤ f a) → DS (t + 1) (u1 f i (shm σ t (W 8) m)) ∧ (∀ j, j < t + 1 → u1 f i (shm σ t (W 8) m) j ≤ 6) ∧ (∀ j, t + 1 ≤ j → u1 f i (shm σ t (W 8) m) j = W (10 + k) j) ∧ ∀ G : Nat → Nat, (sm (t + 1) fun j => G (u1 f i (shm σ t (W 8) m) j)) = sm (t + 1) fun u => G (shm σ u (W 8) m) := by
      intro i hi f h1 h2 h3 h4 h5 h6
      refine ⟨DX_e h1 h6 h2, fun j hj => ?_, fun j hj => by rw [u1_n (by omega)]; exact h4 j hj, fun G => ?_⟩
      · by_cases e : j = i
        · rw [e, u1_s]; exact o6
        · rw [u1_n e]; exact h3 j hj e
      · rw [sx_e (i := i) (by omega), sx_c (g := fun j => G (f j)) (fun j _ hj => by show G (u1 f i (shm σ t (W 8) m) j) = _; rw [u1_n hj]), h5 G, u1_s]
        rfl
    induction i with
    | zero =>
      intro hi f h1 h2 h3 h4 h5
      refine ⟨u1 f 0 (shm σ t (W 8) m), .int (nI 0), ?_, fill 0 (Nat.zero_le _) f h1 h2 h3 h4 h5 fun a ha => absurd ha (Nat.not_lt_zero a)⟩
      rw [eb_215_4]
      clear h1 h2 h3 h4 h5 fill ht own6
      simp (disch := first | assumption | omega | exact st8_a (Nat.le_of_ble_eq_true rfl)) only [sh_w hk, eb_215_7, kl_a, kl_d, kl_f, kl_i, kl_l, kl_n, kl_r, xr_1, xr_10, xr_11, xr_12, xr_13, xr_14, xr_144, xr_15, xr_16, xr_17, xr_18, xr_19, xr_2, xr_20, xr_27, xr_3, xr_33, xr_34, xr_35, xr_36, xr_37, xr_4, xr_40, xr_5, xr_56, xr_57, xr_77, af_0, af_1, xt_goto, xt_ic_ge, xt_if_le, xt_nop, xt_re, wF_0, wF_1, wF_2, wF_3, wF_4, wF_5, wF_6, wF_7, wF_8, wF_9, wF_10, wF_11, wF_12, wF_13, wP_9, wP_10, wL_5, wC_5, wC_17, wD, hw_app, hw_len, wA_1, wA_2, wA_3, wA_4, wA_5, wA_6, wA_7, wA_8, wA_17, wW_1, wW_2, wW_3, wW_4, wW_5, wW_6, wW_7, wW_8, wW_17, mF_5 (Mo_hw H), mA_63 (Mo_hw H), mA_64 (Mo_hw H), mA_65 (Mo_hw H), mA_66 (Mo_hw H), mA_67 (Mo_hw H), mA_68 (Mo_hw H), mA_69 (Mo_hw H), mA_70 (Mo_hw H), mA_71 (Mo_hw H), xq_214_13_virtualm (Mo_hw H), iN_add, iN_mul, iN_sub, iN_and, iN_or, iN_clr, iN_shl, iN_shr, tb_r1, b1_z, b1_or, b1_and, b1_or0, b1_or1, b1_0or, b1_t, b1_f, iN_lt, iN_inj, reduceIte, if_true, if_false, Nat.zero_add, Nat.add_zero, Bool.false_eq_true, Bool.true_eq_false, Nat.lt_irrefl, iN_az, not_true_eq_false, not_false_eq_true, Nat.reduceEqDiff, Nat.reduceLT, Nat.reduceAdd, Nat.reduceMul, Nat.reduceSub]
    | succ i ih =>
      intro hi f h1 h2 h3 h4 h5
      have hi0 : 0 < i + 1 := Nat.succ_pos i
      have fi6 := h3 i (by omega) (by omega)
      by_cases hlt : f i < shm σ t (W 8) m
      · obtain ⟨f2, y, e, q⟩ := ih (by omega) (u1 f (i + 1) (f i)) (DX_m (by omega) h1) (fun b hb hb2 => by
          by_cases e : b = i + 1
          · rw [e, u1_s]; omega
          · rw [u1_n e]; exact h2 b (by omega) hb2) (fun j hj hj2 => by
          by_cases e : j = i + 1
          · rw [e, u1_s]; exact fi6
          · rw [u1_n e]; exact h3 j hj e) (fun j hj => by rw [u1_n (by omega)]; exact h4 j hj) fun G => by rw [sx_m (by omega)]; exact h5 G
        refine ⟨f2, y, ?_, q⟩
        rw [eb_215_4]
        clear h1 h2 h3 h4 h5 fill ht own6 ih q
        simp (disch := first | assumption | omega | exact st8_a (Nat.le_of_ble_eq_true rfl)) only [hi0, hlt, sh_l hk, sh_w hk, Nat.add_sub_cancel, eb_215_5, eb_215_6, kl_a, kl_d, kl_f, kl_i, kl_l, kl_n, kl_r, xr_1, xr_10, xr_11, xr_12, xr_13, xr_14, xr_144, xr_15, xr_16, xr_17, xr_18, xr_19, xr_2, xr_20, xr_27, xr_3, xr_33, xr_34, xr_35, xr_36, xr_37, xr_4, xr_40, xr_5, xr_56, xr_57, xr_77, af_0, af_1, xt_goto, xt_ic_ge, xt_if_le, xt_nop, xt_re, wF_0, wF_1, wF_2, wF_3, wF_4, wF_5, wF_6, wF_7, wF_8, wF_9, wF_10, wF_11, wF_12, wF_13, wP_9, wP_10, wL_5, wC_5, wC_17, wD, hw_app, hw_len, wA_1, wA_2, wA_3, wA_4, wA_5, wA_6, wA_7, wA_8, wA_17, wW_1, wW_2, wW_3, wW_4, wW_5, wW_6, wW_7, wW_8, wW_17, mF_5 (Mo_hw H), mA_63 (Mo_hw H), mA_64 (Mo_hw H), mA_65 (Mo_hw H), mA_66 (Mo_hw H), mA_67 (Mo_hw H), mA_68 (Mo_hw H), mA_69 (Mo_hw H), mA_70 (Mo_hw H), mA_71 (Mo_hw H), xq_214_13_virtualm (Mo_hw H), iN_add, iN_mul, iN_sub, iN_and, iN_or, iN_clr, iN_shl, iN_shr, tb_r1, b1_z, b1_or, b1_and, b1_or0, b1_or1, b1_0or, b1_t, b1_f, iN_lt, iN_inj, reduceIte, if_true, if_false, Nat.zero_add, Nat.add_zero, Bool.false_eq_true, Bool.true_eq_false, Nat.lt_irrefl, iN_az, not_true_eq_false, not_false_eq_true, Nat.reduceEqDiff, Nat.reduceLT, Nat.reduceAdd, Nat.reduceMul, Nat.reduceSub]
        exact e
      · refine ⟨u1 f (i + 1) (shm σ t (W 8) m), .int (nI (i + 1)), ?_, fill (i + 1) hi f h1 h2 h3 h4 h5 fun a ha => ?_⟩
        · rw [eb_215_4]
          clear h1 h2 h3 h4 h5 fill ht own6 ih
          simp (disch := first | assumption | omega | exact st8_a (Nat.le_of_ble_eq_true rfl)) only [hi0, hlt, sh_l hk, sh_w hk, Nat.add_sub_cancel, eb_215_5, eb_215_7, kl_a, kl_d, kl_f, kl_i, kl_l, kl_n, kl_r, xr_1, xr_10, xr_11, xr_12, xr_13, xr_14, xr_144, xr_15, xr_16, xr_17, xr_18, xr_19, xr_2, xr_20, xr_27, xr_3, xr_33, xr_34, xr_35, xr_36, xr_37, xr_4, xr_40, xr_5, xr_56, xr_57, xr_77, af_0, af_1, xt_goto, xt_ic_ge, xt_if_le, xt_nop, xt_re, wF_0, wF_1, wF_2, wF_3, wF_4, wF_5, wF_6, wF_7, wF_8, wF_9, wF_10, wF_11, wF_12, wF_13, wP_9, wP_10, wL_5, wC_5, wC_17, wD, hw_app, hw_len, wA_1, wA_2, wA_3, wA_4, wA_5, wA_6, wA_7, wA_8, wA_17, wW_1, wW_2, wW_3, wW_4, wW_5, wW_6, wW_7, wW_8, wW_17, mF_5 (Mo_hw H), mA_63 (Mo_hw H), mA_64 (Mo_hw H), mA_65 (Mo_hw H), mA_66 (Mo_hw H), mA_67 (Mo_hw H), mA_68 (Mo_hw H), mA_69 (Mo_hw H), mA_70 (Mo_hw H), mA_71 (Mo_hw H), xq_214_13_virtualm (Mo_hw H), iN_add, iN_mul, iN_sub, iN_and, iN_or, iN_clr, iN_shl, iN_shr, tb_r1, b1_z, b1_or, b1_and, b1_or0, b1_or1, b1_0or, b1_t, b1_f, iN_lt, iN_inj, reduceIte, if_true, if_false, Nat.zero_add, Nat.add_zero, Bool.false_eq_true, Bool.true_eq_false, Nat.lt_irrefl, iN_az, not_true_eq_false, not_false_eq_true, Nat.reduceEqDiff, Nat.reduceLT, Nat.reduceAdd, Nat.reduceMul, Nat.reduceSub]
        · by_cases e : a = i
          · rw [e]; omega
          · have := h1 a i (by omega) (by omega) (by omega) (by omega)
            omega
  have key : ∀ t, t ≤ (σ 1 4) → ∀ f y5 y6, DS t f → (∀ j, j < t → f j ≤ 6) → (∀ j, t ≤ j → f j = W (10 + k) j) → (∀ G : Nat → Nat, (sm t fun j => G (f j)) = sm t fun u => G (shm σ u (W 8) m)) → ∃ g, ev xs (d + 4) 215 1 ([.ref 62, .ref (h0.length + (10 + k)), .ref (h0.length + 8), .int (nI m), .int (nI t), y5, y6], [], hw h0 (σ 1 6) (ur W (10 + k) f) β T) = some (.inl none, hw h0 (σ 1 6) (ur W (10 + k) g) β T) ∧ DS (σ 1 4) g ∧ (∀ j, j < (σ 1 4) → g j ≤ 6) ∧ (∀ j, (σ 1 4) ≤ j → g j = W (10 + k) j) ∧ ∀ G : Nat → Nat, (sm (σ 1 4) fun j => G (g j)) = sm (σ 1 4) fun u => G (shm σ u (W 8) m) := by
    refine lp (σ 1 4) ?_ ?_
    · intro f y5 y6 h1 h2 h3 h4
      refine ⟨f, ?_, h1, h2, h3, h4⟩
      rw [eb_215_1]
      clear h1 h2 h3 h4 ht own6 inn
      simp (disch := first | assumption | omega | exact st8_a (Nat.le_of_ble_eq_true rfl)) only [eb_215_8, kl_a, kl_d, kl_f, kl_i, kl_l, kl_n, kl_r, xr_1, xr_10, xr_11, xr_12, xr_13, xr_14, xr_144, xr_15, xr_16, xr_17, xr_18, xr_19, xr_2, xr_20, xr_27, xr_3, xr_33, xr_34, xr_35, xr_36, xr_37, xr_4, xr_40, xr_5, xr_56, xr_57, xr_77, af_0, af_1, xt_goto, xt_ic_ge, xt_if_le, xt_nop, xt_re, wF_0, wF_1, wF_2, wF_3, wF_4, wF_5, wF_6, wF_7, wF_8, wF_9, wF_10, wF_11, wF_12, wF_13, wP_9, wP_10, wL_5, wC_5, wC_17, wD, hw_app, hw_len, wA_1, wA_2, wA_3, wA_4, wA_5, wA_6, wA_7, wA_8, wA_17, wW_1, wW_2, wW_3, wW_4, wW_5, wW_6, wW_7, wW_8, wW_17, mF_5 (Mo_hw H), mA_63 (Mo_hw H), mA_64 (Mo_hw H), mA_65 (Mo_hw H), mA_66 (Mo_hw H), mA_67 (Mo_hw H), mA_68 (Mo_hw H), mA_69 (Mo_hw H), mA_70 (Mo_hw H), mA_71 (Mo_hw H), xq_214_13_virtualm (Mo_hw H), iN_add, iN_mul, iN_sub, iN_and, iN_or, iN_clr, iN_shl, iN_shr, tb_r1, b1_z, b1_or, b1_and, b1_or0, b1_or1, b1_0or, b1_t, b1_f, iN_lt, iN_inj, reduceIte, if_true, if_false, Nat.zero_add, Nat.add_zero, Bool.false_eq_true, Bool.true_eq_false, Nat.lt_irrefl, iN_az, not_true_eq_false, not_false_eq_true, Nat.reduceEqDiff, Nat.reduceLT, Nat.reduceAdd, Nat.reduceMul, Nat.reduceSub]
    · intro t ht4 ih f y5 y6 h1 h2 h3 h4
      have e1 := m_214 (xs := xs) (d := d) (u := t) (p := h0.length + 8) (n := (σ 1 6)) (tab := W 8) O (Mo_hw (nn := (σ 1 6)) (W := ur W (10 + k) f) (β := β) (T := T) H) ((hw_k (by decide)).trans (show some (oI (ar (σ 1 6) (ur W (10 + k) f 8))) = _ by rw [ur_n (by omega)])) hL hm hm ht (by omega)
      obtain ⟨f2, y, e2, g1, g2, g3, g4⟩ := inn t ht4 t (Nat.le_refl _) f (fun a b hab hb ha hb2 => h1 a b hab (by omega)) (fun b hb hb2 => by omega) (fun j hj hj2 => h2 j (by omega)) (fun j hj => h3 j (by omega)) (fun G => by
        rw [← h4 G]
        show sm (t + 1) _ = _
        rw [sm, if_pos rfl, Nat.add_zero]
        exact sm_cg fun j hj => if_neg (by omega))
      obtain ⟨g, e3, q⟩ := ih f2 (.int (nI (shm σ t (W 8) m))) y g1 g2 g3 g4
      refine ⟨g, ?_, q⟩
      rw [eb_215_1]
      clear h1 h2 h3 h4 ht own6 inn g1 g2 g3 g4 q ih
      simp (disch := first | assumption | omega | exact st8_a (Nat.le_of_ble_eq_true rfl)) only [ht4, e1, eb_215_2, eb_215_3, kl_a, kl_d, kl_f, kl_i, kl_l, kl_n, kl_r, xr_1, xr_10, xr_11, xr_12, xr_13, xr_14, xr_144, xr_15, xr_16, xr_17, xr_18, xr_19, xr_2, xr_20, xr_27, xr_3, xr_33, xr_34, xr_35, xr_36, xr_37, xr_4, xr_40, xr_5, xr_56, xr_57, xr_77, af_0, af_1, xt_goto, xt_ic_ge, xt_if_le, xt_nop, xt_re, wF_0, wF_1, wF_2, wF_3, wF_4, wF_5, wF_6, wF_7, wF_8, wF_9, wF_10, wF_11, wF_12, wF_13, wP_9, wP_10, wL_5, wC_5, wC_17, wD, hw_app, hw_len, wA_1, wA_2, wA_3, wA_4, wA_5, wA_6, wA_7, wA_8, wA_17, wW_1, wW_2, wW_3, wW_4, wW_5, wW_6, wW_7, wW_8, wW_17, mF_5 (Mo_hw H), mA_63 (Mo_hw H), mA_64 (Mo_hw H), mA_65 (Mo_hw H), mA_66 (Mo_hw H), mA_67 (Mo_hw H), mA_68 (Mo_hw H), mA_69 (Mo_hw H), mA_70 (Mo_hw H), mA_71 (Mo_hw H), xq_214_13_virtualm (Mo_hw H), iN_add, iN_mul, iN_sub, iN_and, iN_or, iN_clr, iN_shl, iN_shr, tb_r1, b1_z, b1_or, b1_and, b1_or0, b1_or1, b1_0or, b1_t, b1_f, iN_lt, iN_inj, reduceIte, if_true, if_false, Nat.zero_add, Nat.add_zero, Bool.false_eq_true, Bool.true_eq_false, Nat.lt_irrefl, iN_az, not_true_eq_false, not_false_eq_true, Nat.reduceEqDiff, Nat.reduceLT, Nat.reduceAdd, Nat.reduceMul, Nat.reduceSub]
      rw [e2]
      exact e3
  obtain ⟨g, e, q⟩ := key 0 (Nat.zero_le _) (W (10 + k)) (.retAddr 9) (.retAddr 9) (fun a b _ hb => absurd hb (Nat.not_lt_zero b)) (fun j hj => absurd hj (Nat.not_lt_zero j)) (fun _ _ => rfl) fun _ => rfl
  refine ⟨g, ?_, q⟩
  rw [ur_id] at e
  clear q key inn ht own6
  simp (disch := first | assumption | omega | exact st8_a (Nat.le_of_ble_eq_true rfl)) only [eb_215_0, kl_a, kl_d, kl_f, kl_i, kl_l, kl_n, kl_r, xr_1, xr_10, xr_11, xr_12, xr_13, xr_14, xr_144, xr_15, xr_16, xr_17, xr_18, xr_19, xr_2, xr_20, xr_27, xr_3, xr_33, xr_34, xr_35, xr_36, xr_37, xr_4, xr_40, xr_5, xr_56, xr_57, xr_77, af_0, af_1, xt_goto, xt_ic_ge, xt_if_le, xt_nop, xt_re, wF_0, wF_1, wF_2, wF_3, wF_4, wF_5, wF_6, wF_7, wF_8, wF_9, wF_10, wF_11, wF_12, wF_13, wP_9, wP_10, wL_5, wC_5, wC_17, wD, hw_app, hw_len, wA_1, wA_2, wA_3, wA_4, wA_5, wA_6, wA_7, wA_8, wA_17, wW_1, wW_2, wW_3, wW_4, wW_5, wW_6, wW_7, wW_8, wW_17, mF_5 (Mo_hw H), mA_63 (Mo_hw H), mA_64 (Mo_hw H), mA_65 (Mo_hw H), mA_66 (Mo_hw H), mA_67 (Mo_hw H), mA_68 (Mo_hw H), mA_69 (Mo_hw H), mA_70 (Mo_hw H), mA_71 (Mo_hw H), xq_214_13_virtualm (Mo_hw H), iN_add, iN_mul, iN_sub, iN_and, iN_or, iN_clr, iN_shl, iN_shr, tb_r1, b1_z, b1_or, b1_and, b1_or0, b1_or1, b1_0or, b1_t, b1_f, iN_lt, iN_inj, reduceIte, if_true, if_false, Nat.zero_add, Nat.add_zero, Bool.false_eq_true, Bool.true_eq_false, Nat.lt_irrefl, iN_az, not_true_eq_false, not_false_eq_true, Nat.reduceEqDiff, Nat.reduceLT, Nat.reduceAdd, Nat.reduceMul, Nat.reduceSub]
  exact e
set_option maxRecDepth 100000 in
theorem p5_le {x y : Nat} (h : x ≤ y) : 5 ^ x ≤ 5 ^ y := Nat.pow_le_pow_right (by decide) h
set_option maxRecDepth 100000 in
theorem p5_s (n : Nat) (h : n ≤ 4) (x : Nat) : n * 5 ^ x < 5 ^ (x + 1) := by
  have h1 : 5 ^ 0 ≤ 5 ^ x := p5_le (Nat.zero_le x)
  have h0 : 5 ^ 0 = 1 := rfl
  rw [Nat.pow_succ]
  have h2 : n * 5 ^ x ≤ 4 * 5 ^ x := Nat.mul_le_mul_right _ h
  omega
-- sums of powers grow with rows that go down
set_option maxRecDepth 100000 in
theorem LL_p (hn : n ≤ 4) (hf : DS n f) (h : LL n f g) : (sm n fun j => 5 ^ f j) < sm n fun j => 5 ^ g j := by
  obtain ⟨k, hk, h1, h2⟩ := h
  have key : ∀ m, k + m ≤ n → (sm (k + m) fun j => 5 ^ f j) ≤ (sm k fun j => 5 ^ f j) + m * 5 ^ f k := by
    intro m
    induction m with
    | zero =>
      intro _
      rw [Nat.zero_mul]
      exact Nat.le_refl _
    | succ m ih =>
      intro hm
      have h3 := ih (by omega)
      have h4 : f (k + m) ≤ f k := by
        by_cases e : m = 0
        · rw [e]; exact Nat.le_refl _
        · exact hf k (k + m) (by omega) (by omega)
      have h5 := p5_le h4
      rw [← Nat.add_assoc, sm, Nat.add_mul, Nat.one_mul]
      omega
  have h3 := key (n - k) (by omega)
  rw [show k + (n - k) = n by omega] at h3
  have h4 := p5_s (n - k) (by omega) (f k)
  have h5 : 5 ^ (f k + 1) ≤ 5 ^ g k := p5_le h2
  have h6 : (sm k fun j => 5 ^ f j) = sm k fun j => 5 ^ g j := sm_cg fun j hj => by rw [h1 j hj]
  have h7 : ∀ m, k + 1 + m ≤ n → (sm k fun j => 5 ^ g j) + 5 ^ g k ≤ sm (k + 1 + m) fun j => 5 ^ g j := by
    intro m
    induction m with
    | zero => intro _; exact Nat.le_refl _
    | succ m ih =>
      intro hm
      have := ih (by omega)
      rw [← Nat.add_assoc, sm]
      exact Nat.le_trans this (Nat.le_add_right _ _)
  have h8 := h7 (n - (k + 1)) (by omega)
  rw [show k + 1 + (n - (k + 1)) = n by omega] at h8
  omega
set_option maxRecDepth 100000 in
theorem LL_tri (h1 : ¬ LL n f g) (h2 : ¬ LL n g f) : ∀ j, j < n → f j = g j := by
  intro j
  induction j using Nat.strongRecOn with
  | ind j ih =>
    intro hj
    rcases Nat.lt_trichotomy (f j) (g j) with h | h | h
    · exact absurd ⟨j, hj, fun i hi => ih i hi (by omega), h⟩ h1
    · exact h
    · exact absurd ⟨j, hj, fun i hi => (ih i hi (by omega)).symm, h⟩ h2
set_option maxRecDepth 100000 in
theorem LL_pi (hn : n ≤ 4) (hf : DS n f) (hg : DS n g) : LL n f g ↔ (sm n fun j => 5 ^ f j) < sm n fun j => 5 ^ g j := by
  refine ⟨LL_p hn hf, fun h => ?_⟩
  refine Classical.byContradiction fun h1 => ?_
  by_cases h2 : LL n g f
  · have := LL_p hn hg h2
    omega
  · have := LL_tri h1 h2
    rw [sm_cg (g := fun j => 5 ^ g j) fun j hj => by rw [this j hj]] at h
    omega
/-- a number for a row that goes down, with a sum of at most 6 -/
def rnk (f : Nat → Nat) : Nat := ((f 0 * 4 + f 1) * 3 + f 2) * 2 + f 3
set_option maxRecDepth 100000 in
theorem rnk_b (hf : DS 4 f) (h : f 0 + f 1 + f 2 + f 3 ≤ 6) : rnk f < 168 ∧ f 1 < 4 ∧ f 2 < 3 ∧ f 3 < 2 := by
  have h1 := hf 0 1 (by decide) (by decide)
  have h2 := hf 1 2 (by decide) (by decide)
  have h3 := hf 2 3 (by decide) (by decide)
  unfold rnk
  omega
set_option maxRecDepth 100000 in
theorem rnk_lt (hf : DS 4 f) (h : f 0 + f 1 + f 2 + f 3 ≤ 6) (h2 : LL 4 f g) : rnk f < rnk g := by
  obtain ⟨-, b1', b2, b3⟩ := rnk_b hf h
  obtain ⟨k, hk, h3, h4⟩ := h2
  have e0 := h3 0
  have e1 := h3 1
  have e2 := h3 2
  unfold rnk
  have : k = 0 ∨ k = 1 ∨ k = 2 ∨ k = 3 := by omega
  rcases this with rfl | rfl | rfl | rfl
  · omega
  · have := e0 (by decide)
    omega
  · have := e0 (by decide)
    have := e1 (by decide)
    omega
  · have := e0 (by decide)
    have := e1 (by decide)
    have := e2 (by decide)
    omega
end Wyk
