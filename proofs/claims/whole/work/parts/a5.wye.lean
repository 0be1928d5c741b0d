/-! THE MODEL'S Ways: finds, findsBehind, findsNear -/
def IW (σ : Nat → Nat → Nat) (k : Nat) (W : Nat → Nat → Nat) : Prop := BW σ W ∧ RW7 σ k W ∧ PA σ W k (W 8)
/-- greater than another table, from lesson k on -/
def GB (n k : Nat) (t u : Nat → Nat) : Prop := ∃ j, k ≤ j ∧ j < n ∧ (∀ i, k ≤ i → i < j → t i = u i) ∧ u j < t j
/-- in how many of n lessons from k on two tables differ -/
def dn (t u : Nat → Nat) (n : Nat) : Nat → Nat := match n with
  | 0 => fun _ => 0
  | n + 1 => fun k => b1 (decide (t k ≠ u k)) + dn t u n (k + 1)
section Wye
variable {xs : List Int32} {d m n : Nat} {h0 T A : ab_H} {σ W N K : Nat → Nat → Nat} {μ : Nat → Nat} {ν : Nat → Value} {β : Value} {a b u k v y q set l i p nn : Nat} {t s tab : Nat → Nat} {y2 y3 y4 y5 y6 : Value}
set_option maxRecDepth 100000 in
theorem IW_fr (hL : (σ 1 6) ≤ 6) (hk : k ≤ (σ 1 6)) (h : FW k W N) (hI : IW σ k W) : IW σ k N := by
  obtain ⟨h1, h2, h3⟩ := hI
  exact ⟨BW_fr hL h h1, RW7_fr hL h h2, (PA_fr hL h k hk (N 8)).mpr (PA_cg (fun j hj => (h.2.2 j hj).symm) h3)⟩
set_option maxRecDepth 100000 in
theorem AT_u (h : AT k t s) (hv : t k = v) : AT (k + 1) t (u1 s k v) := fun j hj => by
  by_cases e : j = k
  · rw [e, u1_s, hv]
  · rw [u1_n e]; exact h j (by omega)
set_option maxRecDepth 100000 in
theorem w_sp (O : Ok σ) (H : Mo σ μ ν h0) (hk : k < (σ 1 6)) (hv : v < (σ 1 2) * (σ 1 5)) (hI : IW σ k W) (hF : FW k W K) : ∃ h : Bool, (∀ d, ev xs d 176 0 ([.ref h0.length, .int (nI k), .int (nI v)], [], hw h0 (σ 1 6) K β T) = some (.inl (some (.int (nI (b1 h)))), hw h0 (σ 1 6) K β T)) ∧ (h = false → ∀ t, PA σ W (σ 1 6) t → AT k t (W 8) → t k ≠ v) ∧ (h = true → ∃ N, ∃ b : Bool, (∀ d, ev xs (d + 5) 175 0 ([.ref h0.length, .int (nI k), .int (nI v), .retAddr 9, .retAddr 9, .retAddr 9], [], hw h0 (σ 1 6) K β T) = some (.inl (some (.int (nI (b1 b)))), hw h0 (σ 1 6) N β T)) ∧ FW k W N ∧ AT (k + 1) (N 8) (u1 (W 8) k v) ∧ (b = false → ∀ t, PA σ W (σ 1 6) t → AT k t (W 8) → t k ≠ v) ∧ (b = true → IW σ (k + 1) N ∧ ∀ x, k < x → x < (σ 1 6) → N 7 (6 * (k + 1) + x) ≠ 0)) := by
  obtain ⟨hD1, hD2, hH1, hH2, hS, hC, hT, hR, hL, hQ⟩ := Ok_b O
  obtain ⟨i1, i2, i3⟩ := IW_fr hL (by omega) hF hI
  obtain ⟨h, e1, g1, g2⟩ := w_st (xs := xs) (β := β) (T := T) O H hk hv i1 i2 i3
  have tr : (∀ t, PA σ K (σ 1 6) t → AT k t (K 8) → t k ≠ v) → ∀ t, PA σ W (σ 1 6) t → AT k t (W 8) → t k ≠ v := fun g t h1 h2 => g t ((PA_fr hL hF (σ 1 6) (Nat.le_refl _) t).mpr h1) (AT_t h2 (AT_s hF.2.2))
  refine ⟨h, e1, fun hh => tr (g1 hh), fun hh => ?_⟩
  obtain ⟨N, b, e2, f1, f2, f3, f4⟩ := g2 hh
  refine ⟨N, b, e2, FW_t hF f1, ?_, fun hb => tr (f3 hb), fun hb => ?_⟩
  · rw [f2]
    intro j hj
    by_cases e : j = k
    · rw [e, u1_s, u1_s]
    · rw [u1_n e, u1_n e]; exact hF.2.2 j (by omega)
  · obtain ⟨q1, q2, q3⟩ := f4 hb
    exact ⟨⟨BW_fr hL f1 i1, q2, q1⟩, q3⟩
set_option maxRecDepth 100000 in
theorem TX_nk (h : AT k t s) : ¬ TX k t s := by
  rintro ⟨j, hj, -, h2⟩
  have := h j hj
  omega
-- finds: the smallest table that goes on so
set_option maxRecDepth 100000 in
theorem m_178 (O : Ok σ) (H : Mo σ μ ν h0) : ∀ n k, k + n = (σ 1 6) → ∀ W, IW σ k W → ∃ N, ∃ b : Bool, ev xs (d + n + 6) 178 0 ([.ref h0.length, .int (nI k), .retAddr 9], [], hw h0 (σ 1 6) W β T) = some (.inl (some (.int (nI (b1 b)))), hw h0 (σ 1 6) N β T) ∧ FW k W N ∧ (b = false → ∀ t, PA σ W (σ 1 6) t → AT k t (W 8) → False) ∧ (b = true → PA σ W (σ 1 6) (N 8) ∧ ∀ t, PA σ W (σ 1 6) t → AT k t (W 8) → ¬ TX (σ 1 6) t (N 8)) := by
  obtain ⟨hD1, hD2, hH1, hH2, hS, hC, hT, hR, hL, hQ⟩ := Ok_b O
  have hV := vle O
  intro n
  induction n with
  | zero =>
    intro k hk W hI
    have hkL : k = (σ 1 6) := by omega
    subst hkL
    refine ⟨W, true, ?_, FW_r, fun z => (by cases z), fun _ => ⟨hI.2.2, fun t _ h => TX_nk h⟩⟩
    clear hI
    simp (disch := first | assumption | omega | exact st8_a (Nat.le_of_ble_eq_true rfl)) only [eb_178_0, eb_178_1, kl_a, kl_d, kl_f, kl_i, kl_l, kl_n, kl_r, xr_1, xr_10, xr_2, xr_27, xr_28, xr_3, xr_30, xr_31, xr_38, xr_4, xr_42, xr_5, af_0, af_1, xt_goto, xt_ib, xt_ic, xt_ic_ge, xt_ic_ne, xt_if_eq, xt_ir, xt_nop, wF_0, wF_1, wF_2, wF_3, wF_4, wF_5, wF_6, wF_7, wF_8, wF_9, wF_10, wF_11, wF_12, wF_13, wP_9, wP_10, wL_5, wC_5, wC_17, wD, hw_app, hw_len, wA_1, wA_2, wA_3, wA_4, wA_5, wA_6, wA_7, wA_8, wA_17, wW_1, wW_2, wW_3, wW_4, wW_5, wW_6, wW_7, wW_8, wW_17, mF_8 (Mo_hw H), xq_175_12_virtual wy_c, xq_176_12_virtual wy_c, xq_178_12_virtual wy_c, iN_add, iN_mul, iN_sub, iN_and, iN_or, iN_clr, iN_shl, iN_shr, tb_r1, b1_z, b1_or, b1_and, b1_or0, b1_or1, b1_0or, b1_t, b1_f, iN_lt, iN_inj, reduceIte, if_true, if_false, Nat.zero_add, Nat.add_zero, Bool.false_eq_true, Bool.true_eq_false, Nat.lt_irrefl, iN_az, not_true_eq_false, not_false_eq_true, Nat.reduceEqDiff, Nat.reduceLT, Nat.reduceAdd, Nat.reduceMul, Nat.reduceSub]
  | succ n ih =>
    intro k hk W hI
    have hkL : k < (σ 1 6) := by omega
    have key : ∀ v, v ≤ (σ 1 2) * (σ 1 5) → ∀ K, FW k W K → (∀ t, PA σ W (σ 1 6) t → AT k t (W 8) → v ≤ t k) → ∃ N, ∃ b : Bool, ev xs (d + (n + 1) + 6) 178 3 ([.ref h0.length, .int (nI k), .int (nI v)], [], hw h0 (σ 1 6) K β T) = some (.inl (some (.int (nI (b1 b)))), hw h0 (σ 1 6) N β T) ∧ FW k W N ∧ (b = false → ∀ t, PA σ W (σ 1 6) t → AT k t (W 8) → False) ∧ (b = true → PA σ W (σ 1 6) (N 8) ∧ ∀ t, PA σ W (σ 1 6) t → AT k t (W 8) → ¬ TX (σ 1 6) t (N 8)) := by
      refine lp ((σ 1 2) * (σ 1 5)) ?_ ?_
      · intro K hF hlo
        refine ⟨K, false, ?_, hF, fun _ t h1 h2 => ?_, fun z => (by cases z)⟩
        · have hK := (hF.1 0 (by decide) (by decide)) ▸ hI.1.1
          rw [eb_178_3]
          clear hI hF hlo ih
          simp (disch := first | assumption | omega | exact st8_a (Nat.le_of_ble_eq_true rfl)) only [hK, eb_178_12, kl_a, kl_d, kl_f, kl_i, kl_l, kl_n, kl_r, xr_1, xr_10, xr_2, xr_27, xr_28, xr_3, xr_30, xr_31, xr_38, xr_4, xr_42, xr_5, af_0, af_1, xt_goto, xt_ib, xt_ic, xt_ic_ge, xt_ic_ne, xt_if_eq, xt_ir, xt_nop, wF_0, wF_1, wF_2, wF_3, wF_4, wF_5, wF_6, wF_7, wF_8, wF_9, wF_10, wF_11, wF_12, wF_13, wP_9, wP_10, wL_5, wC_5, wC_17, wD, hw_app, hw_len, wA_1, wA_2, wA_3, wA_4, wA_5, wA_6, wA_7, wA_8, wA_17, wW_1, wW_2, wW_3, wW_4, wW_5, wW_6, wW_7, wW_8, wW_17, mF_8 (Mo_hw H), xq_175_12_virtual wy_c, xq_176_12_virtual wy_c, xq_178_12_virtual wy_c, iN_add, iN_mul, iN_sub, iN_and, iN_or, iN_clr, iN_shl, iN_shr, tb_r1, b1_z, b1_or, b1_and, b1_or0, b1_or1, b1_0or, b1_t, b1_f, iN_lt, iN_inj, reduceIte, if_true, if_false, Nat.zero_add, Nat.add_zero, Bool.false_eq_true, Bool.true_eq_false, Nat.lt_irrefl, iN_az, not_true_eq_false, not_false_eq_true, Nat.reduceEqDiff, Nat.reduceLT, Nat.reduceAdd, Nat.reduceMul, Nat.reduceSub]
        · have := hlo t h1 h2
          have := (h1 k hkL).1
          omega
      · intro v hv ihv K hF hlo
        have hK : K 0 0 = (σ 1 2) * (σ 1 5) := (hF.1 0 (by decide) (by decide)) ▸ hI.1.1
        obtain ⟨h, e1, g1, g2⟩ := w_sp (xs := xs) (β := β) (T := T) O H hkL hv hI hF
        have e1 := e1 (d + n + 6)
        have nxt : ∀ K2, FW k W K2 → (∀ t, PA σ W (σ 1 6) t → AT k t (W 8) → t k ≠ v) → _ := fun K2 hF2 hno => ihv K2 hF2 fun t h1 h2 => by
          have := hlo t h1 h2
          have := hno t h1 h2
          omega
        cases h
        · obtain ⟨N, b, e, q⟩ := nxt K hF (g1 rfl)
          refine ⟨N, b, ?_, q⟩
          rw [eb_178_3]
          clear hI hF hlo ih ihv nxt q g1 g2
          rw [show d + (n + 1) + 6 = d + n + 6 + 1 from rfl] at e ⊢
          simp (disch := first | assumption | omega | exact st8_a (Nat.le_of_ble_eq_true rfl)) only [hK, hv, e1, eb_178_4, eb_178_5, eb_178_11, kl_a, kl_d, kl_f, kl_i, kl_l, kl_n, kl_r, xr_1, xr_10, xr_2, xr_27, xr_28, xr_3, xr_30, xr_31, xr_38, xr_4, xr_42, xr_5, af_0, af_1, xt_goto, xt_ib, xt_ic, xt_ic_ge, xt_ic_ne, xt_if_eq, xt_ir, xt_nop, wF_0, wF_1, wF_2, wF_3, wF_4, wF_5, wF_6, wF_7, wF_8, wF_9, wF_10, wF_11, wF_12, wF_13, wP_9, wP_10, wL_5, wC_5, wC_17, wD, hw_app, hw_len, wA_1, wA_2, wA_3, wA_4, wA_5, wA_6, wA_7, wA_8, wA_17, wW_1, wW_2, wW_3, wW_4, wW_5, wW_6, wW_7, wW_8, wW_17, mF_8 (Mo_hw H), xq_175_12_virtual wy_c, xq_176_12_virtual wy_c, xq_178_12_virtual wy_c, iN_add, iN_mul, iN_sub, iN_and, iN_or, iN_clr, iN_shl, iN_shr, tb_r1, b1_z, b1_or, b1_and, b1_or0, b1_or1, b1_0or, b1_t, b1_f, iN_lt, iN_inj, reduceIte, if_true, if_false, Nat.zero_add, Nat.add_zero, Bool.false_eq_true, Bool.true_eq_false, Nat.lt_irrefl, iN_az, not_true_eq_false, not_false_eq_true, Nat.reduceEqDiff, Nat.reduceLT, Nat.reduceAdd, Nat.reduceMul, Nat.reduceSub]
          exact e
        · obtain ⟨N, b, e2, f1, f2, f3, f4⟩ := g2 rfl
          have e2 := e2 (d + n + 1)
          rw [show d + n + 1 + 5 = d + n + 6 by omega] at e2
          cases b
          · obtain ⟨N2, b, e, q⟩ := nxt N f1 (f3 rfl)
            refine ⟨N2, b, ?_, q⟩
            rw [eb_178_3]
            clear hI hF hlo ih ihv nxt q g1 g2 f1 f2 f3 f4
            rw [show d + (n + 1) + 6 = d + n + 6 + 1 from rfl] at e ⊢
            simp (disch := first | assumption | omega | exact st8_a (Nat.le_of_ble_eq_true rfl)) only [hK, hv, e1, e2, eb_178_4, eb_178_5, eb_178_6, eb_178_7, eb_178_11, kl_a, kl_d, kl_f, kl_i, kl_l, kl_n, kl_r, xr_1, xr_10, xr_2, xr_27, xr_28, xr_3, xr_30, xr_31, xr_38, xr_4, xr_42, xr_5, af_0, af_1, xt_goto, xt_ib, xt_ic, xt_ic_ge, xt_ic_ne, xt_if_eq, xt_ir, xt_nop, wF_0, wF_1, wF_2, wF_3, wF_4, wF_5, wF_6, wF_7, wF_8, wF_9, wF_10, wF_11, wF_12, wF_13, wP_9, wP_10, wL_5, wC_5, wC_17, wD, hw_app, hw_len, wA_1, wA_2, wA_3, wA_4, wA_5, wA_6, wA_7, wA_8, wA_17, wW_1, wW_2, wW_3, wW_4, wW_5, wW_6, wW_7, wW_8, wW_17, mF_8 (Mo_hw H), xq_175_12_virtual wy_c, xq_176_12_virtual wy_c, xq_178_12_virtual wy_c, iN_add, iN_mul, iN_sub, iN_and, iN_or, iN_clr, iN_shl, iN_shr, tb_r1, b1_z, b1_or, b1_and, b1_or0, b1_or1, b1_0or, b1_t, b1_f, iN_lt, iN_inj, reduceIte, if_true, if_false, Nat.zero_add, Nat.add_zero, Bool.false_eq_true, Bool.true_eq_false, Nat.lt_irrefl, iN_az, not_true_eq_false, not_false_eq_true, Nat.reduceEqDiff, Nat.reduceLT, Nat.reduceAdd, Nat.reduceMul, Nat.reduceSub]
            exact e
          · obtain ⟨j1, -⟩ := f4 rfl
            obtain ⟨N2, b, e3, r1, r2, r3⟩ := ih (k + 1) (by omega) N j1
            have r4 : FW k W N2 := FW_t f1 (FW_w r1 (by omega))
            have ato : ∀ t, AT k t (W 8) → t k = v → AT (k + 1) t (N 8) := fun t h1 h2 => AT_t (AT_u h1 h2) (AT_s f2)
            cases b
            · obtain ⟨N3, b, e, q⟩ := nxt N2 r4 fun t h1 h2 h3 => r2 rfl t ((PA_fr hL f1 (σ 1 6) (Nat.le_refl _) t).mpr h1) (ato t h2 h3)
              refine ⟨N3, b, ?_, q⟩
              rw [eb_178_3]
              clear hI hF hlo ih ihv nxt q g1 g2 f1 f2 f3 f4 r1 r2 r3 r4 ato j1
              rw [show d + (n + 1) + 6 = d + n + 6 + 1 from rfl] at e ⊢
              simp (disch := first | assumption | omega | exact st8_a (Nat.le_of_ble_eq_true rfl)) only [hK, hv, e1, e2, e3, eb_178_4, eb_178_5, eb_178_6, eb_178_7, eb_178_8, eb_178_9, eb_178_11, kl_a, kl_d, kl_f, kl_i, kl_l, kl_n, kl_r, xr_1, xr_10, xr_2, xr_27, xr_28, xr_3, xr_30, xr_31, xr_38, xr_4, xr_42, xr_5, af_0, af_1, xt_goto, xt_ib, xt_ic, xt_ic_ge, xt_ic_ne, xt_if_eq, xt_ir, xt_nop, wF_0, wF_1, wF_2, wF_3, wF_4, wF_5, wF_6, wF_7, wF_8, wF_9, wF_10, wF_11, wF_12, wF_13, wP_9, wP_10, wL_5, wC_5, wC_17, wD, hw_app, hw_len, wA_1, wA_2, wA_3, wA_4, wA_5, wA_6, wA_7, wA_8, wA_17, wW_1, wW_2, wW_3, wW_4, wW_5, wW_6, wW_7, wW_8, wW_17, mF_8 (Mo_hw H), xq_175_12_virtual wy_c, xq_176_12_virtual wy_c, xq_178_12_virtual wy_c, iN_add, iN_mul, iN_sub, iN_and, iN_or, iN_clr, iN_shl, iN_shr, tb_r1, b1_z, b1_or, b1_and, b1_or0, b1_or1, b1_0or, b1_t, b1_f, iN_lt, iN_inj, reduceIte, if_true, if_false, Nat.zero_add, Nat.add_zero, Bool.false_eq_true, Bool.true_eq_false, Nat.lt_irrefl, iN_az, not_true_eq_false, not_false_eq_true, Nat.reduceEqDiff, Nat.reduceLT, Nat.reduceAdd, Nat.reduceMul, Nat.reduceSub]
              exact e
            · obtain ⟨p1, p2⟩ := r3 rfl
              have p1 := (PA_fr hL f1 (σ 1 6) (Nat.le_refl _) _).mp p1
              refine ⟨N2, true, ?_, r4, fun z => (by cases z), fun _ => ⟨p1, fun t h1 h2 h3 => ?_⟩⟩
              · rw [eb_178_3]
                clear hI hF hlo ih ihv nxt g1 g2 f1 f2 f3 f4 r1 r2 r3 r4 ato p1 p2 j1
                rw [show d + (n + 1) + 6 = d + n + 6 + 1 from rfl]
                simp (disch := first | assumption | omega | exact st8_a (Nat.le_of_ble_eq_true rfl)) only [hK, hv, e1, e2, e3, eb_178_4, eb_178_5, eb_178_6, eb_178_7, eb_178_8, eb_178_9, eb_178_10, kl_a, kl_d, kl_f, kl_i, kl_l, kl_n, kl_r, xr_1, xr_10, xr_2, xr_27, xr_28, xr_3, xr_30, xr_31, xr_38, xr_4, xr_42, xr_5, af_0, af_1, xt_goto, xt_ib, xt_ic, xt_ic_ge, xt_ic_ne, xt_if_eq, xt_ir, xt_nop, wF_0, wF_1, wF_2, wF_3, wF_4, wF_5, wF_6, wF_7, wF_8, wF_9, wF_10, wF_11, wF_12, wF_13, wP_9, wP_10, wL_5, wC_5, wC_17, wD, hw_app, hw_len, wA_1, wA_2, wA_3, wA_4, wA_5, wA_6, wA_7, wA_8, wA_17, wW_1, wW_2, wW_3, wW_4, wW_5, wW_6, wW_7, wW_8, wW_17, mF_8 (Mo_hw H), xq_175_12_virtual wy_c, xq_176_12_virtual wy_c, xq_178_12_virtual wy_c, iN_add, iN_mul, iN_sub, iN_and, iN_or, iN_clr, iN_shl, iN_shr, tb_r1, b1_z, b1_or, b1_and, b1_or0, b1_or1, b1_0or, b1_t, b1_f, iN_lt, iN_inj, reduceIte, if_true, if_false, Nat.zero_add, Nat.add_zero, Bool.false_eq_true, Bool.true_eq_false, Nat.lt_irrefl, iN_az, not_true_eq_false, not_false_eq_true, Nat.reduceEqDiff, Nat.reduceLT, Nat.reduceAdd, Nat.reduceMul, Nat.reduceSub]
              · have n2v : N2 8 k = v := by rw [r1.2.2 k (Nat.lt_succ_self k), f2 k (Nat.lt_succ_self k), u1_s]
                by_cases e : t k = v
                · exact p2 t ((PA_fr hL f1 (σ 1 6) (Nat.le_refl _) t).mpr h1) (ato t h2 e) h3
                · obtain ⟨j, hj, q1, q2⟩ := h3
                  have := hlo t h1 h2
                  by_cases ej : j = k
                  · rw [ej, n2v] at q2
                    omega
                  · by_cases ej2 : j < k
                    · have := h2 j ej2
                      rw [r4.2.2 j ej2] at q2
                      omega
                    · have := q1 k (by omega)
                      rw [n2v] at this
                      exact e this
    obtain ⟨N, b, e, q⟩ := key 0 (Nat.zero_le _) W FW_r fun _ _ _ => Nat.zero_le _
    refine ⟨N, b, ?_, q⟩
    have hne : ¬ k = (σ 1 6) := by omega
    rw [eb_178_0]
    clear hI key q ih
    simp (disch := first | assumption | omega | exact st8_a (Nat.le_of_ble_eq_true rfl)) only [hne, eb_178_2, kl_a, kl_d, kl_f, kl_i, kl_l, kl_n, kl_r, xr_1, xr_10, xr_2, xr_27, xr_28, xr_3, xr_30, xr_31, xr_38, xr_4, xr_42, xr_5, af_0, af_1, xt_goto, xt_ib, xt_ic, xt_ic_ge, xt_ic_ne, xt_if_eq, xt_ir, xt_nop, wF_0, wF_1, wF_2, wF_3, wF_4, wF_5, wF_6, wF_7, wF_8, wF_9, wF_10, wF_11, wF_12, wF_13, wP_9, wP_10, wL_5, wC_5, wC_17, wD, hw_app, hw_len, wA_1, wA_2, wA_3, wA_4, wA_5, wA_6, wA_7, wA_8, wA_17, wW_1, wW_2, wW_3, wW_4, wW_5, wW_6, wW_7, wW_8, wW_17, mF_8 (Mo_hw H), xq_175_12_virtual wy_c, xq_176_12_virtual wy_c, xq_178_12_virtual wy_c, iN_add, iN_mul, iN_sub, iN_and, iN_or, iN_clr, iN_shl, iN_shr, tb_r1, b1_z, b1_or, b1_and, b1_or0, b1_or1, b1_0or, b1_t, b1_f, iN_lt, iN_inj, reduceIte, if_true, if_false, Nat.zero_add, Nat.add_zero, Bool.false_eq_true, Bool.true_eq_false, Nat.lt_irrefl, iN_az, not_true_eq_false, not_false_eq_true, Nat.reduceEqDiff, Nat.reduceLT, Nat.reduceAdd, Nat.reduceMul, Nat.reduceSub]
    exact e
set_option maxRecDepth 100000 in
theorem m_177 (O : Ok σ) (H : Mo σ μ ν h0) (hI : IW σ 0 W) : ∃ N, ∃ b : Bool, ev xs (d + 13) 177 0 ([.ref h0.length], [], hw h0 (σ 1 6) W β T) = some (.inl (some (.int (nI (b1 b)))), hw h0 (σ 1 6) N β T) ∧ FW 0 W N ∧ (b = false → ∀ t, ¬ PA σ W (σ 1 6) t) ∧ (b = true → PA σ W (σ 1 6) (N 8) ∧ ∀ t, PA σ W (σ 1 6) t → ¬ TX (σ 1 6) t (N 8)) := by
  obtain ⟨hD1, hD2, hH1, hH2, hS, hC, hT, hR, hL, hQ⟩ := Ok_b O
  obtain ⟨N, b, e, f, g1, g2⟩ := m_178 (xs := xs) (d := d) (β := β) (T := T) O H (σ 1 6) 0 (Nat.zero_add _) W hI
  have e := ev_mono (d' := d + 12) e (by omega)
  refine ⟨N, b, ?_, f, fun hb t ht => g1 hb t ht fun j hj => absurd hj (Nat.not_lt_zero j), fun hb => ⟨(g2 hb).1, fun t ht => (g2 hb).2 t ht fun j hj => absurd hj (Nat.not_lt_zero j)⟩⟩
  clear hI f g1 g2
  simp (disch := first | assumption | omega | exact st8_a (Nat.le_of_ble_eq_true rfl)) only [e, eb_177_0, eb_177_1, xr_1, xr_10, xr_2, xr_3, xr_4, xr_5, af_0, af_1, xt_ib, xt_ic, xt_ir, wF_0, wF_1, wF_2, wF_3, wF_4, wF_5, wF_6, wF_7, wF_8, wF_9, wF_10, wF_11, wF_12, wF_13, wP_9, wP_10, wL_5, wC_5, wC_17, wD, hw_app, hw_len, wA_1, wA_2, wA_3, wA_4, wA_5, wA_6, wA_7, wA_8, wA_17, wW_1, wW_2, wW_3, wW_4, wW_5, wW_6, wW_7, wW_8, wW_17, xq_178_12_virtual wy_c, iN_add, iN_mul, iN_sub, iN_and, iN_or, iN_clr, iN_shl, iN_shr, tb_r1, b1_z, b1_or, b1_and, b1_or0, b1_or1, b1_0or, b1_t, b1_f, iN_lt, iN_inj, reduceIte, if_true, if_false, Nat.zero_add, Nat.add_zero, Bool.false_eq_true, Bool.true_eq_false, Nat.lt_irrefl, iN_az, not_true_eq_false, not_false_eq_true, Nat.reduceEqDiff, Nat.reduceLT, Nat.reduceAdd, Nat.reduceMul, Nat.reduceSub]
set_option maxRecDepth 100000 in
theorem wA_p (hq : h0[p]? = some (oI (ar nn tab))) (hk : k < nn) (hn : nn ≤ 6) {m : Nat} {hs : List (Nat × Nat)} {t : ab_T} {r : List ab_I} {q : Nat × Nat × Nat} {L st : List Value} : rt xs d m hs t ((.iaload, q) :: r) (L, .int (nI k) :: .ref p :: st, hw h0 n W β T) = rt xs d m hs t r (L, .int (nI (tab k)) :: st, hw h0 n W β T) := q_ia (hw_l hq) hk (by omega)
end Wye
