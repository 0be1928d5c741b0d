/-! THE MODEL'S Ways: findsBehind, findsNear -/
section Wyf
variable {xs : List Int32} {d m n : Nat} {h0 T A : ab_H} {σ W N K : Nat → Nat → Nat} {μ : Nat → Nat} {ν : Nat → Value} {β : Value} {a b u k v y q set l i p nn : Nat} {t s r tab : Nat → Nat} {y2 y3 y4 y5 y6 : Value}
set_option maxRecDepth 100000 in
theorem mn_st (h2 : AT k t s) (hs : AT k r s) (hr : r k = v) (hlo : v ≤ t k) (h : t k = v → ¬ TX n t r) : ¬ TX n t r := by
  intro h3
  by_cases e : t k = v
  · exact h e h3
  · obtain ⟨j, hj, q1, q2⟩ := h3
    by_cases ej : j = k
    · rw [ej, hr] at q2
      omega
    · by_cases ej2 : j < k
      · have := h2 j ej2
        rw [hs j ej2] at q2
        omega
      · have := q1 k (by omega)
        rw [hr] at this
        exact e this
set_option maxRecDepth 100000 in
theorem GB_s (h : t k = s k) : GB n k t s ↔ GB n (k + 1) t s := by
  constructor
  · rintro ⟨j, h1, h2, h3, h4⟩
    have hjk : j ≠ k := fun e => by rw [e, h] at h4; omega
    exact ⟨j, by omega, h2, fun i hi hi2 => h3 i (by omega) hi2, h4⟩
  · rintro ⟨j, h1, h2, h3, h4⟩
    refine ⟨j, by omega, h2, fun i hi hi2 => ?_, h4⟩
    by_cases e : i = k
    · rw [e, h]
    · exact h3 i (by omega) hi2
set_option maxRecDepth 100000 in
theorem GB_g (hk : k < n) (h : s k < t k) : GB n k t s := ⟨k, Nat.le_refl _, hk, fun i h1 h2 => by omega, h⟩
set_option maxRecDepth 100000 in
theorem GB_le (h : GB n k t s) : s k ≤ t k := by
  obtain ⟨j, h1, h2, h3, h4⟩ := h
  by_cases e : j = k
  · rw [e] at h4; omega
  · rw [h3 k (Nat.le_refl _) (by omega)]
    exact Nat.le_refl _
-- what is found behind tab
set_option maxRecDepth 100000 in
theorem m_179 (O : Ok σ) (H : Mo σ μ ν h0) (hq : h0[p]? = some (oI (ar (σ 1 6) tab))) (htab : ∀ l, l < (σ 1 6) → tab l < (σ 1 2) * (σ 1 5)) : ∀ n k, k + n = (σ 1 6) → ∀ W, IW σ k W → ∃ N, ∃ b : Bool, ev xs (d + n + 6) 179 0 ([.ref h0.length, .int (nI k), .ref p, .retAddr 9], [], hw h0 (σ 1 6) W β T) = some (.inl (some (.int (nI (b1 b)))), hw h0 (σ 1 6) N β T) ∧ FW k W N ∧ (b = false → ∀ t, PA σ W (σ 1 6) t → AT k t (W 8) → ¬ GB (σ 1 6) k t tab) ∧ (b = true → PA σ W (σ 1 6) (N 8) ∧ GB (σ 1 6) k (N 8) tab ∧ ∀ t, PA σ W (σ 1 6) t → AT k t (W 8) → GB (σ 1 6) k t tab → ¬ TX (σ 1 6) t (N 8)) := by
  obtain ⟨hD1, hD2, hH1, hH2, hS, hC, hT, hR, hL, hQ⟩ := Ok_b O
  have hV := vle O
  intro n
  induction n with
  | zero =>
    intro k hk W hI
    have hkL : k = (σ 1 6) := by omega
    subst hkL
    refine ⟨W, false, ?_, FW_r, fun _ t _ _ => fun ⟨j, h1, h2, _⟩ => by omega, fun z => (by cases z)⟩
    clear hI
    simp (disch := first | assumption | omega | exact st8_a (Nat.le_of_ble_eq_true rfl)) only [eb_179_0, eb_179_1, kl_a, kl_d, kl_f, kl_i, kl_l, kl_n, kl_r, xr_1, xr_10, xr_16, xr_17, xr_18, xr_19, xr_2, xr_20, xr_27, xr_28, xr_3, xr_32, xr_37, xr_38, xr_4, xr_43, xr_5, af_0, af_1, xt_goto, xt_ib, xt_ic, xt_ic_ge, xt_ic_ne, xt_if_eq, xt_ir, xt_nop, wF_0, wF_1, wF_2, wF_3, wF_4, wF_5, wF_6, wF_7, wF_8, wF_9, wF_10, wF_11, wF_12, wF_13, wP_9, wP_10, wL_5, wC_5, wC_17, wD, hw_app, hw_len, wA_1, wA_2, wA_3, wA_4, wA_5, wA_6, wA_7, wA_8, wA_17, wW_1, wW_2, wW_3, wW_4, wW_5, wW_6, wW_7, wW_8, wW_17, mF_8 (Mo_hw H), mA_63 (Mo_hw H), mA_64 (Mo_hw H), mA_65 (Mo_hw H), mA_66 (Mo_hw H), mA_67 (Mo_hw H), mA_68 (Mo_hw H), mA_69 (Mo_hw H), mA_70 (Mo_hw H), mA_71 (Mo_hw H), xq_175_12_virtual wy_c, xq_176_12_virtual wy_c, xq_178_12_virtual wy_c, xq_179_12_virtual wy_c, iN_add, iN_mul, iN_sub, iN_and, iN_or, iN_clr, iN_shl, iN_shr, tb_r1, b1_z, b1_or, b1_and, b1_or0, b1_or1, b1_0or, b1_t, b1_f, iN_lt, iN_inj, reduceIte, if_true, if_false, Nat.zero_add, Nat.add_zero, Bool.false_eq_true, Bool.true_eq_false, Nat.lt_irrefl, iN_az, not_true_eq_false, not_false_eq_true, Nat.reduceEqDiff, Nat.reduceLT, Nat.reduceAdd, Nat.reduceMul, Nat.reduceSub]
  | succ n ih =>
    intro k hk W hI
    have hkL : k < (σ 1 6) := by omega
    have htk := htab k hkL
    have key : ∀ v, v ≤ (σ 1 2) * (σ 1 5) → tab k ≤ v → ∀ K, FW k W K → (∀ t, PA σ W (σ 1 6) t → AT k t (W 8) → GB (σ 1 6) k t tab → v ≤ t k) → ∃ N, ∃ b : Bool, ev xs (d + (n + 1) + 6) 179 3 ([.ref h0.length, .int (nI k), .ref p, .int (nI v)], [], hw h0 (σ 1 6) K β T) = some (.inl (some (.int (nI (b1 b)))), hw h0 (σ 1 6) N β T) ∧ FW k W N ∧ (b = false → ∀ t, PA σ W (σ 1 6) t → AT k t (W 8) → ¬ GB (σ 1 6) k t tab) ∧ (b = true → PA σ W (σ 1 6) (N 8) ∧ GB (σ 1 6) k (N 8) tab ∧ ∀ t, PA σ W (σ 1 6) t → AT k t (W 8) → GB (σ 1 6) k t tab → ¬ TX (σ 1 6) t (N 8)) := by
      refine lp ((σ 1 2) * (σ 1 5)) ?_ ?_
      · intro _ K hF hlo
        refine ⟨K, false, ?_, hF, fun _ t h1 h2 h3 => ?_, fun z => (by cases z)⟩
        · have hK := (hF.1 0 (by decide) (by decide)) ▸ hI.1.1
          rw [eb_179_3]
          clear hI hF hlo ih
          simp (disch := first | assumption | omega | exact st8_a (Nat.le_of_ble_eq_true rfl)) only [hK, eb_179_16, kl_a, kl_d, kl_f, kl_i, kl_l, kl_n, kl_r, xr_1, xr_10, xr_16, xr_17, xr_18, xr_19, xr_2, xr_20, xr_27, xr_28, xr_3, xr_32, xr_37, xr_38, xr_4, xr_43, xr_5, af_0, af_1, xt_goto, xt_ib, xt_ic, xt_ic_ge, xt_ic_ne, xt_if_eq, xt_ir, xt_nop, wF_0, wF_1, wF_2, wF_3, wF_4, wF_5, wF_6, wF_7, wF_8, wF_9, wF_10, wF_11, wF_12, wF_13, wP_9, wP_10, wL_5, wC_5, wC_17, wD, hw_app, hw_len, wA_1, wA_2, wA_3, wA_4, wA_5, wA_6, wA_7, wA_8, wA_17, wW_1, wW_2, wW_3, wW_4, wW_5, wW_6, wW_7, wW_8, wW_17, mF_8 (Mo_hw H), mA_63 (Mo_hw H), mA_64 (Mo_hw H), mA_65 (Mo_hw H), mA_66 (Mo_hw H), mA_67 (Mo_hw H), mA_68 (Mo_hw H), mA_69 (Mo_hw H), mA_70 (Mo_hw H), mA_71 (Mo_hw H), xq_175_12_virtual wy_c, xq_176_12_virtual wy_c, xq_178_12_virtual wy_c, xq_179_12_virtual wy_c, iN_add, iN_mul, iN_sub, iN_and, iN_or, iN_clr, iN_shl, iN_shr, tb_r1, b1_z, b1_or, b1_and, b1_or0, b1_or1, b1_0or, b1_t, b1_f, iN_lt, iN_inj, reduceIte, if_true, if_false, Nat.zero_add, Nat.add_zero, Bool.false_eq_true, Bool.true_eq_false, Nat.lt_irrefl, iN_az, not_true_eq_false, not_false_eq_true, Nat.reduceEqDiff, Nat.reduceLT, Nat.reduceAdd, Nat.reduceMul, Nat.reduceSub]
        · have := hlo t h1 h2 h3
          have := (h1 k hkL).1
          omega
      · intro v hv ihv hvt K hF hlo
        have hK : K 0 0 = (σ 1 2) * (σ 1 5) := (hF.1 0 (by decide) (by decide)) ▸ hI.1.1
        obtain ⟨h, e1, g1, g2⟩ := w_sp (xs := xs) (β := β) (T := T) O H hkL hv hI hF
        have e1 := e1 (d + n + 6)
        have nxt : ∀ K2, FW k W K2 → (∀ t, PA σ W (σ 1 6) t → AT k t (W 8) → GB (σ 1 6) k t tab → t k ≠ v) → _ := fun K2 hF2 hno => ihv (by omega) K2 hF2 fun t h1 h2 h3 => by
          have := hlo t h1 h2 h3
          have := hno t h1 h2 h3
          omega
        cases h
        · obtain ⟨N, b, e, q⟩ := nxt K hF fun t h1 h2 _ => g1 rfl t h1 h2
          refine ⟨N, b, ?_, q⟩
          rw [eb_179_3]
          clear hI hF hlo ih ihv nxt q g1 g2 htab
          rw [show d + (n + 1) + 6 = d + n + 6 + 1 from rfl] at e ⊢
          simp (disch := first | assumption | omega | exact st8_a (Nat.le_of_ble_eq_true rfl)) only [hK, hv, e1, eb_179_4, eb_179_5, eb_179_15, kl_a, kl_d, kl_f, kl_i, kl_l, kl_n, kl_r, xr_1, xr_10, xr_16, xr_17, xr_18, xr_19, xr_2, xr_20, xr_27, xr_28, xr_3, xr_32, xr_37, xr_38, xr_4, xr_43, xr_5, af_0, af_1, xt_goto, xt_ib, xt_ic, xt_ic_ge, xt_ic_ne, xt_if_eq, xt_ir, xt_nop, wF_0, wF_1, wF_2, wF_3, wF_4, wF_5, wF_6, wF_7, wF_8, wF_9, wF_10, wF_11, wF_12, wF_13, wP_9, wP_10, wL_5, wC_5, wC_17, wD, hw_app, hw_len, wA_1, wA_2, wA_3, wA_4, wA_5, wA_6, wA_7, wA_8, wA_17, wW_1, wW_2, wW_3, wW_4, wW_5, wW_6, wW_7, wW_8, wW_17, mF_8 (Mo_hw H), mA_63 (Mo_hw H), mA_64 (Mo_hw H), mA_65 (Mo_hw H), mA_66 (Mo_hw H), mA_67 (Mo_hw H), mA_68 (Mo_hw H), mA_69 (Mo_hw H), mA_70 (Mo_hw H), mA_71 (Mo_hw H), xq_175_12_virtual wy_c, xq_176_12_virtual wy_c, xq_178_12_virtual wy_c, xq_179_12_virtual wy_c, iN_add, iN_mul, iN_sub, iN_and, iN_or, iN_clr, iN_shl, iN_shr, tb_r1, b1_z, b1_or, b1_and, b1_or0, b1_or1, b1_0or, b1_t, b1_f, iN_lt, iN_inj, reduceIte, if_true, if_false, Nat.zero_add, Nat.add_zero, Bool.false_eq_true, Bool.true_eq_false, Nat.lt_irrefl, iN_az, not_true_eq_false, not_false_eq_true, Nat.reduceEqDiff, Nat.reduceLT, Nat.reduceAdd, Nat.reduceMul, Nat.reduceSub]
          exact e
        · obtain ⟨N, b, e2, f1, f2, f3, f4⟩ := g2 rfl
          have e2 := e2 (d + n + 1)
          rw [show d + n + 1 + 5 = d + n + 6 by omega] at e2
          cases b
          · obtain ⟨N2, b, e, q⟩ := nxt N f1 fun t h1 h2 _ => f3 rfl t h1 h2
            refine ⟨N2, b, ?_, q⟩
            rw [eb_179_3]
            clear hI hF hlo ih ihv nxt q g1 g2 f1 f2 f3 f4 htab
            rw [show d + (n + 1) + 6 = d + n + 6 + 1 from rfl] at e ⊢
            simp (disch := first | assumption | omega | exact st8_a (Nat.le_of_ble_eq_true rfl)) only [hK, hv, e1, e2, eb_179_4, eb_179_5, eb_179_6, eb_179_7, eb_179_15, kl_a, kl_d, kl_f, kl_i, kl_l, kl_n, kl_r, xr_1, xr_10, xr_16, xr_17, xr_18, xr_19, xr_2, xr_20, xr_27, xr_28, xr_3, xr_32, xr_37, xr_38, xr_4, xr_43, xr_5, af_0, af_1, xt_goto, xt_ib, xt_ic, xt_ic_ge, xt_ic_ne, xt_if_eq, xt_ir, xt_nop, wF_0, wF_1, wF_2, wF_3, wF_4, wF_5, wF_6, wF_7, wF_8, wF_9, wF_10, wF_11, wF_12, wF_13, wP_9, wP_10, wL_5, wC_5, wC_17, wD, hw_app, hw_len, wA_1, wA_2, wA_3, wA_4, wA_5, wA_6, wA_7, wA_8, wA_17, wW_1, wW_2, wW_3, wW_4, wW_5, wW_6, wW_7, wW_8, wW_17, mF_8 (Mo_hw H), mA_63 (Mo_hw H), mA_64 (Mo_hw H), mA_65 (Mo_hw H), mA_66 (Mo_hw H), mA_67 (Mo_hw H), mA_68 (Mo_hw H), mA_69 (Mo_hw H), mA_70 (Mo_hw H), mA_71 (Mo_hw H), xq_175_12_virtual wy_c, xq_176_12_virtual wy_c, xq_178_12_virtual wy_c, xq_179_12_virtual wy_c, iN_add, iN_mul, iN_sub, iN_and, iN_or, iN_clr, iN_shl, iN_shr, tb_r1, b1_z, b1_or, b1_and, b1_or0, b1_or1, b1_0or, b1_t, b1_f, iN_lt, iN_inj, reduceIte, if_true, if_false, Nat.zero_add, Nat.add_zero, Bool.false_eq_true, Bool.true_eq_false, Nat.lt_irrefl, iN_az, not_true_eq_false, not_false_eq_true, Nat.reduceEqDiff, Nat.reduceLT, Nat.reduceAdd, Nat.reduceMul, Nat.reduceSub]
            exact e
          · obtain ⟨j1, -⟩ := f4 rfl
            have ato : ∀ t, AT k t (W 8) → t k = v → AT (k + 1) t (N 8) := fun t h1 h2 => AT_t (AT_u h1 h2) (AT_s f2)
            -- the one search or the other
            have sub : ∃ N2, ∃ b : Bool, ev xs (d + (n + 1) + 6) 179 8 ([.ref h0.length, .int (nI k), .ref p, .int (nI v)], [], hw h0 (σ 1 6) N β T) = (if b = true then ev xs (d + (n + 1) + 6) 179 14 ([.ref h0.length, .int (nI k), .ref p, .int (nI v)], [], hw h0 (σ 1 6) N2 β T) else ev xs (d + (n + 1) + 6) 179 15 ([.ref h0.length, .int (nI k), .ref p, .int (nI v)], [], hw h0 (σ 1 6) N2 β T)) ∧ FW (k + 1) N N2 ∧ (b = false → ∀ t, PA σ W (σ 1 6) t → AT k t (W 8) → GB (σ 1 6) k t tab → t k ≠ v) ∧ (b = true → PA σ W (σ 1 6) (N2 8) ∧ GB (σ 1 6) k (N2 8) tab ∧ ∀ t, PA σ W (σ 1 6) t → AT (k + 1) t (N 8) → GB (σ 1 6) k t tab → ¬ TX (σ 1 6) t (N2 8)) := by
              have n8v : ∀ N2, FW (k + 1) N N2 → N2 8 k = v := fun N2 r1 => by rw [r1.2.2 k (Nat.lt_succ_self k), f2 k (Nat.lt_succ_self k), u1_s]
              by_cases hvk : v = tab k
              · obtain ⟨N2, b, e3, r1, r2, r3⟩ := ih (k + 1) (by omega) N j1
                refine ⟨N2, b, ?_, r1, fun hb t h1 h2 h3 h4 => ?_, fun hb => ?_⟩
                · clear hI hF hlo ih ihv nxt g1 g2 f1 f2 f3 f4 r1 r2 r3 htab n8v ato j1
                  rw [show d + (n + 1) + 6 = d + n + 6 + 1 from rfl]
                  have hvk : (v = tab k) = True := eq_true hvk
                  cases b
                  · simp (disch := first | assumption | omega | exact st8_a (Nat.le_of_ble_eq_true rfl)) only [hkL, wA_p hq, hvk, e3, eb_179_8, eb_179_9, eb_179_10, kl_a, kl_d, kl_f, kl_i, kl_l, kl_n, kl_r, xr_1, xr_10, xr_16, xr_17, xr_18, xr_19, xr_2, xr_20, xr_27, xr_28, xr_3, xr_32, xr_37, xr_38, xr_4, xr_43, xr_5, af_0, af_1, xt_goto, xt_ib, xt_ic, xt_ic_ge, xt_ic_ne, xt_if_eq, xt_ir, xt_nop, wF_0, wF_1, wF_2, wF_3, wF_4, wF_5, wF_6, wF_7, wF_8, wF_9, wF_10, wF_11, wF_12, wF_13, wP_9, wP_10, wL_5, wC_5, wC_17, wD, hw_app, hw_len, wA_1, wA_2, wA_3, wA_4, wA_5, wA_6, wA_7, wA_8, wA_17, wW_1, wW_2, wW_3, wW_4, wW_5, wW_6, wW_7, wW_8, wW_17, mF_8 (Mo_hw H), mA_63 (Mo_hw H), mA_64 (Mo_hw H), mA_65 (Mo_hw H), mA_66 (Mo_hw H), mA_67 (Mo_hw H), mA_68 (Mo_hw H), mA_69 (Mo_hw H), mA_70 (Mo_hw H), mA_71 (Mo_hw H), xq_175_12_virtual wy_c, xq_176_12_virtual wy_c, xq_178_12_virtual wy_c, xq_179_12_virtual wy_c, iN_add, iN_mul, iN_sub, iN_and, iN_or, iN_clr, iN_shl, iN_shr, tb_r1, b1_z, b1_or, b1_and, b1_or0, b1_or1, b1_0or, b1_t, b1_f, iN_lt, iN_inj, reduceIte, if_true, if_false, Nat.zero_add, Nat.add_zero, Bool.false_eq_true, Bool.true_eq_false, Nat.lt_irrefl, iN_az, not_true_eq_false, not_false_eq_true, Nat.reduceEqDiff, Nat.reduceLT, Nat.reduceAdd, Nat.reduceMul, Nat.reduceSub]
                  · simp (disch := first | assumption | omega | exact st8_a (Nat.le_of_ble_eq_true rfl)) only [hkL, wA_p hq, hvk, e3, eb_179_8, eb_179_9, eb_179_10, eb_179_11, eb_179_13, kl_a, kl_d, kl_f, kl_i, kl_l, kl_n, kl_r, xr_1, xr_10, xr_16, xr_17, xr_18, xr_19, xr_2, xr_20, xr_27, xr_28, xr_3, xr_32, xr_37, xr_38, xr_4, xr_43, xr_5, af_0, af_1, xt_goto, xt_ib, xt_ic, xt_ic_ge, xt_ic_ne, xt_if_eq, xt_ir, xt_nop, wF_0, wF_1, wF_2, wF_3, wF_4, wF_5, wF_6, wF_7, wF_8, wF_9, wF_10, wF_11, wF_12, wF_13, wP_9, wP_10, wL_5, wC_5, wC_17, wD, hw_app, hw_len, wA_1, wA_2, wA_3, wA_4, wA_5, wA_6, wA_7, wA_8, wA_17, wW_1, wW_2, wW_3, wW_4, wW_5, wW_6, wW_7, wW_8, wW_17, mF_8 (Mo_hw H), mA_63 (Mo_hw H), mA_64 (Mo_hw H), mA_65 (Mo_hw H), mA_66 (Mo_hw H), mA_67 (Mo_hw H), mA_68 (Mo_hw H), mA_69 (Mo_hw H), mA_70 (Mo_hw H), mA_71 (Mo_hw H), xq_175_12_virtual wy_c, xq_176_12_virtual wy_c, xq_178_12_virtual wy_c, xq_179_12_virtual wy_c, iN_add, iN_mul, iN_sub, iN_and, iN_or, iN_clr, iN_shl, iN_shr, tb_r1, b1_z, b1_or, b1_and, b1_or0, b1_or1, b1_0or, b1_t, b1_f, iN_lt, iN_inj, reduceIte, if_true, if_false, Nat.zero_add, Nat.add_zero, Bool.false_eq_true, Bool.true_eq_false, Nat.lt_irrefl, iN_az, not_true_eq_false, not_false_eq_true, Nat.reduceEqDiff, Nat.reduceLT, Nat.reduceAdd, Nat.reduceMul, Nat.reduceSub]
                · exact r2 hb t ((PA_fr hL f1 (σ 1 6) (Nat.le_refl _) t).mpr h1) (ato t h2 h4) ((GB_s (h4.trans hvk)).mp h3)
                · obtain ⟨p1, p2, p3⟩ := r3 hb
                  refine ⟨(PA_fr hL f1 (σ 1 6) (Nat.le_refl _) _).mp p1, (GB_s ((n8v N2 r1).trans hvk)).mpr p2, fun t h1 h2 h3 => ?_⟩
                  have htv : t k = v := by rw [h2 k (Nat.lt_succ_self k), f2 k (Nat.lt_succ_self k), u1_s]
                  exact p3 t ((PA_fr hL f1 (σ 1 6) (Nat.le_refl _) t).mpr h1) h2 ((GB_s (htv.trans hvk)).mp h3)
              · obtain ⟨N2, b, e3, r1, r2, r3⟩ := m_178 (xs := xs) (d := d) (β := β) (T := T) O H n (k + 1) (by omega) N j1
                refine ⟨N2, b, ?_, r1, fun hb t h1 h2 h3 h4 => ?_, fun hb => ?_⟩
                · clear hI hF hlo ih ihv nxt g1 g2 f1 f2 f3 f4 r1 r2 r3 htab n8v ato j1
                  rw [show d + (n + 1) + 6 = d + n + 6 + 1 from rfl]
                  cases b
                  · simp (disch := first | assumption | omega | exact st8_a (Nat.le_of_ble_eq_true rfl)) only [hkL, wA_p hq, hvk, e3, eb_179_8, eb_179_12, eb_179_13, kl_a, kl_d, kl_f, kl_i, kl_l, kl_n, kl_r, xr_1, xr_10, xr_16, xr_17, xr_18, xr_19, xr_2, xr_20, xr_27, xr_28, xr_3, xr_32, xr_37, xr_38, xr_4, xr_43, xr_5, af_0, af_1, xt_goto, xt_ib, xt_ic, xt_ic_ge, xt_ic_ne, xt_if_eq, xt_ir, xt_nop, wF_0, wF_1, wF_2, wF_3, wF_4, wF_5, wF_6, wF_7, wF_8, wF_9, wF_10, wF_11, wF_12, wF_13, wP_9, wP_10, wL_5, wC_5, wC_17, wD, hw_app, hw_len, wA_1, wA_2, wA_3, wA_4, wA_5, wA_6, wA_7, wA_8, wA_17, wW_1, wW_2, wW_3, wW_4, wW_5, wW_6, wW_7, wW_8, wW_17, mF_8 (Mo_hw H), mA_63 (Mo_hw H), mA_64 (Mo_hw H), mA_65 (Mo_hw H), mA_66 (Mo_hw H), mA_67 (Mo_hw H), mA_68 (Mo_hw H), mA_69 (Mo_hw H), mA_70 (Mo_hw H), mA_71 (Mo_hw H), xq_175_12_virtual wy_c, xq_176_12_virtual wy_c, xq_178_12_virtual wy_c, xq_179_12_virtual wy_c, iN_add, iN_mul, iN_sub, iN_and, iN_or, iN_clr, iN_shl, iN_shr, tb_r1, b1_z, b1_or, b1_and, b1_or0, b1_or1, b1_0or, b1_t, b1_f, iN_lt, iN_inj, reduceIte, if_true, if_false, Nat.zero_add, Nat.add_zero, Bool.false_eq_true, Bool.true_eq_false, Nat.lt_irrefl, iN_az, not_true_eq_false, not_false_eq_true, Nat.reduceEqDiff, Nat.reduceLT, Nat.reduceAdd, Nat.reduceMul, Nat.reduceSub]
                  · simp (disch := first | assumption | omega | exact st8_a (Nat.le_of_ble_eq_true rfl)) only [hkL, wA_p hq, hvk, e3, eb_179_8, eb_179_12, eb_179_13, kl_a, kl_d, kl_f, kl_i, kl_l, kl_n, kl_r, xr_1, xr_10, xr_16, xr_17, xr_18, xr_19, xr_2, xr_20, xr_27, xr_28, xr_3, xr_32, xr_37, xr_38, xr_4, xr_43, xr_5, af_0, af_1, xt_goto, xt_ib, xt_ic, xt_ic_ge, xt_ic_ne, xt_if_eq, xt_ir, xt_nop, wF_0, wF_1, wF_2, wF_3, wF_4, wF_5, wF_6, wF_7, wF_8, wF_9, wF_10, wF_11, wF_12, wF_13, wP_9, wP_10, wL_5, wC_5, wC_17, wD, hw_app, hw_len, wA_1, wA_2, wA_3, wA_4, wA_5, wA_6, wA_7, wA_8, wA_17, wW_1, wW_2, wW_3, wW_4, wW_5, wW_6, wW_7, wW_8, wW_17, mF_8 (Mo_hw H), mA_63 (Mo_hw H), mA_64 (Mo_hw H), mA_65 (Mo_hw H), mA_66 (Mo_hw H), mA_67 (Mo_hw H), mA_68 (Mo_hw H), mA_69 (Mo_hw H), mA_70 (Mo_hw H), mA_71 (Mo_hw H), xq_175_12_virtual wy_c, xq_176_12_virtual wy_c, xq_178_12_virtual wy_c, xq_179_12_virtual wy_c, iN_add, iN_mul, iN_sub, iN_and, iN_or, iN_clr, iN_shl, iN_shr, tb_r1, b1_z, b1_or, b1_and, b1_or0, b1_or1, b1_0or, b1_t, b1_f, iN_lt, iN_inj, reduceIte, if_true, if_false, Nat.zero_add, Nat.add_zero, Bool.false_eq_true, Bool.true_eq_false, Nat.lt_irrefl, iN_az, not_true_eq_false, not_false_eq_true, Nat.reduceEqDiff, Nat.reduceLT, Nat.reduceAdd, Nat.reduceMul, Nat.reduceSub]
                · exact r2 hb t ((PA_fr hL f1 (σ 1 6) (Nat.le_refl _) t).mpr h1) (ato t h2 h4)
                · obtain ⟨p1, p3⟩ := r3 hb
                  refine ⟨(PA_fr hL f1 (σ 1 6) (Nat.le_refl _) _).mp p1, GB_g hkL (by rw [n8v N2 r1]; omega), fun t h1 h2 h3 => p3 t ((PA_fr hL f1 (σ 1 6) (Nat.le_refl _) t).mpr h1) h2⟩
            obtain ⟨N2, b, e3, r1, r2, r3⟩ := sub
            have r4 : FW k W N2 := FW_t f1 (FW_w r1 (by omega))
            cases b
            · obtain ⟨N3, b, e, q⟩ := nxt N2 r4 (r2 rfl)
              refine ⟨N3, b, ?_, q⟩
              rw [eb_179_3]
              rw [if_neg (by decide)] at e3
              clear hI hF hlo ih ihv nxt q g1 g2 f1 f2 f3 f4 r1 r2 r3 r4 ato j1 htab
              rw [show d + (n + 1) + 6 = d + n + 6 + 1 from rfl] at e e3 ⊢
              simp (disch := first | assumption | omega | exact st8_a (Nat.le_of_ble_eq_true rfl)) only [hK, hv, e1, e2, eb_179_4, eb_179_5, eb_179_6, eb_179_7, kl_a, kl_d, kl_f, kl_i, kl_l, kl_n, kl_r, xr_1, xr_10, xr_16, xr_17, xr_18, xr_19, xr_2, xr_20, xr_27, xr_28, xr_3, xr_32, xr_37, xr_38, xr_4, xr_43, xr_5, af_0, af_1, xt_goto, xt_ib, xt_ic, xt_ic_ge, xt_ic_ne, xt_if_eq, xt_ir, xt_nop, wF_0, wF_1, wF_2, wF_3, wF_4, wF_5, wF_6, wF_7, wF_8, wF_9, wF_10, wF_11, wF_12, wF_13, wP_9, wP_10, wL_5, wC_5, wC_17, wD, hw_app, hw_len, wA_1, wA_2, wA_3, wA_4, wA_5, wA_6, wA_7, wA_8, wA_17, wW_1, wW_2, wW_3, wW_4, wW_5, wW_6, wW_7, wW_8, wW_17, mF_8 (Mo_hw H), mA_63 (Mo_hw H), mA_64 (Mo_hw H), mA_65 (Mo_hw H), mA_66 (Mo_hw H), mA_67 (Mo_hw H), mA_68 (Mo_hw H), mA_69 (Mo_hw H), mA_70 (Mo_hw H), mA_71 (Mo_hw H), xq_175_12_virtual wy_c, xq_176_12_virtual wy_c, xq_178_12_virtual wy_c, xq_179_12_virtual wy_c, iN_add, iN_mul, iN_sub, iN_and, iN_or, iN_clr, iN_shl, iN_shr, tb_r1, b1_z, b1_or, b1_and, b1_or0, b1_or1, b1_0or, b1_t, b1_f, iN_lt, iN_inj, reduceIte, if_true, if_false, Nat.zero_add, Nat.add_zero, Bool.false_eq_true, Bool.true_eq_false, Nat.lt_irrefl, iN_az, not_true_eq_false, not_false_eq_true, Nat.reduceEqDiff, Nat.reduceLT, Nat.reduceAdd, Nat.reduceMul, Nat.reduceSub]
              rw [e3]
              simp (disch := first | assumption | omega | exact st8_a (Nat.le_of_ble_eq_true rfl)) only [eb_179_15, kl_a, kl_d, kl_f, kl_i, kl_l, kl_n, kl_r, xr_1, xr_10, xr_16, xr_17, xr_18, xr_19, xr_2, xr_20, xr_27, xr_28, xr_3, xr_32, xr_37, xr_38, xr_4, xr_43, xr_5, af_0, af_1, xt_goto, xt_ib, xt_ic, xt_ic_ge, xt_ic_ne, xt_if_eq, xt_ir, xt_nop, wF_0, wF_1, wF_2, wF_3, wF_4, wF_5, wF_6, wF_7, wF_8, wF_9, wF_10, wF_11, wF_12, wF_13, wP_9, wP_10, wL_5, wC_5, wC_17, wD, hw_app, hw_len, wA_1, wA_2, wA_3, wA_4, wA_5, wA_6, wA_7, wA_8, wA_17, wW_1, wW_2, wW_3, wW_4, wW_5, wW_6, wW_7, wW_8, wW_17, mF_8 (Mo_hw H), mA_63 (Mo_hw H), mA_64 (Mo_hw H), mA_65 (Mo_hw H), mA_66 (Mo_hw H), mA_67 (Mo_hw H), mA_68 (Mo_hw H), mA_69 (Mo_hw H), mA_70 (Mo_hw H), mA_71 (Mo_hw H), xq_175_12_virtual wy_c, xq_176_12_virtual wy_c, xq_178_12_virtual wy_c, xq_179_12_virtual wy_c, iN_add, iN_mul, iN_sub, iN_and, iN_or, iN_clr, iN_shl, iN_shr, tb_r1, b1_z, b1_or, b1_and, b1_or0, b1_or1, b1_0or, b1_t, b1_f, iN_lt, iN_inj, reduceIte, if_true, if_false, Nat.zero_add, Nat.add_zero, Bool.false_eq_true, Bool.true_eq_false, Nat.lt_irrefl, iN_az, not_true_eq_false, not_false_eq_true, Nat.reduceEqDiff, Nat.reduceLT, Nat.reduceAdd, Nat.reduceMul, Nat.reduceSub]
              exact e
            · obtain ⟨p1, p2, p3⟩ := r3 rfl
              refine ⟨N2, true, ?_, r4, fun z => (by cases z), fun _ => ⟨p1, p2, fun t h1 h2 h3 => mn_st h2 r4.2.2 (by rw [r1.2.2 k (Nat.lt_succ_self k), f2 k (Nat.lt_succ_self k), u1_s]) (hlo t h1 h2 h3) fun e => p3 t h1 (ato t h2 e) h3⟩⟩
              rw [eb_179_3]
              rw [if_pos rfl] at e3
              clear hI hF hlo ih ihv nxt g1 g2 f1 f2 f3 f4 r1 r2 r3 r4 ato p1 p2 p3 j1 htab
              rw [show d + (n + 1) + 6 = d + n + 6 + 1 from rfl] at e3 ⊢
              simp (disch := first | assumption | omega | exact st8_a (Nat.le_of_ble_eq_true rfl)) only [hK, hv, e1, e2, eb_179_4, eb_179_5, eb_179_6, eb_179_7, kl_a, kl_d, kl_f, kl_i, kl_l, kl_n, kl_r, xr_1, xr_10, xr_16, xr_17, xr_18, xr_19, xr_2, xr_20, xr_27, xr_28, xr_3, xr_32, xr_37, xr_38, xr_4, xr_43, xr_5, af_0, af_1, xt_goto, xt_ib, xt_ic, xt_ic_ge, xt_ic_ne, xt_if_eq, xt_ir, xt_nop, wF_0, wF_1, wF_2, wF_3, wF_4, wF_5, wF_6, wF_7, wF_8, wF_9, wF_10, wF_11, wF_12, wF_13, wP_9, wP_10, wL_5, wC_5, wC_17, wD, hw_app, hw_len, wA_1, wA_2, wA_3, wA_4, wA_5, wA_6, wA_7, wA_8, wA_17, wW_1, wW_2, wW_3, wW_4, wW_5, wW_6, wW_7, wW_8, wW_17, mF_8 (Mo_hw H), mA_63 (Mo_hw H), mA_64 (Mo_hw H), mA_65 (Mo_hw H), mA_66 (Mo_hw H), mA_67 (Mo_hw H), mA_68 (Mo_hw H), mA_69 (Mo_hw H), mA_70 (Mo_hw H), mA_71 (Mo_hw H), xq_175_12_virtual wy_c, xq_176_12_virtual wy_c, xq_178_12_virtual wy_c, xq_179_12_virtual wy_c, iN_add, iN_mul, iN_sub, iN_and, iN_or, iN_clr, iN_shl, iN_shr, tb_r1, b1_z, b1_or, b1_and, b1_or0, b1_or1, b1_0or, b1_t, b1_f, iN_lt, iN_inj, reduceIte, if_true, if_false, Nat.zero_add, Nat.add_zero, Bool.false_eq_true, Bool.true_eq_false, Nat.lt_irrefl, iN_az, not_true_eq_false, not_false_eq_true, Nat.reduceEqDiff, Nat.reduceLT, Nat.reduceAdd, Nat.reduceMul, Nat.reduceSub]
              rw [e3]
              simp (disch := first | assumption | omega | exact st8_a (Nat.le_of_ble_eq_true rfl)) only [eb_179_14, kl_a, kl_d, kl_f, kl_i, kl_l, kl_n, kl_r, xr_1, xr_10, xr_16, xr_17, xr_18, xr_19, xr_2, xr_20, xr_27, xr_28, xr_3, xr_32, xr_37, xr_38, xr_4, xr_43, xr_5, af_0, af_1, xt_goto, xt_ib, xt_ic, xt_ic_ge, xt_ic_ne, xt_if_eq, xt_ir, xt_nop, wF_0, wF_1, wF_2, wF_3, wF_4, wF_5, wF_6, wF_7, wF_8, wF_9, wF_10, wF_11, wF_12, wF_13, wP_9, wP_10, wL_5, wC_5, wC_17, wD, hw_app, hw_len, wA_1, wA_2, wA_3, wA_4, wA_5, wA_6, wA_7, wA_8, wA_17, wW_1, wW_2, wW_3, wW_4, wW_5, wW_6, wW_7, wW_8, wW_17, mF_8 (Mo_hw H), mA_63 (Mo_hw H), mA_64 (Mo_hw H), mA_65 (Mo_hw H), mA_66 (Mo_hw H), mA_67 (Mo_hw H), mA_68 (Mo_hw H), mA_69 (Mo_hw H), mA_70 (Mo_hw H), mA_71 (Mo_hw H), xq_175_12_virtual wy_c, xq_176_12_virtual wy_c, xq_178_12_virtual wy_c, xq_179_12_virtual wy_c, iN_add, iN_mul, iN_sub, iN_and, iN_or, iN_clr, iN_shl, iN_shr, tb_r1, b1_z, b1_or, b1_and, b1_or0, b1_or1, b1_0or, b1_t, b1_f, iN_lt, iN_inj, reduceIte, if_true, if_false, Nat.zero_add, Nat.add_zero, Bool.false_eq_true, Bool.true_eq_false, Nat.lt_irrefl, iN_az, not_true_eq_false, not_false_eq_true, Nat.reduceEqDiff, Nat.reduceLT, Nat.reduceAdd, Nat.reduceMul, Nat.reduceSub]
    obtain ⟨N, b, e, q⟩ := key (tab k) (by omega) (Nat.le_refl _) W FW_r fun t _ _ h => GB_le h
    refine ⟨N, b, ?_, q⟩
    have hne : ¬ k = (σ 1 6) := by omega
    rw [eb_179_0]
    clear hI key q ih htab
    simp (disch := first | assumption | omega | exact st8_a (Nat.le_of_ble_eq_true rfl)) only [hne, hkL, wA_p hq, eb_179_2, kl_a, kl_d, kl_f, kl_i, kl_l, kl_n, kl_r, xr_1, xr_10, xr_16, xr_17, xr_18, xr_19, xr_2, xr_20, xr_27, xr_28, xr_3, xr_32, xr_37, xr_38, xr_4, xr_43, xr_5, af_0, af_1, xt_goto, xt_ib, xt_ic, xt_ic_ge, xt_ic_ne, xt_if_eq, xt_ir, xt_nop, wF_0, wF_1, wF_2, wF_3, wF_4, wF_5, wF_6, wF_7, wF_8, wF_9, wF_10, wF_11, wF_12, wF_13, wP_9, wP_10, wL_5, wC_5, wC_17, wD, hw_app, hw_len, wA_1, wA_2, wA_3, wA_4, wA_5, wA_6, wA_7, wA_8, wA_17, wW_1, wW_2, wW_3, wW_4, wW_5, wW_6, wW_7, wW_8, wW_17, mF_8 (Mo_hw H), mA_63 (Mo_hw H), mA_64 (Mo_hw H), mA_65 (Mo_hw H), mA_66 (Mo_hw H), mA_67 (Mo_hw H), mA_68 (Mo_hw H), mA_69 (Mo_hw H), mA_70 (Mo_hw H), mA_71 (Mo_hw H), xq_175_12_virtual wy_c, xq_176_12_virtual wy_c, xq_178_12_virtual wy_c, xq_179_12_virtual wy_c, iN_add, iN_mul, iN_sub, iN_and, iN_or, iN_clr, iN_shl, iN_shr, tb_r1, b1_z, b1_or, b1_and, b1_or0, b1_or1, b1_0or, b1_t, b1_f, iN_lt, iN_inj, reduceIte, if_true, if_false, Nat.zero_add, Nat.add_zero, Bool.false_eq_true, Bool.true_eq_false, Nat.lt_irrefl, iN_az, not_true_eq_false, not_false_eq_true, Nat.reduceEqDiff, Nat.reduceLT, Nat.reduceAdd, Nat.reduceMul, Nat.reduceSub]
    exact e
set_option maxRecDepth 100000 in
theorem nI_m1 : nI 0 - nI 1 = nI 4294967295 := by decide
set_option maxRecDepth 100000 in
theorem nI_ng : (nI 4294967295 < nI 0) = True := eq_true (by decide)
-- what is found near tab
set_option maxRecDepth 100000 in
theorem m_180 (O : Ok σ) (H : Mo σ μ ν h0) (hq : h0[p]? = some (oI (ar (σ 1 6) tab))) (htab : ∀ l, l < (σ 1 6) → tab l < 4294967296) : ∀ n k m, k + n = (σ 1 6) → m ≤ 6 → ∀ W, IW σ k W → ∃ N, ∃ b : Bool, ev xs (d + n + 6) 180 0 ([.ref h0.length, .int (nI k), .ref p, .int (nI m), .retAddr 9, .retAddr 9], [], hw h0 (σ 1 6) W β T) = some (.inl (some (.int (nI (b1 b)))), hw h0 (σ 1 6) N β T) ∧ FW k W N ∧ (b = false → ∀ t, PA σ W (σ 1 6) t → AT k t (W 8) → ¬ dn t tab n k ≤ m) ∧ (b = true → PA σ W (σ 1 6) (N 8) ∧ dn (N 8) tab n k ≤ m ∧ ∀ t, PA σ W (σ 1 6) t → AT k t (W 8) → dn t tab n k ≤ m → ¬ TX (σ 1 6) t (N 8)) := by
  obtain ⟨hD1, hD2, hH1, hH2, hS, hC, hT, hR, hL, hQ⟩ := Ok_b O
  have hV := vle O
  intro n
  induction n with
  | zero =>
    intro k m hk hm W hI
    have hkL : k = (σ 1 6) := by omega
    subst hkL
    refine ⟨W, true, ?_, FW_r, fun z => (by cases z), fun _ => ⟨hI.2.2, Nat.zero_le _, fun t _ h _ => TX_nk h⟩⟩
    clear hI
    simp (disch := first | assumption | omega | exact st8_a (Nat.le_of_ble_eq_true rfl)) only [eb_180_0, eb_180_1, kl_a, kl_d, kl_f, kl_i, kl_l, kl_n, kl_r, xr_1, xr_10, xr_16, xr_17, xr_18, xr_19, xr_2, xr_20, xr_27, xr_28, xr_3, xr_33, xr_34, xr_35, xr_36, xr_37, xr_38, xr_4, xr_40, xr_5, xr_77, af_0, af_1, xt_goto, xt_ib, xt_ic, xt_ic_ge, xt_ic_ne, xt_if_eq, xt_if_lt, xt_ir, xt_nop, wF_0, wF_1, wF_2, wF_3, wF_4, wF_5, wF_6, wF_7, wF_8, wF_9, wF_10, wF_11, wF_12, wF_13, wP_9, wP_10, wL_5, wC_5, wC_17, wD, hw_app, hw_len, wA_1, wA_2, wA_3, wA_4, wA_5, wA_6, wA_7, wA_8, wA_17, wW_1, wW_2, wW_3, wW_4, wW_5, wW_6, wW_7, wW_8, wW_17, mF_8 (Mo_hw H), mA_63 (Mo_hw H), mA_64 (Mo_hw H), mA_65 (Mo_hw H), mA_66 (Mo_hw H), mA_67 (Mo_hw H), mA_68 (Mo_hw H), mA_69 (Mo_hw H), mA_70 (Mo_hw H), mA_71 (Mo_hw H), xq_175_12_virtual wy_c, xq_176_12_virtual wy_c, xq_180_12_virtual wy_c, iN_add, iN_mul, iN_sub, iN_and, iN_or, iN_clr, iN_shl, iN_shr, tb_r1, b1_z, b1_or, b1_and, b1_or0, b1_or1, b1_0or, b1_t, b1_f, iN_lt, iN_inj, reduceIte, if_true, if_false, Nat.zero_add, Nat.add_zero, Bool.false_eq_true, Bool.true_eq_false, Nat.lt_irrefl, iN_az, not_true_eq_false, not_false_eq_true, Nat.reduceEqDiff, Nat.reduceLT, Nat.reduceAdd, Nat.reduceMul, Nat.reduceSub]
  | succ n ih =>
    intro k m hk hm W hI
    have hkL : k < (σ 1 6) := by omega
    have htk := htab k hkL
    have key : ∀ v, v ≤ (σ 1 2) * (σ 1 5) → ∀ K y5, FW k W K → (∀ t, PA σ W (σ 1 6) t → AT k t (W 8) → dn t tab (n + 1) k ≤ m → v ≤ t k) → ∃ N, ∃ b : Bool, ev xs (d + (n + 1) + 6) 180 3 ([.ref h0.length, .int (nI k), .ref p, .int (nI m), .int (nI v), y5], [], hw h0 (σ 1 6) K β T) = some (.inl (some (.int (nI (b1 b)))), hw h0 (σ 1 6) N β T) ∧ FW k W N ∧ (b = false → ∀ t, PA σ W (σ 1 6) t → AT k t (W 8) → ¬ dn t tab (n + 1) k ≤ m) ∧ (b = true → PA σ W (σ 1 6) (N 8) ∧ dn (N 8) tab (n + 1) k ≤ m ∧ ∀ t, PA σ W (σ 1 6) t → AT k t (W 8) → dn t tab (n + 1) k ≤ m → ¬ TX (σ 1 6) t (N 8)) := by
      refine lp ((σ 1 2) * (σ 1 5)) ?_ ?_
      · intro K y5 hF hlo
        refine ⟨K, false, ?_, hF, fun _ t h1 h2 h3 => ?_, fun z => (by cases z)⟩
        · have hK := (hF.1 0 (by decide) (by decide)) ▸ hI.1.1
          rw [eb_180_3]
          clear hI hF hlo ih
          simp (disch := first | assumption | omega | exact st8_a (Nat.le_of_ble_eq_true rfl)) only [hK, eb_180_16, kl_a, kl_d, kl_f, kl_i, kl_l, kl_n, kl_r, xr_1, xr_10, xr_16, xr_17, xr_18, xr_19, xr_2, xr_20, xr_27, xr_28, xr_3, xr_33, xr_34, xr_35, xr_36, xr_37, xr_38, xr_4, xr_40, xr_5, xr_77, af_0, af_1, xt_goto, xt_ib, xt_ic, xt_ic_ge, xt_ic_ne, xt_if_eq, xt_if_lt, xt_ir, xt_nop, wF_0, wF_1, wF_2, wF_3, wF_4, wF_5, wF_6, wF_7, wF_8, wF_9, wF_10, wF_11, wF_12, wF_13, wP_9, wP_10, wL_5, wC_5, wC_17, wD, hw_app, hw_len, wA_1, wA_2, wA_3, wA_4, wA_5, wA_6, wA_7, wA_8, wA_17, wW_1, wW_2, wW_3, wW_4, wW_5, wW_6, wW_7, wW_8, wW_17, mF_8 (Mo_hw H), mA_63 (Mo_hw H), mA_64 (Mo_hw H), mA_65 (Mo_hw H), mA_66 (Mo_hw H), mA_67 (Mo_hw H), mA_68 (Mo_hw H), mA_69 (Mo_hw H), mA_70 (Mo_hw H), mA_71 (Mo_hw H), xq_175_12_virtual wy_c, xq_176_12_virtual wy_c, xq_180_12_virtual wy_c, iN_add, iN_mul, iN_sub, iN_and, iN_or, iN_clr, iN_shl, iN_shr, tb_r1, b1_z, b1_or, b1_and, b1_or0, b1_or1, b1_0or, b1_t, b1_f, iN_lt, iN_inj, reduceIte, if_true, if_false, Nat.zero_add, Nat.add_zero, Bool.false_eq_true, Bool.true_eq_false, Nat.lt_irrefl, iN_az, not_true_eq_false, not_false_eq_true, Nat.reduceEqDiff, Nat.reduceLT, Nat.reduceAdd, Nat.reduceMul, Nat.reduceSub]
        · have := hlo t h1 h2 h3
          have := (h1 k hkL).1
          omega
      · intro v hv ihv K y5 hF hlo
        have hK : K 0 0 = (σ 1 2) * (σ 1 5) := (hF.1 0 (by decide) (by decide)) ▸ hI.1.1
        obtain ⟨h, e1, g1, g2⟩ := w_sp (xs := xs) (β := β) (T := T) O H hkL hv hI hF
        have e1 := e1 (d + n + 6)
        have nxt : ∀ K2 y5, FW k W K2 → (∀ t, PA σ W (σ 1 6) t → AT k t (W 8) → dn t tab (n + 1) k ≤ m → t k ≠ v) → _ := fun K2 y5 hF2 hno => ihv K2 y5 hF2 fun t h1 h2 h3 => by
          have := hlo t h1 h2 h3
          have := hno t h1 h2 h3
          omega
        by_cases hrest : ∃ w, m = w + b1 (decide (v ≠ tab k))
        · obtain ⟨w, hw'⟩ := hrest
          have hw6 : w ≤ 6 := by omega
          have st : ev xs (d + (n + 1) + 6) 180 3 ([.ref h0.length, .int (nI k), .ref p, .int (nI m), .int (nI v), y5], [], hw h0 (σ 1 6) K β T) = ev xs (d + (n + 1) + 6) 180 8 ([.ref h0.length, .int (nI k), .ref p, .int (nI m), .int (nI v), .int (nI w)], [], hw h0 (σ 1 6) K β T) := by
            rw [eb_180_3]
            clear hI hF hlo ih ihv nxt g1 g2
            by_cases hvk : v = tab k
            · rw [decide_eq_false (fun z => z hvk)] at hw'
              have hw' : m = w := hw'
              subst hw'
              have hvk : (v = tab k) = True := eq_true hvk
              simp (disch := first | assumption | omega | exact st8_a (Nat.le_of_ble_eq_true rfl)) only [hK, hv, hkL, wA_p hq, hvk, Nat.not_lt_zero, eb_180_4, eb_180_5, eb_180_7, kl_a, kl_d, kl_f, kl_i, kl_l, kl_n, kl_r, xr_1, xr_10, xr_16, xr_17, xr_18, xr_19, xr_2, xr_20, xr_27, xr_28, xr_3, xr_33, xr_34, xr_35, xr_36, xr_37, xr_38, xr_4, xr_40, xr_5, xr_77, af_0, af_1, xt_goto, xt_ib, xt_ic, xt_ic_ge, xt_ic_ne, xt_if_eq, xt_if_lt, xt_ir, xt_nop, wF_0, wF_1, wF_2, wF_3, wF_4, wF_5, wF_6, wF_7, wF_8, wF_9, wF_10, wF_11, wF_12, wF_13, wP_9, wP_10, wL_5, wC_5, wC_17, wD, hw_app, hw_len, wA_1, wA_2, wA_3, wA_4, wA_5, wA_6, wA_7, wA_8, wA_17, wW_1, wW_2, wW_3, wW_4, wW_5, wW_6, wW_7, wW_8, wW_17, mF_8 (Mo_hw H), mA_63 (Mo_hw H), mA_64 (Mo_hw H), mA_65 (Mo_hw H), mA_66 (Mo_hw H), mA_67 (Mo_hw H), mA_68 (Mo_hw H), mA_69 (Mo_hw H), mA_70 (Mo_hw H), mA_71 (Mo_hw H), xq_175_12_virtual wy_c, xq_176_12_virtual wy_c, xq_180_12_virtual wy_c, iN_add, iN_mul, iN_sub, iN_and, iN_or, iN_clr, iN_shl, iN_shr, tb_r1, b1_z, b1_or, b1_and, b1_or0, b1_or1, b1_0or, b1_t, b1_f, iN_lt, iN_inj, reduceIte, if_true, if_false, Nat.zero_add, Nat.add_zero, Bool.false_eq_true, Bool.true_eq_false, Nat.lt_irrefl, iN_az, not_true_eq_false, not_false_eq_true, Nat.reduceEqDiff, Nat.reduceLT, Nat.reduceAdd, Nat.reduceMul, Nat.reduceSub]
            · rw [decide_eq_true hvk] at hw'
              have hw' : m = w + 1 := hw'
              subst hw'
              simp (disch := first | assumption | omega | exact st8_a (Nat.le_of_ble_eq_true rfl)) only [hK, hv, hkL, wA_p hq, hvk, Nat.not_lt_zero, Nat.add_sub_cancel, eb_180_4, eb_180_6, eb_180_7, kl_a, kl_d, kl_f, kl_i, kl_l, kl_n, kl_r, xr_1, xr_10, xr_16, xr_17, xr_18, xr_19, xr_2, xr_20, xr_27, xr_28, xr_3, xr_33, xr_34, xr_35, xr_36, xr_37, xr_38, xr_4, xr_40, xr_5, xr_77, af_0, af_1, xt_goto, xt_ib, xt_ic, xt_ic_ge, xt_ic_ne, xt_if_eq, xt_if_lt, xt_ir, xt_nop, wF_0, wF_1, wF_2, wF_3, wF_4, wF_5, wF_6, wF_7, wF_8, wF_9, wF_10, wF_11, wF_12, wF_13, wP_9, wP_10, wL_5, wC_5, wC_17, wD, hw_app, hw_len, wA_1, wA_2, wA_3, wA_4, wA_5, wA_6, wA_7, wA_8, wA_17, wW_1, wW_2, wW_3, wW_4, wW_5, wW_6, wW_7, wW_8, wW_17, mF_8 (Mo_hw H), mA_63 (Mo_hw H), mA_64 (Mo_hw H), mA_65 (Mo_hw H), mA_66 (Mo_hw H), mA_67 (Mo_hw H), mA_68 (Mo_hw H), mA_69 (Mo_hw H), mA_70 (Mo_hw H), mA_71 (Mo_hw H), xq_175_12_virtual wy_c, xq_176_12_virtual wy_c, xq_180_12_virtual wy_c, iN_add, iN_mul, iN_sub, iN_and, iN_or, iN_clr, iN_shl, iN_shr, tb_r1, b1_z, b1_or, b1_and, b1_or0, b1_or1, b1_0or, b1_t, b1_f, iN_lt, iN_inj, reduceIte, if_true, if_false, Nat.zero_add, Nat.add_zero, Bool.false_eq_true, Bool.true_eq_false, Nat.lt_irrefl, iN_az, not_true_eq_false, not_false_eq_true, Nat.reduceEqDiff, Nat.reduceLT, Nat.reduceAdd, Nat.reduceMul, Nat.reduceSub]
          have dnv : ∀ t, t k = v → (dn t tab (n + 1) k ≤ m ↔ dn t tab n (k + 1) ≤ w) := fun t ht => by
            show b1 (decide (t k ≠ tab k)) + dn t tab n (k + 1) ≤ m ↔ _
            rw [ht, hw']
            omega
          cases h
          · obtain ⟨N, b, e, q⟩ := nxt K (.int (nI w)) hF fun t h1 h2 _ => g1 rfl t h1 h2
            refine ⟨N, b, ?_, q⟩
            rw [st]
            clear hI hF hlo ih ihv nxt q g1 g2 st dnv
            rw [show d + (n + 1) + 6 = d + n + 6 + 1 from rfl] at e ⊢
            simp (disch := first | assumption | omega | exact st8_a (Nat.le_of_ble_eq_true rfl)) only [e1, eb_180_8, eb_180_9, eb_180_15, kl_a, kl_d, kl_f, kl_i, kl_l, kl_n, kl_r, xr_1, xr_10, xr_16, xr_17, xr_18, xr_19, xr_2, xr_20, xr_27, xr_28, xr_3, xr_33, xr_34, xr_35, xr_36, xr_37, xr_38, xr_4, xr_40, xr_5, xr_77, af_0, af_1, xt_goto, xt_ib, xt_ic, xt_ic_ge, xt_ic_ne, xt_if_eq, xt_if_lt, xt_ir, xt_nop, wF_0, wF_1, wF_2, wF_3, wF_4, wF_5, wF_6, wF_7, wF_8, wF_9, wF_10, wF_11, wF_12, wF_13, wP_9, wP_10, wL_5, wC_5, wC_17, wD, hw_app, hw_len, wA_1, wA_2, wA_3, wA_4, wA_5, wA_6, wA_7, wA_8, wA_17, wW_1, wW_2, wW_3, wW_4, wW_5, wW_6, wW_7, wW_8, wW_17, mF_8 (Mo_hw H), mA_63 (Mo_hw H), mA_64 (Mo_hw H), mA_65 (Mo_hw H), mA_66 (Mo_hw H), mA_67 (Mo_hw H), mA_68 (Mo_hw H), mA_69 (Mo_hw H), mA_70 (Mo_hw H), mA_71 (Mo_hw H), xq_175_12_virtual wy_c, xq_176_12_virtual wy_c, xq_180_12_virtual wy_c, iN_add, iN_mul, iN_sub, iN_and, iN_or, iN_clr, iN_shl, iN_shr, tb_r1, b1_z, b1_or, b1_and, b1_or0, b1_or1, b1_0or, b1_t, b1_f, iN_lt, iN_inj, reduceIte, if_true, if_false, Nat.zero_add, Nat.add_zero, Bool.false_eq_true, Bool.true_eq_false, Nat.lt_irrefl, iN_az, not_true_eq_false, not_false_eq_true, Nat.reduceEqDiff, Nat.reduceLT, Nat.reduceAdd, Nat.reduceMul, Nat.reduceSub]
            exact e
          · obtain ⟨N, b, e2, f1, f2, f3, f4⟩ := g2 rfl
            have e2 := e2 (d + n + 1)
            rw [show d + n + 1 + 5 = d + n + 6 by omega] at e2
            cases b
            · obtain ⟨N2, b, e, q⟩ := nxt N (.int (nI w)) f1 fun t h1 h2 _ => f3 rfl t h1 h2
              refine ⟨N2, b, ?_, q⟩
              rw [st]
              clear hI hF hlo ih ihv nxt q g1 g2 f1 f2 f3 f4 st dnv
              rw [show d + (n + 1) + 6 = d + n + 6 + 1 from rfl] at e ⊢
              simp (disch := first | assumption | omega | exact st8_a (Nat.le_of_ble_eq_true rfl)) only [e1, e2, eb_180_8, eb_180_9, eb_180_10, eb_180_11, eb_180_15, kl_a, kl_d, kl_f, kl_i, kl_l, kl_n, kl_r, xr_1, xr_10, xr_16, xr_17, xr_18, xr_19, xr_2, xr_20, xr_27, xr_28, xr_3, xr_33, xr_34, xr_35, xr_36, xr_37, xr_38, xr_4, xr_40, xr_5, xr_77, af_0, af_1, xt_goto, xt_ib, xt_ic, xt_ic_ge, xt_ic_ne, xt_if_eq, xt_if_lt, xt_ir, xt_nop, wF_0, wF_1, wF_2, wF_3, wF_4, wF_5, wF_6, wF_7, wF_8, wF_9, wF_10, wF_11, wF_12, wF_13, wP_9, wP_10, wL_5, wC_5, wC_17, wD, hw_app, hw_len, wA_1, wA_2, wA_3, wA_4, wA_5, wA_6, wA_7, wA_8, wA_17, wW_1, wW_2, wW_3, wW_4, wW_5, wW_6, wW_7, wW_8, wW_17, mF_8 (Mo_hw H), mA_63 (Mo_hw H), mA_64 (Mo_hw H), mA_65 (Mo_hw H), mA_66 (Mo_hw H), mA_67 (Mo_hw H), mA_68 (Mo_hw H), mA_69 (Mo_hw H), mA_70 (Mo_hw H), mA_71 (Mo_hw H), xq_175_12_virtual wy_c, xq_176_12_virtual wy_c, xq_180_12_virtual wy_c, iN_add, iN_mul, iN_sub, iN_and, iN_or, iN_clr, iN_shl, iN_shr, tb_r1, b1_z, b1_or, b1_and, b1_or0, b1_or1, b1_0or, b1_t, b1_f, iN_lt, iN_inj, reduceIte, if_true, if_false, Nat.zero_add, Nat.add_zero, Bool.false_eq_true, Bool.true_eq_false, Nat.lt_irrefl, iN_az, not_true_eq_false, not_false_eq_true, Nat.reduceEqDiff, Nat.reduceLT, Nat.reduceAdd, Nat.reduceMul, Nat.reduceSub]
              exact e
            · obtain ⟨j1, -⟩ := f4 rfl
              obtain ⟨N2, b, e3, r1, r2, r3⟩ := ih (k + 1) w (by omega) hw6 N j1
              have r4 : FW k W N2 := FW_t f1 (FW_w r1 (by omega))
              have ato : ∀ t, AT k t (W 8) → t k = v → AT (k + 1) t (N 8) := fun t h1 h2 => AT_t (AT_u h1 h2) (AT_s f2)
              have n8v : N2 8 k = v := by rw [r1.2.2 k (Nat.lt_succ_self k), f2 k (Nat.lt_succ_self k), u1_s]
              cases b
              · obtain ⟨N3, b, e, q⟩ := nxt N2 (.int (nI w)) r4 fun t h1 h2 h3 h4 => r2 rfl t ((PA_fr hL f1 (σ 1 6) (Nat.le_refl _) t).mpr h1) (ato t h2 h4) ((dnv t h4).mp h3)
                refine ⟨N3, b, ?_, q⟩
                rw [st]
                clear hI hF hlo ih ihv nxt q g1 g2 f1 f2 f3 f4 r1 r2 r3 r4 ato j1 st dnv n8v
                rw [show d + (n + 1) + 6 = d + n + 6 + 1 from rfl] at e ⊢
                simp (disch := first | assumption | omega | exact st8_a (Nat.le_of_ble_eq_true rfl)) only [e1, e2, e3, eb_180_8, eb_180_9, eb_180_10, eb_180_11, eb_180_12, eb_180_13, eb_180_15, kl_a, kl_d, kl_f, kl_i, kl_l, kl_n, kl_r, xr_1, xr_10, xr_16, xr_17, xr_18, xr_19, xr_2, xr_20, xr_27, xr_28, xr_3, xr_33, xr_34, xr_35, xr_36, xr_37, xr_38, xr_4, xr_40, xr_5, xr_77, af_0, af_1, xt_goto, xt_ib, xt_ic, xt_ic_ge, xt_ic_ne, xt_if_eq, xt_if_lt, xt_ir, xt_nop, wF_0, wF_1, wF_2, wF_3, wF_4, wF_5, wF_6, wF_7, wF_8, wF_9, wF_10, wF_11, wF_12, wF_13, wP_9, wP_10, wL_5, wC_5, wC_17, wD, hw_app, hw_len, wA_1, wA_2, wA_3, wA_4, wA_5, wA_6, wA_7, wA_8, wA_17, wW_1, wW_2, wW_3, wW_4, wW_5, wW_6, wW_7, wW_8, wW_17, mF_8 (Mo_hw H), mA_63 (Mo_hw H), mA_64 (Mo_hw H), mA_65 (Mo_hw H), mA_66 (Mo_hw H), mA_67 (Mo_hw H), mA_68 (Mo_hw H), mA_69 (Mo_hw H), mA_70 (Mo_hw H), mA_71 (Mo_hw H), xq_175_12_virtual wy_c, xq_176_12_virtual wy_c, xq_180_12_virtual wy_c, iN_add, iN_mul, iN_sub, iN_and, iN_or, iN_clr, iN_shl, iN_shr, tb_r1, b1_z, b1_or, b1_and, b1_or0, b1_or1, b1_0or, b1_t, b1_f, iN_lt, iN_inj, reduceIte, if_true, if_false, Nat.zero_add, Nat.add_zero, Bool.false_eq_true, Bool.true_eq_false, Nat.lt_irrefl, iN_az, not_true_eq_false, not_false_eq_true, Nat.reduceEqDiff, Nat.reduceLT, Nat.reduceAdd, Nat.reduceMul, Nat.reduceSub]
                exact e
              · obtain ⟨p1, p2, p3⟩ := r3 rfl
                refine ⟨N2, true, ?_, r4, fun z => (by cases z), fun _ => ⟨(PA_fr hL f1 (σ 1 6) (Nat.le_refl _) _).mp p1, (dnv _ n8v).mpr p2, fun t h1 h2 h3 => mn_st h2 r4.2.2 n8v (hlo t h1 h2 h3) fun e => p3 t ((PA_fr hL f1 (σ 1 6) (Nat.le_refl _) t).mpr h1) (ato t h2 e) ((dnv t e).mp h3)⟩⟩
                rw [st]
                clear hI hF hlo ih ihv nxt g1 g2 f1 f2 f3 f4 r1 r2 r3 r4 ato p1 p2 p3 j1 st dnv n8v
                rw [show d + (n + 1) + 6 = d + n + 6 + 1 from rfl]
                simp (disch := first | assumption | omega | exact st8_a (Nat.le_of_ble_eq_true rfl)) only [e1, e2, e3, eb_180_8, eb_180_9, eb_180_10, eb_180_11, eb_180_12, eb_180_13, eb_180_14, kl_a, kl_d, kl_f, kl_i, kl_l, kl_n, kl_r, xr_1, xr_10, xr_16, xr_17, xr_18, xr_19, xr_2, xr_20, xr_27, xr_28, xr_3, xr_33, xr_34, xr_35, xr_36, xr_37, xr_38, xr_4, xr_40, xr_5, xr_77, af_0, af_1, xt_goto, xt_ib, xt_ic, xt_ic_ge, xt_ic_ne, xt_if_eq, xt_if_lt, xt_ir, xt_nop, wF_0, wF_1, wF_2, wF_3, wF_4, wF_5, wF_6, wF_7, wF_8, wF_9, wF_10, wF_11, wF_12, wF_13, wP_9, wP_10, wL_5, wC_5, wC_17, wD, hw_app, hw_len, wA_1, wA_2, wA_3, wA_4, wA_5, wA_6, wA_7, wA_8, wA_17, wW_1, wW_2, wW_3, wW_4, wW_5, wW_6, wW_7, wW_8, wW_17, mF_8 (Mo_hw H), mA_63 (Mo_hw H), mA_64 (Mo_hw H), mA_65 (Mo_hw H), mA_66 (Mo_hw H), mA_67 (Mo_hw H), mA_68 (Mo_hw H), mA_69 (Mo_hw H), mA_70 (Mo_hw H), mA_71 (Mo_hw H), xq_175_12_virtual wy_c, xq_176_12_virtual wy_c, xq_180_12_virtual wy_c, iN_add, iN_mul, iN_sub, iN_and, iN_or, iN_clr, iN_shl, iN_shr, tb_r1, b1_z, b1_or, b1_and, b1_or0, b1_or1, b1_0or, b1_t, b1_f, iN_lt, iN_inj, reduceIte, if_true, if_false, Nat.zero_add, Nat.add_zero, Bool.false_eq_true, Bool.true_eq_false, Nat.lt_irrefl, iN_az, not_true_eq_false, not_false_eq_true, Nat.reduceEqDiff, Nat.reduceLT, Nat.reduceAdd, Nat.reduceMul, Nat.reduceSub]
        · have hvk : v ≠ tab k := fun e => hrest ⟨m, by rw [decide_eq_false (fun z => z e)]; rfl⟩
          have hm0 : m = 0 := Nat.eq_zero_of_not_pos fun h => hrest ⟨m - 1, by rw [decide_eq_true hvk]; show m = m - 1 + 1; omega⟩
          obtain ⟨N, b, e, q⟩ := nxt K (.int (nI 4294967295)) hF fun t h1 h2 h3 h4 => by
            have h3 : b1 (decide (t k ≠ tab k)) + dn t tab n (k + 1) ≤ m := h3
            rw [h4, decide_eq_true hvk, hm0] at h3
            have : b1 true = 1 := rfl
            omega
          refine ⟨N, b, ?_, q⟩
          subst hm0
          rw [eb_180_3]
          clear hI hF hlo ih ihv nxt q g1 g2 hrest
          simp (disch := first | assumption | omega | exact st8_a (Nat.le_of_ble_eq_true rfl)) only [hK, hv, hkL, wA_p hq, hvk, nI_m1, nI_ng, eb_180_4, eb_180_6, eb_180_7, eb_180_15, kl_a, kl_d, kl_f, kl_i, kl_l, kl_n, kl_r, xr_1, xr_10, xr_16, xr_17, xr_18, xr_19, xr_2, xr_20, xr_27, xr_28, xr_3, xr_33, xr_34, xr_35, xr_36, xr_37, xr_38, xr_4, xr_40, xr_5, xr_77, af_0, af_1, xt_goto, xt_ib, xt_ic, xt_ic_ge, xt_ic_ne, xt_if_eq, xt_if_lt, xt_ir, xt_nop, wF_0, wF_1, wF_2, wF_3, wF_4, wF_5, wF_6, wF_7, wF_8, wF_9, wF_10, wF_11, wF_12, wF_13, wP_9, wP_10, wL_5, wC_5, wC_17, wD, hw_app, hw_len, wA_1, wA_2, wA_3, wA_4, wA_5, wA_6, wA_7, wA_8, wA_17, wW_1, wW_2, wW_3, wW_4, wW_5, wW_6, wW_7, wW_8, wW_17, mF_8 (Mo_hw H), mA_63 (Mo_hw H), mA_64 (Mo_hw H), mA_65 (Mo_hw H), mA_66 (Mo_hw H), mA_67 (Mo_hw H), mA_68 (Mo_hw H), mA_69 (Mo_hw H), mA_70 (Mo_hw H), mA_71 (Mo_hw H), xq_175_12_virtual wy_c, xq_176_12_virtual wy_c, xq_180_12_virtual wy_c, iN_add, iN_mul, iN_sub, iN_and, iN_or, iN_clr, iN_shl, iN_shr, tb_r1, b1_z, b1_or, b1_and, b1_or0, b1_or1, b1_0or, b1_t, b1_f, iN_lt, iN_inj, reduceIte, if_true, if_false, Nat.zero_add, Nat.add_zero, Bool.false_eq_true, Bool.true_eq_false, Nat.lt_irrefl, iN_az, not_true_eq_false, not_false_eq_true, Nat.reduceEqDiff, Nat.reduceLT, Nat.reduceAdd, Nat.reduceMul, Nat.reduceSub]
          exact e
    obtain ⟨N, b, e, q⟩ := key 0 (Nat.zero_le _) W (.retAddr 9) FW_r fun _ _ _ _ => Nat.zero_le _
    refine ⟨N, b, ?_, q⟩
    have hne : ¬ k = (σ 1 6) := by omega
    rw [eb_180_0]
    clear hI key q ih
    simp (disch := first | assumption | omega | exact st8_a (Nat.le_of_ble_eq_true rfl)) only [hne, eb_180_2, kl_a, kl_d, kl_f, kl_i, kl_l, kl_n, kl_r, xr_1, xr_10, xr_16, xr_17, xr_18, xr_19, xr_2, xr_20, xr_27, xr_28, xr_3, xr_33, xr_34, xr_35, xr_36, xr_37, xr_38, xr_4, xr_40, xr_5, xr_77, af_0, af_1, xt_goto, xt_ib, xt_ic, xt_ic_ge, xt_ic_ne, xt_if_eq, xt_if_lt, xt_ir, xt_nop, wF_0, wF_1, wF_2, wF_3, wF_4, wF_5, wF_6, wF_7, wF_8, wF_9, wF_10, wF_11, wF_12, wF_13, wP_9, wP_10, wL_5, wC_5, wC_17, wD, hw_app, hw_len, wA_1, wA_2, wA_3, wA_4, wA_5, wA_6, wA_7, wA_8, wA_17, wW_1, wW_2, wW_3, wW_4, wW_5, wW_6, wW_7, wW_8, wW_17, mF_8 (Mo_hw H), mA_63 (Mo_hw H), mA_64 (Mo_hw H), mA_65 (Mo_hw H), mA_66 (Mo_hw H), mA_67 (Mo_hw H), mA_68 (Mo_hw H), mA_69 (Mo_hw H), mA_70 (Mo_hw H), mA_71 (Mo_hw H), xq_175_12_virtual wy_c, xq_176_12_virtual wy_c, xq_180_12_virtual wy_c, iN_add, iN_mul, iN_sub, iN_and, iN_or, iN_clr, iN_shl, iN_shr, tb_r1, b1_z, b1_or, b1_and, b1_or0, b1_or1, b1_0or, b1_t, b1_f, iN_lt, iN_inj, reduceIte, if_true, if_false, Nat.zero_add, Nat.add_zero, Bool.false_eq_true, Bool.true_eq_false, Nat.lt_irrefl, iN_az, not_true_eq_false, not_false_eq_true, Nat.reduceEqDiff, Nat.reduceLT, Nat.reduceAdd, Nat.reduceMul, Nat.reduceSub]
    exact e
end Wyf
