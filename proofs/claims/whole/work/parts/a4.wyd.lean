/-! THE MODEL'S Ways: has, lays; what a search knows -/
def AT (k : Nat) (t u : Nat → Nat) : Prop := ∀ j, j < k → t j = u j
def TX (n : Nat) (t u : Nat → Nat) : Prop := ∃ k, k < n ∧ AT k t u ∧ t k < u k
/-- the first k lessons of a table are allowed -/
def PA (σ W : Nat → Nat → Nat) (k : Nat) (t : Nat → Nat) : Prop := ∀ j, j < k → t j < (σ 1 2) * (σ 1 5) ∧ (W 7 j).testBit (t j) = true ∧ (∀ i, i < j → (W 5 (wix i (t i) j)).testBit (t j) = true) ∧ ∀ y, y < (σ 1 0) → pc 10 (bus σ (σ 6 j) t (j + 1) &&& dm σ y) ≤ W 6 (σ 6 j)
def BW (σ W : Nat → Nat → Nat) : Prop := W 0 0 = (σ 1 2) * (σ 1 5) ∧ (∀ l, l < (σ 1 6) → ∀ v, (W 7 l).testBit v = true → v < (σ 1 2) * (σ 1 5)) ∧ ∀ i, i < (σ 1 4) → W 6 i ≤ (σ 1 1)
/-- the row of a depth -/
def RW7 (σ : Nat → Nat → Nat) (k : Nat) (W : Nat → Nat → Nat) : Prop := ∀ l, k ≤ l → l < (σ 1 6) → ∀ v, (W 7 (6 * k + l)).testBit v = true ↔ (W 7 l).testBit v = true ∧ ∀ j, j < k → (W 5 (wix j (W 8 j) l)).testBit v = true
/-- what a search from lesson k on leaves -/
def FW (k : Nat) (W N : Nat → Nat → Nat) : Prop := (∀ b, b ≠ 7 → b ≠ 8 → N b = W b) ∧ (∀ j, j < 6 * k + 6 → N 7 j = W 7 j) ∧ ∀ j, j < k → N 8 j = W 8 j
section Wyd
variable {xs : List Int32} {d m n : Nat} {h0 T A : ab_H} {σ W N K : Nat → Nat → Nat} {μ : Nat → Nat} {ν : Nat → Value} {β : Value} {a b u k v y q set l i : Nat} {t s : Nat → Nat} {y2 y3 y4 y5 y6 : Value}
set_option maxRecDepth 100000 in
theorem FW_r : FW k W W := ⟨fun _ _ _ => rfl, fun _ _ => rfl, fun _ _ => rfl⟩
set_option maxRecDepth 100000 in
theorem FW_t (h : FW k W N) (h2 : FW k N K) : FW k W K := ⟨fun b p q => (h2.1 b p q).trans (h.1 b p q), fun j hj => (h2.2.1 j hj).trans (h.2.1 j hj), fun j hj => (h2.2.2 j hj).trans (h.2.2 j hj)⟩
set_option maxRecDepth 100000 in
theorem FW_w {k2 : Nat} (h : FW k2 W N) (hk : k ≤ k2) : FW k W N := ⟨h.1, fun j hj => h.2.1 j (by omega), fun j hj => h.2.2 j (by omega)⟩
set_option maxRecDepth 100000 in
theorem bus_cg {m : Nat} (h : AT m t s) : bus σ i t m = bus σ i s m := by
  unfold bus
  exact orn_cg fun l hl => by rw [h l hl]
set_option maxRecDepth 100000 in
theorem AT_s (h : AT k t s) : AT k s t := fun j hj => (h j hj).symm
set_option maxRecDepth 100000 in
theorem AT_t {r : Nat → Nat} (h : AT k t s) (h2 : AT k s r) : AT k t r := fun j hj => (h j hj).trans (h2 j hj)
set_option maxRecDepth 100000 in
theorem AT_w {k2 : Nat} (h : AT k2 t s) (hk : k ≤ k2) : AT k t s := fun j hj => h j (by omega)
set_option maxRecDepth 100000 in
theorem PA_cg (h : AT k t s) (hP : PA σ W k t) : PA σ W k s := fun j hj => by
  obtain ⟨h1, h2, h3, h4⟩ := hP j hj
  rw [← h j hj]
  refine ⟨h1, h2, fun i hi => ?_, fun y hy => ?_⟩
  · rw [← h i (by omega)]; exact h3 i hi
  · rw [← bus_cg (AT_w h (show j + 1 ≤ k by omega))]; exact h4 y hy
set_option maxRecDepth 100000 in
theorem PA_w {k2 : Nat} (h : PA σ W k2 t) (hk : k ≤ k2) : PA σ W k t := fun j hj => h j (by omega)
set_option maxRecDepth 100000 in
theorem PA_fr (hL : (σ 1 6) ≤ 6) (h : FW k W N) (n : Nat) (hn : n ≤ (σ 1 6)) (t : Nat → Nat) : PA σ N n t ↔ PA σ W n t := by
  unfold PA
  rw [h.1 5 (by decide) (by decide), h.1 6 (by decide) (by decide)]
  constructor
  · intro h2 j hj
    have := h2 j hj
    rw [h.2.1 j (by omega)] at this
    exact this
  · intro h2 j hj
    have := h2 j hj
    rw [h.2.1 j (by omega)]
    exact this
set_option maxRecDepth 100000 in
theorem BW_fr (hL : (σ 1 6) ≤ 6) (h : FW k W N) (hB : BW σ W) : BW σ N := by
  obtain ⟨h1, h2, h3⟩ := hB
  refine ⟨by rw [h.1 0 (by decide) (by decide)]; exact h1, fun l hl v hv => h2 l hl v (by rw [h.2.1 l (by omega)] at hv; exact hv), by rw [h.1 6 (by decide) (by decide)]; exact h3⟩
set_option maxRecDepth 100000 in
theorem RW7_fr (hL : (σ 1 6) ≤ 6) (h : FW k W N) (hY : RW7 σ k W) : RW7 σ k N := fun l hl hl2 v => by
  rw [h.2.1 _ (by omega), h.2.1 l (by omega), h.1 5 (by decide) (by decide), hY l hl hl2 v]
  constructor
  · rintro ⟨h1, h2⟩
    exact ⟨h1, fun j hj => by rw [h.2.2 j hj]; exact h2 j hj⟩
  · rintro ⟨h1, h2⟩
    exact ⟨h1, fun j hj => by rw [← h.2.2 j hj]; exact h2 j hj⟩
set_option maxRecDepth 100000 in
theorem RW7_b (hV : (σ 1 2) * (σ 1 5) ≤ 18) (hB : BW σ W) (hY : RW7 σ k W) (hl : k ≤ l) (hl2 : l < (σ 1 6)) : W 7 (6 * k + l) < 262144 := mask_lt (n := 18) fun i hi => by
  have := hB.2.1 l hl2 i ((hY l hl hl2 i).mp hi).1
  omega
set_option maxRecDepth 100000 in
theorem m_176 (O : Ok σ) (H : Mo σ μ ν h0) (hk : k < (σ 1 6)) (hv : v < (σ 1 2) * (σ 1 5)) (hB : BW σ W) (hY : RW7 σ k W) : ev xs d 176 0 ([.ref h0.length, .int (nI k), .int (nI v)], [], hw h0 (σ 1 6) W β T) = some (.inl (some (.int (nI (b1 ((W 7 (6 * k + k)).testBit v))))), hw h0 (σ 1 6) W β T) := by
  obtain ⟨hD1, hD2, hH1, hH2, hS, hC, hT, hR, hL, hQ⟩ := Ok_b O
  have hV := vle O
  have h1 := RW7_b hV hB hY (Nat.le_refl k) hk
  have h2 : 6 * k + k < 42 := by omega
  clear hB hY
  cases h3 : (W 7 (6 * k + k)).testBit v <;> simp (disch := first | assumption | omega | exact st8_a (Nat.le_of_ble_eq_true rfl)) only [h3, eb_176_0, eb_176_1, eb_176_2, eb_176_3, xr_1, xr_10, xr_2, xr_27, xr_28, xr_3, xr_31, xr_38, xr_4, xr_41, xr_44, xr_48, xr_5, xr_55, xt_goto, xt_ib, xt_ic, xt_ic_ne, xt_ir, xt_nop, wF_0, wF_1, wF_2, wF_3, wF_4, wF_5, wF_6, wF_7, wF_8, wF_9, wF_10, wF_11, wF_12, wF_13, wP_9, wP_10, wL_5, wC_5, wC_17, wD, hw_app, hw_len, wA_1, wA_2, wA_3, wA_4, wA_5, wA_6, wA_7, wA_8, wA_17, wW_1, wW_2, wW_3, wW_4, wW_5, wW_6, wW_7, wW_8, wW_17, mA_63 (Mo_hw H), mA_64 (Mo_hw H), mA_65 (Mo_hw H), mA_66 (Mo_hw H), mA_67 (Mo_hw H), mA_68 (Mo_hw H), mA_69 (Mo_hw H), mA_70 (Mo_hw H), mA_71 (Mo_hw H), iN_add, iN_mul, iN_sub, iN_and, iN_or, iN_clr, iN_shl, iN_shr, tb_r1, b1_z, b1_or, b1_and, b1_or0, b1_or1, b1_0or, b1_t, b1_f, iN_lt, iN_inj, reduceIte, if_true, if_false, Nat.zero_add, Nat.add_zero, Bool.false_eq_true, Bool.true_eq_false, Nat.lt_irrefl, iN_az, not_true_eq_false, not_false_eq_true, Nat.reduceEqDiff, Nat.reduceLT, Nat.reduceAdd, Nat.reduceMul, Nat.reduceSub]
-- lays
set_option maxRecDepth 100000 in
theorem m_175 (O : Ok σ) (H : Mo σ μ ν h0) (hk : k < (σ 1 6)) (hv : v < (σ 1 2) * (σ 1 5)) (hB : BW σ W) (hY : RW7 σ k W) (ht : ∀ j, j < k → W 8 j < (σ 1 2) * (σ 1 5)) : ∃ g, ∃ b : Bool, ev xs (d + 5) 175 0 ([.ref h0.length, .int (nI k), .int (nI v), .retAddr 9, .retAddr 9, .retAddr 9], [], hw h0 (σ 1 6) W β T) = some (.inl (some (.int (nI (b1 b)))), hw h0 (σ 1 6) (ur (up W 8 k v) 7 g) β T) ∧ (∀ j, j < 6 * k + 6 → g j = W 7 j) ∧ (∀ x, k < x → x < (σ 1 6) → g (6 * k + 6 + x) = W 7 (6 * k + x) &&& W 5 (wix k v x)) ∧ (b = true ↔ (∀ x, k < x → x < (σ 1 6) → g (6 * k + 6 + x) ≠ 0) ∧ ∀ y, y < (σ 1 0) → pc 10 (bus σ (σ 6 k) (u1 (W 8) k v) (k + 1) &&& dm σ y) ≤ W 6 (σ 6 k)) := by
  obtain ⟨hD1, hD2, hH1, hH2, hS, hC, hT, hR, hL, hQ⟩ := Ok_b O
  have hV := vle O
  obtain ⟨c1, c2, c3⟩ := Ok_l O hk
  obtain ⟨b0, b1', b2⟩ := hB
  have bl : ∀ x, k < x → x < (σ 1 6) → W 7 (6 * k + x) < 262144 := fun x h1 h2 => RW7_b hV ⟨b0, b1', b2⟩ hY (by omega) h2
  have key : ∀ x, x ≤ (σ 1 6) → k < x → ∀ g (c : Bool), (∀ j, j < 6 * k + 6 → g j = W 7 j) → (∀ z, k < z → z < x → g (6 * k + 6 + z) = W 7 (6 * k + z) &&& W 5 (wix k v z)) → (c = true ↔ ∀ z, k < z → z < x → g (6 * k + 6 + z) ≠ 0) → ∃ g2, ∃ c2 : Bool, ∃ y6, ev xs (d + 5) 175 1 ([.ref h0.length, .int (nI k), .int (nI v), .int (nI (6 * k)), .int (nI (b1 c)), .int (nI x)], [], hw h0 (σ 1 6) (ur (up W 8 k v) 7 g) β T) = ev xs (d + 5) 175 8 ([.ref h0.length, .int (nI k), .int (nI v), .int (nI (6 * k)), .int (nI (b1 c2)), y6], [], hw h0 (σ 1 6) (ur (up W 8 k v) 7 g2) β T) ∧ (∀ j, j < 6 * k + 6 → g2 j = W 7 j) ∧ (∀ z, k < z → z < (σ 1 6) → g2 (6 * k + 6 + z) = W 7 (6 * k + z) &&& W 5 (wix k v z)) ∧ (c2 = true ↔ ∀ z, k < z → z < (σ 1 6) → g2 (6 * k + 6 + z) ≠ 0) := by
    refine lp (σ 1 6) ?_ ?_
    · intro _ g c h1 h2 h3
      refine ⟨g, c, .int (nI (σ 1 6)), ?_, h1, h2, h3⟩
      rw [eb_175_1]
      clear h1 h2 h3 bl b1' b2 ht hY
      simp (disch := first | assumption | omega | exact st8_a (Nat.le_of_ble_eq_true rfl)) only [kl_a, kl_d, kl_f, kl_i, kl_l, kl_n, kl_r, xr_1, xr_10, xr_2, xr_27, xr_28, xr_3, xr_31, xr_32, xr_33, xr_34, xr_35, xr_36, xr_37, xr_38, xr_39, xr_4, xr_41, xr_44, xr_48, xr_5, af_0, af_1, xt_goto, xt_ib, xt_ic, xt_ic_eq, xt_ic_ge, xt_if_eq, xt_ir, xt_nop, wF_0, wF_1, wF_2, wF_3, wF_4, wF_5, wF_6, wF_7, wF_8, wF_9, wF_10, wF_11, wF_12, wF_13, wP_9, wP_10, wL_5, wC_5, wC_17, wD, hw_app, hw_len, wA_1, wA_2, wA_3, wA_4, wA_5, wA_6, wA_7, wA_8, wA_17, wW_1, wW_2, wW_3, wW_4, wW_5, wW_6, wW_7, wW_8, wW_17, mF_1 (Mo_hw H), mF_10 (Mo_hw H), mF_8 (Mo_hw H), mA_63 (Mo_hw H), mA_64 (Mo_hw H), mA_65 (Mo_hw H), mA_66 (Mo_hw H), mA_67 (Mo_hw H), mA_68 (Mo_hw H), mA_69 (Mo_hw H), mA_70 (Mo_hw H), mA_71 (Mo_hw H), xq_173_12_virtual wy_c, xq_204_63_virtualm (Mo_hw H), xq_206_63_virtualm (Mo_hw H), iN_add, iN_mul, iN_sub, iN_and, iN_or, iN_clr, iN_shl, iN_shr, tb_r1, b1_z, b1_or, b1_and, b1_or0, b1_or1, b1_0or, b1_t, b1_f, iN_lt, iN_inj, reduceIte, if_true, if_false, Nat.zero_add, Nat.add_zero, Bool.false_eq_true, Bool.true_eq_false, Nat.lt_irrefl, iN_az, not_true_eq_false, not_false_eq_true, Nat.reduceEqDiff, Nat.reduceLT, Nat.reduceAdd, Nat.reduceMul, Nat.reduceSub]
    · intro x hx ih hkx g c h1 h2 h3
      have w5 : ur (up W 8 k v) 7 g 5 = W 5 := by rw [ur_n (by decide), up_n (by decide)]
      have w7 : g (6 * k + x) = W 7 (6 * k + x) := h1 _ (by omega)
      have hb7 := bl x hkx hx
      have hb8 : W 7 (6 * k + x) &&& W 5 (wix k v x) < 262144 := Nat.lt_of_le_of_lt Nat.and_le_left hb7
      have i1 : 6 * k + 6 + x < 42 := by omega
      have i2 : 6 * k + x < 42 := by omega
      have i3 : wix k v x < 648 := by unfold wix; omega
      have nx : ∀ z, z < x → u1 g (6 * k + 6 + x) (W 7 (6 * k + x) &&& W 5 (wix k v x)) (6 * k + 6 + z) = g (6 * k + 6 + z) := fun z hz => u1_n (by omega)
      have goon : ∀ c2 : Bool, (c2 = true ↔ c = true ∧ W 7 (6 * k + x) &&& W 5 (wix k v x) ≠ 0) → _ := fun c2 hc2 => ih (by omega) (u1 g (6 * k + 6 + x) (W 7 (6 * k + x) &&& W 5 (wix k v x))) c2 (fun j hj => by rw [u1_n (by omega)]; exact h1 j hj) (fun z hz hz2 => by
        by_cases e : z = x
        · rw [e, u1_s]
        · rw [nx z (by omega)]; exact h2 z hz (by omega)) (by
        rw [hc2, h3]
        constructor
        · rintro ⟨h4, h5⟩ z hz hz2
          by_cases e : z = x
          · rw [e, u1_s]; exact h5
          · rw [nx z (by omega)]; exact h4 z hz (by omega)
        · intro h4
          refine ⟨fun z hz hz2 => ?_, ?_⟩
          · have := h4 z hz (by omega)
            rw [nx z hz2] at this
            exact this
          · have := h4 x hkx (Nat.lt_succ_self x)
            rw [u1_s] at this
            exact this)
      cases c
      · obtain ⟨g2, c2, y6, e, q⟩ := goon false ⟨fun z => (by cases z), fun z => by cases z.1⟩
        refine ⟨g2, c2, y6, ?_, q⟩
        rw [b1_f] at e
        rw [eb_175_1, b1_f]
        clear h1 h2 h3 bl b1' b2 ht hY ih goon q nx
        simp (disch := first | assumption | omega | exact st8_a (Nat.le_of_ble_eq_true rfl)) only [hx, w5, w7, m_173, ur_up, ur_s, eb_175_2, eb_175_3, eb_175_6, eb_175_7, kl_a, kl_d, kl_f, kl_i, kl_l, kl_n, kl_r, xr_1, xr_10, xr_2, xr_27, xr_28, xr_3, xr_31, xr_32, xr_33, xr_34, xr_35, xr_36, xr_37, xr_38, xr_39, xr_4, xr_41, xr_44, xr_48, xr_5, af_0, af_1, xt_goto, xt_ib, xt_ic, xt_ic_eq, xt_ic_ge, xt_if_eq, xt_ir, xt_nop, wF_0, wF_1, wF_2, wF_3, wF_4, wF_5, wF_6, wF_7, wF_8, wF_9, wF_10, wF_11, wF_12, wF_13, wP_9, wP_10, wL_5, wC_5, wC_17, wD, hw_app, hw_len, wA_1, wA_2, wA_3, wA_4, wA_5, wA_6, wA_7, wA_8, wA_17, wW_1, wW_2, wW_3, wW_4, wW_5, wW_6, wW_7, wW_8, wW_17, mF_1 (Mo_hw H), mF_10 (Mo_hw H), mF_8 (Mo_hw H), mA_63 (Mo_hw H), mA_64 (Mo_hw H), mA_65 (Mo_hw H), mA_66 (Mo_hw H), mA_67 (Mo_hw H), mA_68 (Mo_hw H), mA_69 (Mo_hw H), mA_70 (Mo_hw H), mA_71 (Mo_hw H), xq_173_12_virtual wy_c, xq_204_63_virtualm (Mo_hw H), xq_206_63_virtualm (Mo_hw H), iN_add, iN_mul, iN_sub, iN_and, iN_or, iN_clr, iN_shl, iN_shr, tb_r1, b1_z, b1_or, b1_and, b1_or0, b1_or1, b1_0or, b1_t, b1_f, iN_lt, iN_inj, reduceIte, if_true, if_false, Nat.zero_add, Nat.add_zero, Bool.false_eq_true, Bool.true_eq_false, Nat.lt_irrefl, iN_az, not_true_eq_false, not_false_eq_true, Nat.reduceEqDiff, Nat.reduceLT, Nat.reduceAdd, Nat.reduceMul, Nat.reduceSub]
        exact e
      · by_cases hz : W 7 (6 * k + x) &&& W 5 (wix k v x) = 0
        · obtain ⟨g2, c2, y6, e, q⟩ := goon false ⟨fun z => (by cases z), fun z => absurd hz z.2⟩
          refine ⟨g2, c2, y6, ?_, q⟩
          rw [b1_f] at e
          rw [eb_175_1, b1_t]
          clear h1 h2 h3 bl b1' b2 ht hY ih goon q nx
          simp (disch := first | assumption | omega | exact st8_a (Nat.le_of_ble_eq_true rfl)) only [hx, w5, w7, m_173, ur_up, ur_s, u1_s, hz, eb_175_2, eb_175_3, eb_175_4, eb_175_6, eb_175_7, kl_a, kl_d, kl_f, kl_i, kl_l, kl_n, kl_r, xr_1, xr_10, xr_2, xr_27, xr_28, xr_3, xr_31, xr_32, xr_33, xr_34, xr_35, xr_36, xr_37, xr_38, xr_39, xr_4, xr_41, xr_44, xr_48, xr_5, af_0, af_1, xt_goto, xt_ib, xt_ic, xt_ic_eq, xt_ic_ge, xt_if_eq, xt_ir, xt_nop, wF_0, wF_1, wF_2, wF_3, wF_4, wF_5, wF_6, wF_7, wF_8, wF_9, wF_10, wF_11, wF_12, wF_13, wP_9, wP_10, wL_5, wC_5, wC_17, wD, hw_app, hw_len, wA_1, wA_2, wA_3, wA_4, wA_5, wA_6, wA_7, wA_8, wA_17, wW_1, wW_2, wW_3, wW_4, wW_5, wW_6, wW_7, wW_8, wW_17, mF_1 (Mo_hw H), mF_10 (Mo_hw H), mF_8 (Mo_hw H), mA_63 (Mo_hw H), mA_64 (Mo_hw H), mA_65 (Mo_hw H), mA_66 (Mo_hw H), mA_67 (Mo_hw H), mA_68 (Mo_hw H), mA_69 (Mo_hw H), mA_70 (Mo_hw H), mA_71 (Mo_hw H), xq_173_12_virtual wy_c, xq_204_63_virtualm (Mo_hw H), xq_206_63_virtualm (Mo_hw H), iN_add, iN_mul, iN_sub, iN_and, iN_or, iN_clr, iN_shl, iN_shr, tb_r1, b1_z, b1_or, b1_and, b1_or0, b1_or1, b1_0or, b1_t, b1_f, iN_lt, iN_inj, reduceIte, if_true, if_false, Nat.zero_add, Nat.add_zero, Bool.false_eq_true, Bool.true_eq_false, Nat.lt_irrefl, iN_az, not_true_eq_false, not_false_eq_true, Nat.reduceEqDiff, Nat.reduceLT, Nat.reduceAdd, Nat.reduceMul, Nat.reduceSub]
          rw [hz] at e
          exact e
        · obtain ⟨g2, c2, y6, e, q⟩ := goon true ⟨fun _ => ⟨rfl, hz⟩, fun _ => rfl⟩
          refine ⟨g2, c2, y6, ?_, q⟩
          rw [b1_t] at e
          rw [eb_175_1, b1_t]
          clear h1 h2 h3 bl b1' b2 ht hY ih goon q nx
          simp (disch := first | assumption | omega | exact st8_a (Nat.le_of_ble_eq_true rfl)) only [hx, w5, w7, m_173, ur_up, ur_s, u1_s, hz, eb_175_2, eb_175_3, eb_175_4, eb_175_5, eb_175_7, kl_a, kl_d, kl_f, kl_i, kl_l, kl_n, kl_r, xr_1, xr_10, xr_2, xr_27, xr_28, xr_3, xr_31, xr_32, xr_33, xr_34, xr_35, xr_36, xr_37, xr_38, xr_39, xr_4, xr_41, xr_44, xr_48, xr_5, af_0, af_1, xt_goto, xt_ib, xt_ic, xt_ic_eq, xt_ic_ge, xt_if_eq, xt_ir, xt_nop, wF_0, wF_1, wF_2, wF_3, wF_4, wF_5, wF_6, wF_7, wF_8, wF_9, wF_10, wF_11, wF_12, wF_13, wP_9, wP_10, wL_5, wC_5, wC_17, wD, hw_app, hw_len, wA_1, wA_2, wA_3, wA_4, wA_5, wA_6, wA_7, wA_8, wA_17, wW_1, wW_2, wW_3, wW_4, wW_5, wW_6, wW_7, wW_8, wW_17, mF_1 (Mo_hw H), mF_10 (Mo_hw H), mF_8 (Mo_hw H), mA_63 (Mo_hw H), mA_64 (Mo_hw H), mA_65 (Mo_hw H), mA_66 (Mo_hw H), mA_67 (Mo_hw H), mA_68 (Mo_hw H), mA_69 (Mo_hw H), mA_70 (Mo_hw H), mA_71 (Mo_hw H), xq_173_12_virtual wy_c, xq_204_63_virtualm (Mo_hw H), xq_206_63_virtualm (Mo_hw H), iN_add, iN_mul, iN_sub, iN_and, iN_or, iN_clr, iN_shl, iN_shr, tb_r1, b1_z, b1_or, b1_and, b1_or0, b1_or1, b1_0or, b1_t, b1_f, iN_lt, iN_inj, reduceIte, if_true, if_false, Nat.zero_add, Nat.add_zero, Bool.false_eq_true, Bool.true_eq_false, Nat.lt_irrefl, iN_az, not_true_eq_false, not_false_eq_true, Nat.reduceEqDiff, Nat.reduceLT, Nat.reduceAdd, Nat.reduceMul, Nat.reduceSub]
          exact e
  obtain ⟨g, c, y6, e, h1, h2, h3⟩ := key (k + 1) hk (Nat.lt_succ_self k) (W 7) true (fun _ _ => rfl) (fun z h1 h2 => by omega) ⟨fun _ z h1 h2 => by omega, fun _ => rfl⟩
  rw [show ur (up W 8 k v) 7 (W 7) = up W 8 k v from by rw [show W 7 = up W 8 k v 7 from (up_n (by decide)).symm, ur_id]] at e
  have hbm : W 6 (σ 6 k) ≤ (σ 1 1) := b2 _ c2
  have w6 : ur (up W 8 k v) 7 g 6 = W 6 := by rw [ur_n (by decide), up_n (by decide)]
  have w8 : ur (up W 8 k v) 7 g 8 = u1 (W 8) k v := by rw [ur_n (by decide), up_s]
  have hst : ev xs (d + 5) 175 0 ([.ref h0.length, .int (nI k), .int (nI v), .retAddr 9, .retAddr 9, .retAddr 9], [], hw h0 (σ 1 6) W β T) = ev xs (d + 5) 175 8 ([.ref h0.length, .int (nI k), .int (nI v), .int (nI (6 * k)), .int (nI (b1 c)), y6], [], hw h0 (σ 1 6) (ur (up W 8 k v) 7 g) β T) := by
    rw [← e, b1_t]
    clear h1 h2 h3 bl b1' b2 ht hY key e w6 w8
    simp (disch := first | assumption | omega | exact st8_a (Nat.le_of_ble_eq_true rfl)) only [eb_175_0, kl_a, kl_d, kl_f, kl_i, kl_l, kl_n, kl_r, xr_1, xr_10, xr_2, xr_27, xr_28, xr_3, xr_31, xr_32, xr_33, xr_34, xr_35, xr_36, xr_37, xr_38, xr_39, xr_4, xr_41, xr_44, xr_48, xr_5, af_0, af_1, xt_goto, xt_ib, xt_ic, xt_ic_eq, xt_ic_ge, xt_if_eq, xt_ir, xt_nop, wF_0, wF_1, wF_2, wF_3, wF_4, wF_5, wF_6, wF_7, wF_8, wF_9, wF_10, wF_11, wF_12, wF_13, wP_9, wP_10, wL_5, wC_5, wC_17, wD, hw_app, hw_len, wA_1, wA_2, wA_3, wA_4, wA_5, wA_6, wA_7, wA_8, wA_17, wW_1, wW_2, wW_3, wW_4, wW_5, wW_6, wW_7, wW_8, wW_17, mF_1 (Mo_hw H), mF_10 (Mo_hw H), mF_8 (Mo_hw H), mA_63 (Mo_hw H), mA_64 (Mo_hw H), mA_65 (Mo_hw H), mA_66 (Mo_hw H), mA_67 (Mo_hw H), mA_68 (Mo_hw H), mA_69 (Mo_hw H), mA_70 (Mo_hw H), mA_71 (Mo_hw H), xq_173_12_virtual wy_c, xq_204_63_virtualm (Mo_hw H), xq_206_63_virtualm (Mo_hw H), iN_add, iN_mul, iN_sub, iN_and, iN_or, iN_clr, iN_shl, iN_shr, tb_r1, b1_z, b1_or, b1_and, b1_or0, b1_or1, b1_0or, b1_t, b1_f, iN_lt, iN_inj, reduceIte, if_true, if_false, Nat.zero_add, Nat.add_zero, Bool.false_eq_true, Bool.true_eq_false, Nat.lt_irrefl, iN_az, not_true_eq_false, not_false_eq_true, Nat.reduceEqDiff, Nat.reduceLT, Nat.reduceAdd, Nat.reduceMul, Nat.reduceSub]
  have htb : ∀ l, l < k + 1 → u1 (W 8) k v l < (σ 1 2) * (σ 1 5) := fun l hl => by
    by_cases e : l = k
    · rw [e, u1_s]; exact hv
    · rw [u1_n e]; exact ht l (by omega)
  cases c
  · refine ⟨g, false, ?_, h1, h2, ⟨fun z => (by cases z), fun z => (h3.mpr z.1)⟩⟩
    rw [hst, eb_175_8, b1_f]
    clear h1 h2 h3 bl b1' b2 ht hY key e hst htb
    simp (disch := first | assumption | omega | exact st8_a (Nat.le_of_ble_eq_true rfl)) only [eb_175_14, eb_175_15, kl_a, kl_d, kl_f, kl_i, kl_l, kl_n, kl_r, xr_1, xr_10, xr_2, xr_27, xr_28, xr_3, xr_31, xr_32, xr_33, xr_34, xr_35, xr_36, xr_37, xr_38, xr_39, xr_4, xr_41, xr_44, xr_48, xr_5, af_0, af_1, xt_goto, xt_ib, xt_ic, xt_ic_eq, xt_ic_ge, xt_if_eq, xt_ir, xt_nop, wF_0, wF_1, wF_2, wF_3, wF_4, wF_5, wF_6, wF_7, wF_8, wF_9, wF_10, wF_11, wF_12, wF_13, wP_9, wP_10, wL_5, wC_5, wC_17, wD, hw_app, hw_len, wA_1, wA_2, wA_3, wA_4, wA_5, wA_6, wA_7, wA_8, wA_17, wW_1, wW_2, wW_3, wW_4, wW_5, wW_6, wW_7, wW_8, wW_17, mF_1 (Mo_hw H), mF_10 (Mo_hw H), mF_8 (Mo_hw H), mA_63 (Mo_hw H), mA_64 (Mo_hw H), mA_65 (Mo_hw H), mA_66 (Mo_hw H), mA_67 (Mo_hw H), mA_68 (Mo_hw H), mA_69 (Mo_hw H), mA_70 (Mo_hw H), mA_71 (Mo_hw H), xq_173_12_virtual wy_c, xq_204_63_virtualm (Mo_hw H), xq_206_63_virtualm (Mo_hw H), iN_add, iN_mul, iN_sub, iN_and, iN_or, iN_clr, iN_shl, iN_shr, tb_r1, b1_z, b1_or, b1_and, b1_or0, b1_or1, b1_0or, b1_t, b1_f, iN_lt, iN_inj, reduceIte, if_true, if_false, Nat.zero_add, Nat.add_zero, Bool.false_eq_true, Bool.true_eq_false, Nat.lt_irrefl, iN_az, not_true_eq_false, not_false_eq_true, Nat.reduceEqDiff, Nat.reduceLT, Nat.reduceAdd, Nat.reduceMul, Nat.reduceSub]
  · have h33 := h3.mp rfl
    by_cases hm : W 6 (σ 6 k) = (σ 1 1)
    · refine ⟨g, true, ?_, h1, h2, ⟨fun _ => ⟨h33, fun y hy => by rw [hm]; exact pc_dm O _ hy⟩, fun _ => rfl⟩⟩
      rw [hst, eb_175_8, b1_t]
      clear h1 h2 h3 bl b1' b2 ht hY key e hst htb h33
      simp (disch := first | assumption | omega | exact st8_a (Nat.le_of_ble_eq_true rfl)) only [w6, eq_true hm, eb_175_9, eb_175_13, eb_175_15, kl_a, kl_d, kl_f, kl_i, kl_l, kl_n, kl_r, xr_1, xr_10, xr_2, xr_27, xr_28, xr_3, xr_31, xr_32, xr_33, xr_34, xr_35, xr_36, xr_37, xr_38, xr_39, xr_4, xr_41, xr_44, xr_48, xr_5, af_0, af_1, xt_goto, xt_ib, xt_ic, xt_ic_eq, xt_ic_ge, xt_if_eq, xt_ir, xt_nop, wF_0, wF_1, wF_2, wF_3, wF_4, wF_5, wF_6, wF_7, wF_8, wF_9, wF_10, wF_11, wF_12, wF_13, wP_9, wP_10, wL_5, wC_5, wC_17, wD, hw_app, hw_len, wA_1, wA_2, wA_3, wA_4, wA_5, wA_6, wA_7, wA_8, wA_17, wW_1, wW_2, wW_3, wW_4, wW_5, wW_6, wW_7, wW_8, wW_17, mF_1 (Mo_hw H), mF_10 (Mo_hw H), mF_8 (Mo_hw H), mA_63 (Mo_hw H), mA_64 (Mo_hw H), mA_65 (Mo_hw H), mA_66 (Mo_hw H), mA_67 (Mo_hw H), mA_68 (Mo_hw H), mA_69 (Mo_hw H), mA_70 (Mo_hw H), mA_71 (Mo_hw H), xq_173_12_virtual wy_c, xq_204_63_virtualm (Mo_hw H), xq_206_63_virtualm (Mo_hw H), iN_add, iN_mul, iN_sub, iN_and, iN_or, iN_clr, iN_shl, iN_shr, tb_r1, b1_z, b1_or, b1_and, b1_or0, b1_or1, b1_0or, b1_t, b1_f, iN_lt, iN_inj, reduceIte, if_true, if_false, Nat.zero_add, Nat.add_zero, Bool.false_eq_true, Bool.true_eq_false, Nat.lt_irrefl, iN_az, not_true_eq_false, not_false_eq_true, Nat.reduceEqDiff, Nat.reduceLT, Nat.reduceAdd, Nat.reduceMul, Nat.reduceSub]
    · have hq8 : (hw h0 (σ 1 6) (ur (up W 8 k v) 7 g) β T)[h0.length + 8]? = some (oI (ar (σ 1 6) (u1 (W 8) k v))) := by
        rw [hw_k (by decide)]
        show some (oI (ar (σ 1 6) (ur (up W 8 k v) 7 g 8))) = _
        rw [w8]
      have e1 := m_204 (xs := xs) (d := d + 1) (u := σ 6 k) O (Mo_hw (nn := (σ 1 6)) (W := ur (up W 8 k v) 7 g) (β := β) (T := T) H) hq8 hL (show k + 1 ≤ (σ 1 6) by omega) (show k + 1 ≤ (σ 1 6) by omega) htb (by omega)
      have hbl : bus σ (σ 6 k) (u1 (W 8) k v) (k + 1) < 64 := bus_lt O (by omega) htb
      have e2 := m_206 (xs := xs) (d := d + 3) (v := W 6 (σ 6 k)) O (Mo_hw (nn := (σ 1 6)) (W := ur (up W 8 k v) 7 g) (β := β) (T := T) H) hbl (by omega)
      have e3 : ∀ b, (al (σ 1 0) fun y => decide (pc 10 (bus σ (σ 6 k) (u1 (W 8) k v) (k + 1) &&& dm σ y) ≤ W 6 (σ 6 k))) = b → (b = true ↔ ∀ y, y < (σ 1 0) → pc 10 (bus σ (σ 6 k) (u1 (W 8) k v) (k + 1) &&& dm σ y) ≤ W 6 (σ 6 k)) := fun b hb => by
        rw [← hb, al_t]
        simp only [decide_eq_true_eq]
      cases hal : (al (σ 1 0) fun y => decide (pc 10 (bus σ (σ 6 k) (u1 (W 8) k v) (k + 1) &&& dm σ y) ≤ W 6 (σ 6 k)))
      · refine ⟨g, false, ?_, h1, h2, ⟨fun z => (by cases z), fun z => (e3 _ hal).mpr z.2⟩⟩
        rw [hal] at e2
        rw [hst, eb_175_8, b1_t]
        clear h1 h2 h3 bl b1' b2 ht hY key e hst htb h33 e3 hal
        simp (disch := first | assumption | omega | exact st8_a (Nat.le_of_ble_eq_true rfl)) only [w6, hm, e1, e2, eb_175_9, eb_175_10, eb_175_11, eb_175_12, eb_175_14, eb_175_15, kl_a, kl_d, kl_f, kl_i, kl_l, kl_n, kl_r, xr_1, xr_10, xr_2, xr_27, xr_28, xr_3, xr_31, xr_32, xr_33, xr_34, xr_35, xr_36, xr_37, xr_38, xr_39, xr_4, xr_41, xr_44, xr_48, xr_5, af_0, af_1, xt_goto, xt_ib, xt_ic, xt_ic_eq, xt_ic_ge, xt_if_eq, xt_ir, xt_nop, wF_0, wF_1, wF_2, wF_3, wF_4, wF_5, wF_6, wF_7, wF_8, wF_9, wF_10, wF_11, wF_12, wF_13, wP_9, wP_10, wL_5, wC_5, wC_17, wD, hw_app, hw_len, wA_1, wA_2, wA_3, wA_4, wA_5, wA_6, wA_7, wA_8, wA_17, wW_1, wW_2, wW_3, wW_4, wW_5, wW_6, wW_7, wW_8, wW_17, mF_1 (Mo_hw H), mF_10 (Mo_hw H), mF_8 (Mo_hw H), mA_63 (Mo_hw H), mA_64 (Mo_hw H), mA_65 (Mo_hw H), mA_66 (Mo_hw H), mA_67 (Mo_hw H), mA_68 (Mo_hw H), mA_69 (Mo_hw H), mA_70 (Mo_hw H), mA_71 (Mo_hw H), xq_173_12_virtual wy_c, xq_204_63_virtualm (Mo_hw H), xq_206_63_virtualm (Mo_hw H), iN_add, iN_mul, iN_sub, iN_and, iN_or, iN_clr, iN_shl, iN_shr, tb_r1, b1_z, b1_or, b1_and, b1_or0, b1_or1, b1_0or, b1_t, b1_f, iN_lt, iN_inj, reduceIte, if_true, if_false, Nat.zero_add, Nat.add_zero, Bool.false_eq_true, Bool.true_eq_false, Nat.lt_irrefl, iN_az, not_true_eq_false, not_false_eq_true, Nat.reduceEqDiff, Nat.reduceLT, Nat.reduceAdd, Nat.reduceMul, Nat.reduceSub]
      · refine ⟨g, true, ?_, h1, h2, ⟨fun _ => ⟨h33, (e3 _ hal).mp rfl⟩, fun _ => rfl⟩⟩
        rw [hal] at e2
        rw [hst, eb_175_8, b1_t]
        clear h1 h2 h3 bl b1' b2 ht hY key e hst htb h33 e3 hal
        simp (disch := first | assumption | omega | exact st8_a (Nat.le_of_ble_eq_true rfl)) only [w6, hm, e1, e2, eb_175_9, eb_175_10, eb_175_11, eb_175_12, eb_175_13, eb_175_15, kl_a, kl_d, kl_f, kl_i, kl_l, kl_n, kl_r, xr_1, xr_10, xr_2, xr_27, xr_28, xr_3, xr_31, xr_32, xr_33, xr_34, xr_35, xr_36, xr_37, xr_38, xr_39, xr_4, xr_41, xr_44, xr_48, xr_5, af_0, af_1, xt_goto, xt_ib, xt_ic, xt_ic_eq, xt_ic_ge, xt_if_eq, xt_ir, xt_nop, wF_0, wF_1, wF_2, wF_3, wF_4, wF_5, wF_6, wF_7, wF_8, wF_9, wF_10, wF_11, wF_12, wF_13, wP_9, wP_10, wL_5, wC_5, wC_17, wD, hw_app, hw_len, wA_1, wA_2, wA_3, wA_4, wA_5, wA_6, wA_7, wA_8, wA_17, wW_1, wW_2, wW_3, wW_4, wW_5, wW_6, wW_7, wW_8, wW_17, mF_1 (Mo_hw H), mF_10 (Mo_hw H), mF_8 (Mo_hw H), mA_63 (Mo_hw H), mA_64 (Mo_hw H), mA_65 (Mo_hw H), mA_66 (Mo_hw H), mA_67 (Mo_hw H), mA_68 (Mo_hw H), mA_69 (Mo_hw H), mA_70 (Mo_hw H), mA_71 (Mo_hw H), xq_173_12_virtual wy_c, xq_204_63_virtualm (Mo_hw H), xq_206_63_virtualm (Mo_hw H), iN_add, iN_mul, iN_sub, iN_and, iN_or, iN_clr, iN_shl, iN_shr, tb_r1, b1_z, b1_or, b1_and, b1_or0, b1_or1, b1_0or, b1_t, b1_f, iN_lt, iN_inj, reduceIte, if_true, if_false, Nat.zero_add, Nat.add_zero, Bool.false_eq_true, Bool.true_eq_false, Nat.lt_irrefl, iN_az, not_true_eq_false, not_false_eq_true, Nat.reduceEqDiff, Nat.reduceLT, Nat.reduceAdd, Nat.reduceMul, Nat.reduceSub]
-- a step of a search: a value of lesson k
set_option maxRecDepth 100000 in
theorem w_st (O : Ok σ) (H : Mo σ μ ν h0) (hk : k < (σ 1 6)) (hv : v < (σ 1 2) * (σ 1 5)) (hB : BW σ W) (hY : RW7 σ k W) (hP : PA σ W k (W 8)) : ∃ h : Bool, (∀ d, ev xs d 176 0 ([.ref h0.length, .int (nI k), .int (nI v)], [], hw h0 (σ 1 6) W β T) = some (.inl (some (.int (nI (b1 h)))), hw h0 (σ 1 6) W β T)) ∧ (h = false → ∀ t, PA σ W (σ 1 6) t → AT k t (W 8) → t k ≠ v) ∧ (h = true → ∃ N, ∃ b : Bool, (∀ d, ev xs (d + 5) 175 0 ([.ref h0.length, .int (nI k), .int (nI v), .retAddr 9, .retAddr 9, .retAddr 9], [], hw h0 (σ 1 6) W β T) = some (.inl (some (.int (nI (b1 b)))), hw h0 (σ 1 6) N β T)) ∧ FW k W N ∧ N 8 = u1 (W 8) k v ∧ (b = false → ∀ t, PA σ W (σ 1 6) t → AT k t (W 8) → t k ≠ v) ∧ (b = true → PA σ N (k + 1) (N 8) ∧ RW7 σ (k + 1) N ∧ ∀ x, k < x → x < (σ 1 6) → N 7 (6 * (k + 1) + x) ≠ 0)) := by
  obtain ⟨hD1, hD2, hH1, hH2, hS, hC, hT, hR, hL, hQ⟩ := Ok_b O
  have hV := vle O
  refine ⟨_, fun d => m_176 O H hk hv hB hY, fun h t hPt hA hv2 => ?_, fun h => ?_⟩
  · rw [← Bool.not_eq_true, hY k (Nat.le_refl k) hk v] at h
    obtain ⟨h1, h2, h3, h4⟩ := hPt k hk
    rw [hv2] at h2 h3
    exact h ⟨h2, fun j hj => by rw [← hA j hj]; exact h3 j hj⟩
  · have h1 := (hY k (Nat.le_refl k) hk v).mp h
    obtain ⟨g, b, e, g1, g2, g3⟩ := m_175 (xs := xs) (d := 0) (β := β) (T := T) O H hk hv hB hY (fun j hj => (hP j hj).1)
    obtain ⟨N, hN⟩ : ∃ N, ur (up W 8 k v) 7 g = N := ⟨_, rfl⟩
    rw [hN] at e
    have n7 : N 7 = g := by rw [← hN, ur_s]
    have n8 : N 8 = u1 (W 8) k v := by rw [← hN, ur_n (by decide), up_s]
    have nf : FW k W N := ⟨fun b h7 h8 => by rw [← hN, ur_n h7, up_n h8], fun j hj => by rw [n7]; exact g1 j hj, fun j hj => by rw [n8]; exact u1_n (by omega)⟩
    have hP8 : PA σ W k (N 8) := PA_cg (fun j hj => by rw [n8, u1_n (by omega)]) hP
    have n5 : N 5 = W 5 := nf.1 5 (by decide) (by decide)
    have n6 : N 6 = W 6 := nf.1 6 (by decide) (by decide)
    refine ⟨N, b, fun d => ev_mono e (by omega), nf, n8, fun hb t hPt hA hv2 => ?_, fun hb => ?_⟩
    · rw [← Bool.not_eq_true, g3] at hb
      have htk : AT (k + 1) (u1 (W 8) k v) t := fun j hj => by
        by_cases e : j = k
        · rw [e, u1_s, hv2]
        · rw [u1_n e, hA j (by omega)]
      refine hb ⟨fun x hx hxl hz => ?_, fun y hy => ?_⟩
      · obtain ⟨p1, p2, p3, p4⟩ := hPt x hxl
        have h5 : (W 7 (6 * k + x)).testBit (t x) = true := (hY x (by omega) hxl (t x)).mpr ⟨p2, fun j hj => by rw [← hA j hj]; exact p3 j (by omega)⟩
        have h6 := p3 k hx
        rw [hv2] at h6
        have h7 := z_tb.mp ((g2 x hx hxl).symm.trans hz) (t x)
        rw [Nat.testBit_and, h5, h6] at h7
        cases h7
      · rw [bus_cg htk]
        exact (hPt k hk).2.2.2 y hy
    · obtain ⟨g4, g5⟩ := g3.mp hb
      refine ⟨fun j hj => ?_, fun l hl hl2 w => ?_, fun x hx hxl => ?_⟩
      · by_cases e : j = k
        · subst e
          rw [n5, n6, n8, u1_s]
          refine ⟨hv, by rw [n7, g1 j (by omega)]; exact h1.1, fun i hi => by rw [u1_n (by omega)]; exact h1.2 i hi, g5⟩
        · have := hP8 j (by omega)
          rw [n5, n6, n7, g1 j (by omega)]
          exact this
      · rw [n5, n7, n8, show 6 * (k + 1) + l = 6 * k + 6 + l by omega, g2 l (by omega) hl2, g1 l (by omega), Nat.testBit_and, Bool.and_eq_true, hY l (by omega) hl2 w]
        constructor
        · rintro ⟨⟨q1, q2⟩, q3⟩
          refine ⟨q1, fun j hj => ?_⟩
          by_cases e : j = k
          · rw [e, u1_s]; exact q3
          · rw [u1_n e]; exact q2 j (by omega)
        · rintro ⟨q1, q2⟩
          refine ⟨⟨q1, fun j hj => ?_⟩, ?_⟩
          · have := q2 j (by omega)
            rw [u1_n (by omega)] at this
            exact this
          · have := q2 k (Nat.lt_succ_self k)
            rw [u1_s] at this
            exact this
      · rw [n7, show 6 * (k + 1) + x = 6 * k + 6 + x by omega]
        exact g4 x hx hxl
end Wyd
