/-! THE MODEL: what is left, by pairs -/
/-- the values of a lesson in the other order of bits -/
def Cv (σ : Nat → Nat → Nat) (X : Nat → Nat) (l : Nat) : Nat := en 18 fun i => decide (i % 3 < (σ 1 5)) && (X l).testBit (i / 3 * (σ 1 5) + i % 3)
/-- the stable families -/
def TS (σ : Nat → Nat → Nat) (X : Nat → Nat) : Prop := SS σ (Cv σ X) ∧ ∀ l, l < (σ 1 6) → ∀ v, (X l).testBit v = true → v < (σ 1 2) * (σ 1 5)
def PTv (σ : Nat → Nat → Nat) (Y : Nat → Nat) (l v : Nat) : Prop := (Y l).testBit v = true → ∀ o, o < (σ 1 6) → o ≠ l → ∃ w, (Y o).testBit w = true ∧ okp σ (alr σ) (σ 1 7) l v o w
def PT (σ : Nat → Nat → Nat) (Y : Nat → Nat) : Prop := ∀ l, l < (σ 1 6) → ∀ v, v < (σ 1 2) * (σ 1 5) → PTv σ Y l v
section Nra
variable {xs : List Int32} {d n m m2 : Nat} {hs : List (Nat × Nat)} {tt : ab_T} {rr : List ab_I} {qq : Nat × Nat × Nat} {Lc st : List Value} {h h0 T : ab_H} {σ W N K : Nat → Nat → Nat} {μ : Nat → Nat} {ν : Nat → Value} {β : Value} {a b u k v w x y q set l i t B nn o s r : Nat} {f g X Y Z : Nat → Nat} {c : ab_O}
set_option maxRecDepth 100000 in
theorem hT_ld (hk : k < B) (hB : B ≤ 100000) : rt xs d m2 hs tt ((.iaload, qq) :: rr) (Lc, .int (nI k) :: .ref (h0.length + 18) :: st, hw h0 nn W β [oI (ar B f)]) = rt xs d m2 hs tt rr (Lc, .int (nI (f k)) :: st, hw h0 nn W β [oI (ar B f)]) := q_ia (hw_T (i := 0)) hk (by omega)
set_option maxRecDepth 100000 in
theorem Cv_tb : (Cv σ X l).testBit i = true ↔ i < 18 ∧ i % 3 < (σ 1 5) ∧ (X l).testBit (i / 3 * (σ 1 5) + i % 3) = true := by
  unfold Cv
  rw [en_tb, Bool.and_eq_true, decide_eq_true_eq, Bool.and_eq_true, decide_eq_true_eq]
set_option maxRecDepth 100000 in
theorem Cv_b (O : Ok σ) (hs : s < (σ 1 2)) (hr : r < (σ 1 5)) : (Cv σ X l).testBit (s * 3 + r) = true ↔ (X l).testBit (s * (σ 1 5) + r) = true := by
  obtain ⟨hD1, hD2, hH1, hH2, hS, hC, hT, hR, hL, hQ⟩ := Ok_b O
  rw [Cv_tb, show (s * 3 + r) % 3 = r by omega, show (s * 3 + r) / 3 = s by omega]
  exact ⟨fun h => h.2.2, fun h => ⟨by omega, hr, h⟩⟩
set_option maxRecDepth 100000 in
theorem Cv_v (O : Ok σ) (hv : v < (σ 1 2) * (σ 1 5)) : (Cv σ X l).testBit (v / (σ 1 5) * 3 + v % (σ 1 5)) = true ↔ (X l).testBit v = true := by
  have h := vb O hv
  rw [Cv_b O h.2.1 h.2.2.1, Nat.div_add_mod']
set_option maxRecDepth 100000 in
theorem Cv_sub (O : Ok σ) (h : Su σ X Y) : Su σ (Cv σ X) (Cv σ Y) := fun l hl i hi => by
  obtain ⟨h1, h2, h3⟩ := Cv_tb.mp hi
  exact Cv_tb.mpr ⟨h1, h2, h l hl _ h3⟩
set_option maxRecDepth 100000 in
theorem alr_b (hq : q < (σ 1 7)) : (alr σ).testBit q = true := by
  unfold alr
  rw [Nat.one_shiftLeft, Nat.testBit_two_pow_sub_one]
  exact decide_eq_true hq
set_option maxRecDepth 100000 in
theorem cl2_0 : cl2 σ l u o v = 0 ↔ ((sc σ l o = false ∧ stc σ l o = false) ∨ cov σ l (u / (σ 1 5)) &&& cov σ o (v / (σ 1 5)) = 0) ∧ (cov σ l (u / (σ 1 5)) &&& cov σ o (v / (σ 1 5)) ≠ 0 → u % (σ 1 5) ≠ v % (σ 1 5)) := by
  unfold cl2
  by_cases h : cov σ l (u / (σ 1 5)) &&& cov σ o (v / (σ 1 5)) = 0
  · rw [if_pos h]
    exact ⟨fun _ => ⟨.inr h, fun z => absurd h z⟩, fun _ => rfl⟩
  · rw [if_neg h]
    cases h1 : sc σ l o
    · cases h2 : stc σ l o
      · by_cases h3 : u % (σ 1 5) = v % (σ 1 5)
        · rw [decide_eq_true h3]
          exact ⟨fun z => by simp [b1_f, b1_t] at z, fun z => absurd h3 (z.2 h)⟩
        · rw [decide_eq_false h3]
          exact ⟨fun _ => ⟨.inl ⟨rfl, rfl⟩, fun _ => h3⟩, fun _ => rfl⟩
      · refine ⟨fun z => by simp [b1_f, b1_t] at z, fun z => ?_⟩
        rcases z.1 with z | z
        · cases z.2
        · exact absurd z h
    · refine ⟨fun z => by simp [b1_t] at z, fun z => ?_⟩
      rcases z.1 with z | z
      · cases z.1
      · exact absurd z h
set_option maxRecDepth 100000 in
theorem f0_okp (O : Ok σ) (hu : u < (σ 1 2) * (σ 1 5)) (hv : v < (σ 1 2) * (σ 1 5)) : okp σ (alr σ) (σ 1 7) l u o v ↔ f0 σ (alr σ) (σ 1 7) l (u / (σ 1 5)) o (v / (σ 1 5)) ∧ (cov σ l (u / (σ 1 5)) &&& cov σ o (v / (σ 1 5)) ≠ 0 → u % (σ 1 5) ≠ v % (σ 1 5)) := by
  unfold okp f0
  rw [cl2_0]
  constructor
  · rintro ⟨-, ⟨h1, h2⟩, h3⟩
    exact ⟨⟨h1, h3⟩, h2⟩
  · rintro ⟨⟨h1, h3⟩, h2⟩
    exact ⟨hv, ⟨h1, h2⟩, h3⟩
set_option maxRecDepth 100000 in
theorem TS_PT (O : Ok σ) (hX : TS σ X) : PT σ X := by
  obtain ⟨hD1, hD2, hH1, hH2, hS, hC, hT, hR, hL, hQ⟩ := Ok_b O
  intro l hl v hv hx o ho hne
  obtain ⟨v1, v2, v3, v4, v5⟩ := vb O hv
  obtain ⟨i, h1, h2, r2, h3, h4, h5⟩ := hX.1.2.1 l hl (v / (σ 1 5)) v2 (v % (σ 1 5)) v3 ((Cv_v O hv).mpr hx) o ho hne
  obtain ⟨-, h6, h7⟩ := Cv_tb.mp h4
  rw [show (i * 3 + r2) % 3 = r2 by omega] at h6 h7
  rw [show (i * 3 + r2) / 3 = i by omega] at h7
  have hd : (i * (σ 1 5) + r2) / (σ 1 5) = i := by rw [Nat.mul_comm, Nat.mul_add_div v4, Nat.div_eq_of_lt h6, Nat.add_zero]
  have hm : (i * (σ 1 5) + r2) % (σ 1 5) = r2 := by rw [Nat.mul_comm, Nat.mul_add_mod, Nat.mod_eq_of_lt h6]
  have hw := hX.2 o ho _ h7
  refine ⟨i * (σ 1 5) + r2, h7, (f0_okp O hv hw).mpr ⟨by rw [hd]; exact h2, fun hc => ?_⟩⟩
  rw [hd] at hc
  rw [hm]
  exact (h5 hc).symm
-- by pairs
set_option maxRecDepth 100000 in
theorem m_220 (O : Ok σ) (H : Mo σ μ ν h0) (hW0 : W 0 0 = (σ 1 2) * (σ 1 5)) (h5 : ∀ a b u, a < (σ 1 6) → b < (σ 1 6) → a ≠ b → u < (σ 1 2) * (σ 1 5) → ∀ v, (W 5 (wix a u b)).testBit v = true ↔ okp σ (alr σ) (σ 1 7) a u b v) (hY : ∀ l, l < (σ 1 6) → Y l < 262144) : ∃ Z b, ev xs (d + 3) 220 0 ([.ref 62, .ref h0.length, .ref (h0.length + 18), .retAddr 9, .retAddr 9, .retAddr 9, .retAddr 9, .retAddr 9], [], hw h0 (σ 1 6) W β [oI (ar 6 Y)]) = some (.inl (some (.int (nI (b1 b)))), hw h0 (σ 1 6) W β [oI (ar 6 Z)]) ∧ DR σ (TS σ) Y Z b ∧ (b = false → PT σ Y) := by
  obtain ⟨hD1, hD2, hH1, hH2, hS, hC, hT, hR, hL, hQ⟩ := Ok_b O
  have hV := vle O
  -- whether a value can stand
  have k3 : ∀ l, l < (σ 1 6) → ∀ v, v < (σ 1 2) * (σ 1 5) → ∀ (Y : Nat → Nat) {y3 : Int32}, ∀ o, o ≤ (σ 1 6) → ∀ c : Bool, (c = true ↔ ∀ x, x < o → x ≠ l → W 5 (wix l v x) &&& Y x ≠ 0) → ∃ c2 : Bool, ev xs (d + 3) 220 5 ([.ref 62, .ref h0.length, .ref (h0.length + 18), .int y3, .int (nI l), .int (nI v), .int (nI (b1 c)), .int (nI o)], [], hw h0 (σ 1 6) W β [oI (ar 6 Y)]) = ev xs (d + 3) 220 13 ([.ref 62, .ref h0.length, .ref (h0.length + 18), .int y3, .int (nI l), .int (nI v), .int (nI (b1 c2)), .int (nI (σ 1 6))], [], hw h0 (σ 1 6) W β [oI (ar 6 Y)]) ∧ (c2 = true ↔ ∀ x, x < (σ 1 6) → x ≠ l → W 5 (wix l v x) &&& Y x ≠ 0) := by
    intro l hl v hv Y y3
    refine lp (σ 1 6) ?_ ?_
    · intro c hc
      refine ⟨c, ?_, hc⟩
      rw [eb_220_5]
      clear hc h5 hY
      simp (disch := first | assumption | omega | exact st8_a (Nat.le_of_ble_eq_true rfl)) only [kl_a, kl_d, kl_f, kl_i, kl_l, kl_n, kl_r, xr_1, xr_10, xr_11, xr_12, xr_13, xr_14, xr_15, xr_16, xr_17, xr_18, xr_19, xr_2, xr_20, xr_27, xr_3, xr_32, xr_33, xr_34, xr_35, xr_36, xr_37, xr_39, xr_4, xr_40, xr_44, xr_5, xr_55, xr_56, xr_57, xr_58, xr_61, xr_62, xr_64, xr_74, xr_75, xr_98, af_0, af_1, xt_goto, xt_ib, xt_ic, xt_ic_eq, xt_ic_ge, xt_ic_ne, xt_if_eq, xt_if_ne, xt_ir, xt_nop, wF_0, wF_1, wF_2, wF_3, wF_4, wF_5, wF_6, wF_7, wF_8, wF_9, wF_10, wF_11, wF_12, wF_13, wP_9, wP_10, wL_5, wC_5, wC_17, wD, hw_app, hw_len, wA_1, wA_2, wA_3, wA_4, wA_5, wA_6, wA_7, wA_8, wA_17, wW_1, wW_2, wW_3, wW_4, wW_5, wW_6, wW_7, wW_8, wW_17, mF_8 (Mo_hw H), mA_63 (Mo_hw H), mA_64 (Mo_hw H), mA_65 (Mo_hw H), mA_66 (Mo_hw H), mA_67 (Mo_hw H), mA_68 (Mo_hw H), mA_69 (Mo_hw H), mA_70 (Mo_hw H), mA_71 (Mo_hw H), xq_173_62_virtual wy_c, iN_add, iN_mul, iN_sub, iN_and, iN_or, iN_clr, iN_shl, iN_shr, tb_r1, b1_z, b1_or, b1_and, b1_or0, b1_or1, b1_0or, b1_t, b1_f, iN_lt, iN_inj, reduceIte, if_true, if_false, Nat.zero_add, Nat.add_zero, Bool.false_eq_true, Bool.true_eq_false, Nat.lt_irrefl, iN_az, not_true_eq_false, not_false_eq_true, Nat.reduceEqDiff, Nat.reduceLT, Nat.reduceAdd, Nat.reduceMul, Nat.reduceSub]
    · intro o ho ih c hc
      have hix : wix l v o < 648 := by unfold wix; omega
      cases c
      · obtain ⟨c2, e, q⟩ := ih false ⟨fun z => (by cases z), fun z => hc.mpr fun x hx => z x (by omega)⟩
        refine ⟨c2, ?_, q⟩
        rw [b1_f] at e
        rw [eb_220_5, b1_f]
        clear hc h5 hY ih q
        simp (disch := first | assumption | omega | exact st8_a (Nat.le_of_ble_eq_true rfl)) only [ho, eb_220_6, eb_220_11, eb_220_12, kl_a, kl_d, kl_f, kl_i, kl_l, kl_n, kl_r, xr_1, xr_10, xr_11, xr_12, xr_13, xr_14, xr_15, xr_16, xr_17, xr_18, xr_19, xr_2, xr_20, xr_27, xr_3, xr_32, xr_33, xr_34, xr_35, xr_36, xr_37, xr_39, xr_4, xr_40, xr_44, xr_5, xr_55, xr_56, xr_57, xr_58, xr_61, xr_62, xr_64, xr_74, xr_75, xr_98, af_0, af_1, xt_goto, xt_ib, xt_ic, xt_ic_eq, xt_ic_ge, xt_ic_ne, xt_if_eq, xt_if_ne, xt_ir, xt_nop, wF_0, wF_1, wF_2, wF_3, wF_4, wF_5, wF_6, wF_7, wF_8, wF_9, wF_10, wF_11, wF_12, wF_13, wP_9, wP_10, wL_5, wC_5, wC_17, wD, hw_app, hw_len, wA_1, wA_2, wA_3, wA_4, wA_5, wA_6, wA_7, wA_8, wA_17, wW_1, wW_2, wW_3, wW_4, wW_5, wW_6, wW_7, wW_8, wW_17, mF_8 (Mo_hw H), mA_63 (Mo_hw H), mA_64 (Mo_hw H), mA_65 (Mo_hw H), mA_66 (Mo_hw H), mA_67 (Mo_hw H), mA_68 (Mo_hw H), mA_69 (Mo_hw H), mA_70 (Mo_hw H), mA_71 (Mo_hw H), xq_173_62_virtual wy_c, iN_add, iN_mul, iN_sub, iN_and, iN_or, iN_clr, iN_shl, iN_shr, tb_r1, b1_z, b1_or, b1_and, b1_or0, b1_or1, b1_0or, b1_t, b1_f, iN_lt, iN_inj, reduceIte, if_true, if_false, Nat.zero_add, Nat.add_zero, Bool.false_eq_true, Bool.true_eq_false, Nat.lt_irrefl, iN_az, not_true_eq_false, not_false_eq_true, Nat.reduceEqDiff, Nat.reduceLT, Nat.reduceAdd, Nat.reduceMul, Nat.reduceSub]
        exact e
      · have hc := hc.mp rfl
        by_cases e1 : l = o
        · obtain ⟨c2, e, q⟩ := ih true ⟨fun _ x hx hxl => hc x (by omega) hxl, fun _ => rfl⟩
          refine ⟨c2, ?_, q⟩
          rw [b1_t] at e
          rw [eb_220_5, b1_t]
          clear hc h5 hY ih q
          simp (disch := first | assumption | omega | exact st8_a (Nat.le_of_ble_eq_true rfl)) only [ho, eq_true e1, eb_220_6, eb_220_7, eb_220_10, eb_220_12, kl_a, kl_d, kl_f, kl_i, kl_l, kl_n, kl_r, xr_1, xr_10, xr_11, xr_12, xr_13, xr_14, xr_15, xr_16, xr_17, xr_18, xr_19, xr_2, xr_20, xr_27, xr_3, xr_32, xr_33, xr_34, xr_35, xr_36, xr_37, xr_39, xr_4, xr_40, xr_44, xr_5, xr_55, xr_56, xr_57, xr_58, xr_61, xr_62, xr_64, xr_74, xr_75, xr_98, af_0, af_1, xt_goto, xt_ib, xt_ic, xt_ic_eq, xt_ic_ge, xt_ic_ne, xt_if_eq, xt_if_ne, xt_ir, xt_nop, wF_0, wF_1, wF_2, wF_3, wF_4, wF_5, wF_6, wF_7, wF_8, wF_9, wF_10, wF_11, wF_12, wF_13, wP_9, wP_10, wL_5, wC_5, wC_17, wD, hw_app, hw_len, wA_1, wA_2, wA_3, wA_4, wA_5, wA_6, wA_7, wA_8, wA_17, wW_1, wW_2, wW_3, wW_4, wW_5, wW_6, wW_7, wW_8, wW_17, mF_8 (Mo_hw H), mA_63 (Mo_hw H), mA_64 (Mo_hw H), mA_65 (Mo_hw H), mA_66 (Mo_hw H), mA_67 (Mo_hw H), mA_68 (Mo_hw H), mA_69 (Mo_hw H), mA_70 (Mo_hw H), mA_71 (Mo_hw H), xq_173_62_virtual wy_c, iN_add, iN_mul, iN_sub, iN_and, iN_or, iN_clr, iN_shl, iN_shr, tb_r1, b1_z, b1_or, b1_and, b1_or0, b1_or1, b1_0or, b1_t, b1_f, iN_lt, iN_inj, reduceIte, if_true, if_false, Nat.zero_add, Nat.add_zero, Bool.false_eq_true, Bool.true_eq_false, Nat.lt_irrefl, iN_az, not_true_eq_false, not_false_eq_true, Nat.reduceEqDiff, Nat.reduceLT, Nat.reduceAdd, Nat.reduceMul, Nat.reduceSub]
          exact e
        · have hb5 : W 5 (wix l v o) < 262144 := b18 hV (h5 l o v hl ho e1 hv) fun w hw => hw.1
          by_cases hz : W 5 (wix l v o) &&& Y o = 0
          · obtain ⟨c2, e, q⟩ := ih false ⟨fun z => (by cases z), fun z => absurd hz (z o (Nat.lt_succ_self o) (Ne.symm e1))⟩
            refine ⟨c2, ?_, q⟩
            rw [b1_f] at e
            rw [eb_220_5, b1_t]
            clear hc h5 hY ih q
            simp (disch := first | assumption | omega | exact st8_a (Nat.le_of_ble_eq_true rfl)) only [ho, e1, m_173, hT_ld, hz, eb_220_6, eb_220_7, eb_220_8, eb_220_9, eb_220_11, eb_220_12, kl_a, kl_d, kl_f, kl_i, kl_l, kl_n, kl_r, xr_1, xr_10, xr_11, xr_12, xr_13, xr_14, xr_15, xr_16, xr_17, xr_18, xr_19, xr_2, xr_20, xr_27, xr_3, xr_32, xr_33, xr_34, xr_35, xr_36, xr_37, xr_39, xr_4, xr_40, xr_44, xr_5, xr_55, xr_56, xr_57, xr_58, xr_61, xr_62, xr_64, xr_74, xr_75, xr_98, af_0, af_1, xt_goto, xt_ib, xt_ic, xt_ic_eq, xt_ic_ge, xt_ic_ne, xt_if_eq, xt_if_ne, xt_ir, xt_nop, wF_0, wF_1, wF_2, wF_3, wF_4, wF_5, wF_6, wF_7, wF_8, wF_9, wF_10, wF_11, wF_12, wF_13, wP_9, wP_10, wL_5, wC_5, wC_17, wD, hw_app, hw_len, wA_1, wA_2, wA_3, wA_4, wA_5, wA_6, wA_7, wA_8, wA_17, wW_1, wW_2, wW_3, wW_4, wW_5, wW_6, wW_7, wW_8, wW_17, mF_8 (Mo_hw H), mA_63 (Mo_hw H), mA_64 (Mo_hw H), mA_65 (Mo_hw H), mA_66 (Mo_hw H), mA_67 (Mo_hw H), mA_68 (Mo_hw H), mA_69 (Mo_hw H), mA_70 (Mo_hw H), mA_71 (Mo_hw H), xq_173_62_virtual wy_c, iN_add, iN_mul, iN_sub, iN_and, iN_or, iN_clr, iN_shl, iN_shr, tb_r1, b1_z, b1_or, b1_and, b1_or0, b1_or1, b1_0or, b1_t, b1_f, iN_lt, iN_inj, reduceIte, if_true, if_false, Nat.zero_add, Nat.add_zero, Bool.false_eq_true, Bool.true_eq_false, Nat.lt_irrefl, iN_az, not_true_eq_false, not_false_eq_true, Nat.reduceEqDiff, Nat.reduceLT, Nat.reduceAdd, Nat.reduceMul, Nat.reduceSub]
            exact e
          · obtain ⟨c2, e, q⟩ := ih true ⟨fun _ x hx hxl => by
              by_cases e2 : x = o
              · rw [e2]; exact hz
              · exact hc x (by omega) hxl, fun _ => rfl⟩
            refine ⟨c2, ?_, q⟩
            rw [b1_t] at e
            rw [eb_220_5, b1_t]
            clear hc h5 hY ih q
            simp (disch := first | assumption | omega | exact st8_a (Nat.le_of_ble_eq_true rfl)) only [ho, e1, m_173, hT_ld, hz, eb_220_6, eb_220_7, eb_220_8, eb_220_9, eb_220_10, eb_220_12, kl_a, kl_d, kl_f, kl_i, kl_l, kl_n, kl_r, xr_1, xr_10, xr_11, xr_12, xr_13, xr_14, xr_15, xr_16, xr_17, xr_18, xr_19, xr_2, xr_20, xr_27, xr_3, xr_32, xr_33, xr_34, xr_35, xr_36, xr_37, xr_39, xr_4, xr_40, xr_44, xr_5, xr_55, xr_56, xr_57, xr_58, xr_61, xr_62, xr_64, xr_74, xr_75, xr_98, af_0, af_1, xt_goto, xt_ib, xt_ic, xt_ic_eq, xt_ic_ge, xt_ic_ne, xt_if_eq, xt_if_ne, xt_ir, xt_nop, wF_0, wF_1, wF_2, wF_3, wF_4, wF_5, wF_6, wF_7, wF_8, wF_9, wF_10, wF_11, wF_12, wF_13, wP_9, wP_10, wL_5, wC_5, wC_17, wD, hw_app, hw_len, wA_1, wA_2, wA_3, wA_4, wA_5, wA_6, wA_7, wA_8, wA_17, wW_1, wW_2, wW_3, wW_4, wW_5, wW_6, wW_7, wW_8, wW_17, mF_8 (Mo_hw H), mA_63 (Mo_hw H), mA_64 (Mo_hw H), mA_65 (Mo_hw H), mA_66 (Mo_hw H), mA_67 (Mo_hw H), mA_68 (Mo_hw H), mA_69 (Mo_hw H), mA_70 (Mo_hw H), mA_71 (Mo_hw H), xq_173_62_virtual wy_c, iN_add, iN_mul, iN_sub, iN_and, iN_or, iN_clr, iN_shl, iN_shr, tb_r1, b1_z, b1_or, b1_and, b1_or0, b1_or1, b1_0or, b1_t, b1_f, iN_lt, iN_inj, reduceIte, if_true, if_false, Nat.zero_add, Nat.add_zero, Bool.false_eq_true, Bool.true_eq_false, Nat.lt_irrefl, iN_az, not_true_eq_false, not_false_eq_true, Nat.reduceEqDiff, Nat.reduceLT, Nat.reduceAdd, Nat.reduceMul, Nat.reduceSub]
            exact e
  have k2 : ∀ l, l < (σ 1 6) → ∀ v, v ≤ (σ 1 2) * (σ 1 5) → ∀ (Y : Nat → Nat), (∀ l, l < (σ 1 6) → Y l < 262144) → ∀ (a : Bool) y6 y7, ∃ Z b z6 z7, ev xs (d + 3) 220 3 ([.ref 62, .ref h0.length, .ref (h0.length + 18), .int (nI (b1 a)), .int (nI l), .int (nI v), y6, y7], [], hw h0 (σ 1 6) W β [oI (ar 6 Y)]) = ev xs (d + 3) 220 1 ([.ref 62, .ref h0.length, .ref (h0.length + 18), .int (nI (b1 (a || b))), .int (nI (l + 1)), .int (nI ((σ 1 2) * (σ 1 5))), z6, z7], [], hw h0 (σ 1 6) W β [oI (ar 6 Z)]) ∧ DR σ (TS σ) Y Z b ∧ (b = false → ∀ v', v ≤ v' → v' < (σ 1 2) * (σ 1 5) → PTv σ Y l v') := by
    intro l hl
    refine lp ((σ 1 2) * (σ 1 5)) ?_ ?_
    · intro Y hY a y6 y7
      refine ⟨Y, false, y6, y7, ?_, DR_r, fun _ v' h1 h2 => by omega⟩
      rw [eb_220_3, Bool.or_false]
      clear k3 hY h5
      simp (disch := first | assumption | omega | exact st8_a (Nat.le_of_ble_eq_true rfl)) only [hW0, eb_220_17, kl_a, kl_d, kl_f, kl_i, kl_l, kl_n, kl_r, xr_1, xr_10, xr_11, xr_12, xr_13, xr_14, xr_15, xr_16, xr_17, xr_18, xr_19, xr_2, xr_20, xr_27, xr_3, xr_32, xr_33, xr_34, xr_35, xr_36, xr_37, xr_39, xr_4, xr_40, xr_44, xr_5, xr_55, xr_56, xr_57, xr_58, xr_61, xr_62, xr_64, xr_74, xr_75, xr_98, af_0, af_1, xt_goto, xt_ib, xt_ic, xt_ic_eq, xt_ic_ge, xt_ic_ne, xt_if_eq, xt_if_ne, xt_ir, xt_nop, wF_0, wF_1, wF_2, wF_3, wF_4, wF_5, wF_6, wF_7, wF_8, wF_9, wF_10, wF_11, wF_12, wF_13, wP_9, wP_10, wL_5, wC_5, wC_17, wD, hw_app, hw_len, wA_1, wA_2, wA_3, wA_4, wA_5, wA_6, wA_7, wA_8, wA_17, wW_1, wW_2, wW_3, wW_4, wW_5, wW_6, wW_7, wW_8, wW_17, mF_8 (Mo_hw H), mA_63 (Mo_hw H), mA_64 (Mo_hw H), mA_65 (Mo_hw H), mA_66 (Mo_hw H), mA_67 (Mo_hw H), mA_68 (Mo_hw H), mA_69 (Mo_hw H), mA_70 (Mo_hw H), mA_71 (Mo_hw H), xq_173_62_virtual wy_c, iN_add, iN_mul, iN_sub, iN_and, iN_or, iN_clr, iN_shl, iN_shr, tb_r1, b1_z, b1_or, b1_and, b1_or0, b1_or1, b1_0or, iN_lt, iN_inj, reduceIte, if_true, if_false, Nat.zero_add, Nat.add_zero, Bool.false_eq_true, Bool.true_eq_false, Nat.lt_irrefl, iN_az, not_true_eq_false, not_false_eq_true, Nat.reduceEqDiff, Nat.reduceLT, Nat.reduceAdd, Nat.reduceMul, Nat.reduceSub]
    · intro v hv ih Y hY a y6 y7
      obtain ⟨c, e1, hc⟩ := k3 l hl v hv Y (y3 := nI (b1 a)) 0 (Nat.zero_le _) true ⟨fun _ x hx => absurd hx (Nat.not_lt_zero x), fun _ => rfl⟩
      have hYl := hY l hl
      have hv32 : v < 32 := by omega
      have hl6 : l < 6 := by omega
      have st : ev xs (d + 3) 220 3 ([.ref 62, .ref h0.length, .ref (h0.length + 18), .int (nI (b1 a)), .int (nI l), .int (nI v), y6, y7], [], hw h0 (σ 1 6) W β [oI (ar 6 Y)]) = ev xs (d + 3) 220 13 ([.ref 62, .ref h0.length, .ref (h0.length + 18), .int (nI (b1 a)), .int (nI l), .int (nI v), .int (nI (b1 c)), .int (nI (σ 1 6))], [], hw h0 (σ 1 6) W β [oI (ar 6 Y)]) := by
        rw [← e1, eb_220_3]
        clear k3 hY h5 ih e1 hc
        simp (disch := first | assumption | omega | exact st8_a (Nat.le_of_ble_eq_true rfl)) only [hW0, hv, eb_220_4, kl_a, kl_d, kl_f, kl_i, kl_l, kl_n, kl_r, xr_1, xr_10, xr_11, xr_12, xr_13, xr_14, xr_15, xr_16, xr_17, xr_18, xr_19, xr_2, xr_20, xr_27, xr_3, xr_32, xr_33, xr_34, xr_35, xr_36, xr_37, xr_39, xr_4, xr_40, xr_44, xr_5, xr_55, xr_56, xr_57, xr_58, xr_61, xr_62, xr_64, xr_74, xr_75, xr_98, af_0, af_1, xt_goto, xt_ib, xt_ic, xt_ic_eq, xt_ic_ge, xt_ic_ne, xt_if_eq, xt_if_ne, xt_ir, xt_nop, wF_0, wF_1, wF_2, wF_3, wF_4, wF_5, wF_6, wF_7, wF_8, wF_9, wF_10, wF_11, wF_12, wF_13, wP_9, wP_10, wL_5, wC_5, wC_17, wD, hw_app, hw_len, wA_1, wA_2, wA_3, wA_4, wA_5, wA_6, wA_7, wA_8, wA_17, wW_1, wW_2, wW_3, wW_4, wW_5, wW_6, wW_7, wW_8, wW_17, mF_8 (Mo_hw H), mA_63 (Mo_hw H), mA_64 (Mo_hw H), mA_65 (Mo_hw H), mA_66 (Mo_hw H), mA_67 (Mo_hw H), mA_68 (Mo_hw H), mA_69 (Mo_hw H), mA_70 (Mo_hw H), mA_71 (Mo_hw H), xq_173_62_virtual wy_c, iN_add, iN_mul, iN_sub, iN_and, iN_or, iN_clr, iN_shl, iN_shr, tb_r1, b1_z, b1_or, b1_and, b1_or0, b1_0or, b1_t, iN_lt, iN_inj, reduceIte, if_true, if_false, Nat.zero_add, Nat.add_zero, Bool.false_eq_true, Bool.true_eq_false, Nat.lt_irrefl, iN_az, not_true_eq_false, not_false_eq_true, Nat.reduceEqDiff, Nat.reduceLT, Nat.reduceAdd, Nat.reduceMul, Nat.reduceSub]
      -- nothing goes
      have stay : PTv σ Y l v → ∃ Z b z6 z7, ev xs (d + 3) 220 16 ([.ref 62, .ref h0.length, .ref (h0.length + 18), .int (nI (b1 a)), .int (nI l), .int (nI v), .int (nI (b1 c)), .int (nI (σ 1 6))], [], hw h0 (σ 1 6) W β [oI (ar 6 Y)]) = ev xs (d + 3) 220 1 ([.ref 62, .ref h0.length, .ref (h0.length + 18), .int (nI (b1 (a || b))), .int (nI (l + 1)), .int (nI ((σ 1 2) * (σ 1 5))), z6, z7], [], hw h0 (σ 1 6) W β [oI (ar 6 Z)]) ∧ DR σ (TS σ) Y Z b ∧ (b = false → ∀ v', v ≤ v' → v' < (σ 1 2) * (σ 1 5) → PTv σ Y l v') := fun hp => by
        obtain ⟨Z, b, z6, z7, e2, q1, q2⟩ := ih Y hY a (.int (nI (b1 c))) (.int (nI (σ 1 6)))
        refine ⟨Z, b, z6, z7, ?_, q1, fun hb v' h1 h2 => ?_⟩
        · clear k3 hY h5 ih e1 hc st hp q1 q2
          simp (disch := first | assumption | omega | exact st8_a (Nat.le_of_ble_eq_true rfl)) only [eb_220_16, kl_a, kl_d, kl_f, kl_i, kl_l, kl_n, kl_r, xr_1, xr_10, xr_11, xr_12, xr_13, xr_14, xr_15, xr_16, xr_17, xr_18, xr_19, xr_2, xr_20, xr_27, xr_3, xr_32, xr_33, xr_34, xr_35, xr_36, xr_37, xr_39, xr_4, xr_40, xr_44, xr_5, xr_55, xr_56, xr_57, xr_58, xr_61, xr_62, xr_64, xr_74, xr_75, xr_98, af_0, af_1, xt_goto, xt_ib, xt_ic, xt_ic_eq, xt_ic_ge, xt_ic_ne, xt_if_eq, xt_if_ne, xt_ir, xt_nop, wF_0, wF_1, wF_2, wF_3, wF_4, wF_5, wF_6, wF_7, wF_8, wF_9, wF_10, wF_11, wF_12, wF_13, wP_9, wP_10, wL_5, wC_5, wC_17, wD, hw_app, hw_len, wA_1, wA_2, wA_3, wA_4, wA_5, wA_6, wA_7, wA_8, wA_17, wW_1, wW_2, wW_3, wW_4, wW_5, wW_6, wW_7, wW_8, wW_17, mF_8 (Mo_hw H), mA_63 (Mo_hw H), mA_64 (Mo_hw H), mA_65 (Mo_hw H), mA_66 (Mo_hw H), mA_67 (Mo_hw H), mA_68 (Mo_hw H), mA_69 (Mo_hw H), mA_70 (Mo_hw H), mA_71 (Mo_hw H), xq_173_62_virtual wy_c, iN_add, iN_mul, iN_sub, iN_and, iN_or, iN_clr, iN_shl, iN_shr, tb_r1, b1_z, b1_or, b1_and, b1_or0, b1_or1, b1_0or, iN_lt, iN_inj, reduceIte, if_true, if_false, Nat.zero_add, Nat.add_zero, Bool.false_eq_true, Bool.true_eq_false, Nat.lt_irrefl, iN_az, not_true_eq_false, not_false_eq_true, Nat.reduceEqDiff, Nat.reduceLT, Nat.reduceAdd, Nat.reduceMul, Nat.reduceSub]
          exact e2
        · by_cases e : v' = v
          · rw [e]; exact hp
          · exact q2 hb v' (by omega) h2
      rw [st]
      cases c
      · cases hb : (Y l).testBit v
        · obtain ⟨Z, b, z6, z7, e2, q⟩ := stay fun z => by rw [hb] at z; cases z
          refine ⟨Z, b, z6, z7, ?_, q⟩
          rw [eb_220_13]
          clear k3 hY h5 ih e1 hc st stay q
          rw [b1_f] at e2 ⊢
          simp (disch := first | assumption | omega | exact st8_a (Nat.le_of_ble_eq_true rfl)) only [hT_ld, hb, show b1 false = 0 from rfl, eb_220_14, kl_a, kl_d, kl_f, kl_i, kl_l, kl_n, kl_r, xr_1, xr_10, xr_11, xr_12, xr_13, xr_14, xr_15, xr_16, xr_17, xr_18, xr_19, xr_2, xr_20, xr_27, xr_3, xr_32, xr_33, xr_34, xr_35, xr_36, xr_37, xr_39, xr_4, xr_40, xr_44, xr_5, xr_55, xr_56, xr_57, xr_58, xr_61, xr_62, xr_64, xr_74, xr_75, xr_98, af_0, af_1, xt_goto, xt_ib, xt_ic, xt_ic_eq, xt_ic_ge, xt_ic_ne, xt_if_eq, xt_if_ne, xt_ir, xt_nop, wF_0, wF_1, wF_2, wF_3, wF_4, wF_5, wF_6, wF_7, wF_8, wF_9, wF_10, wF_11, wF_12, wF_13, wP_9, wP_10, wL_5, wC_5, wC_17, wD, hw_app, hw_len, wA_1, wA_2, wA_3, wA_4, wA_5, wA_6, wA_7, wA_8, wA_17, wW_1, wW_2, wW_3, wW_4, wW_5, wW_6, wW_7, wW_8, wW_17, mF_8 (Mo_hw H), mA_63 (Mo_hw H), mA_64 (Mo_hw H), mA_65 (Mo_hw H), mA_66 (Mo_hw H), mA_67 (Mo_hw H), mA_68 (Mo_hw H), mA_69 (Mo_hw H), mA_70 (Mo_hw H), mA_71 (Mo_hw H), xq_173_62_virtual wy_c, iN_add, iN_mul, iN_sub, iN_and, iN_or, iN_clr, iN_shl, iN_shr, tb_r1, b1_z, b1_or, b1_and, b1_or0, b1_or1, b1_0or, iN_lt, iN_inj, reduceIte, if_true, if_false, Nat.zero_add, Nat.add_zero, Bool.false_eq_true, Bool.true_eq_false, Nat.lt_irrefl, iN_az, not_true_eq_false, not_false_eq_true, Nat.reduceEqDiff, Nat.reduceLT, Nat.reduceAdd, Nat.reduceMul, Nat.reduceSub]
          exact e2
        · have hno : ¬ ∀ x, x < (σ 1 6) → x ≠ l → W 5 (wix l v x) &&& Y x ≠ 0 := fun z => by have := hc.mpr z; cases this
          obtain ⟨Z, b, z6, z7, e2, q1, q2⟩ := ih (u1 Y l (clr (Y l) (1 <<< v))) (fun k hk => by
            by_cases e : k = l
            · rw [e, u1_s]; exact clr_lt (n := 18) hYl
            · rw [u1_n e]; exact hY k hk) true (.int (nI (b1 false))) (.int (nI (σ 1 6)))
          have hdr : DR σ (TS σ) Y (u1 Y l (clr (Y l) (1 <<< v))) true := DR_1 hl hYl hb fun X hX hS => by
            cases hx : (X l).testBit v
            · rfl
            · refine absurd (fun x hx2 hxl => ?_) hno
              obtain ⟨w, w1, w2⟩ := TS_PT O hX l hl v hv hx x hx2 hxl
              exact nz_tb.mpr ⟨w, by rw [Nat.testBit_and, hS x hx2 w w1, (h5 l x v hl hx2 (Ne.symm hxl) hv w).mpr w2]; rfl⟩
          refine ⟨Z, true, z6, z7, ?_, DR_t hdr q1, fun z => by cases z⟩
          rw [Bool.or_true, eb_220_13]
          rw [Bool.true_or] at e2
          clear k3 hY h5 ih e1 hc st stay q1 q2 hdr hno
          rw [b1_f, b1_t] at e2 ⊢
          simp (disch := first | assumption | omega | exact st8_a (Nat.le_of_ble_eq_true rfl)) only [hT_ld, hT_st, hb, show b1 true = 1 from rfl, eb_220_14, eb_220_15, eb_220_16, kl_a, kl_d, kl_f, kl_i, kl_l, kl_n, kl_r, xr_1, xr_10, xr_11, xr_12, xr_13, xr_14, xr_15, xr_16, xr_17, xr_18, xr_19, xr_2, xr_20, xr_27, xr_3, xr_32, xr_33, xr_34, xr_35, xr_36, xr_37, xr_39, xr_4, xr_40, xr_44, xr_5, xr_55, xr_56, xr_57, xr_58, xr_61, xr_62, xr_64, xr_74, xr_75, xr_98, af_0, af_1, xt_goto, xt_ib, xt_ic, xt_ic_eq, xt_ic_ge, xt_ic_ne, xt_if_eq, xt_if_ne, xt_ir, xt_nop, wF_0, wF_1, wF_2, wF_3, wF_4, wF_5, wF_6, wF_7, wF_8, wF_9, wF_10, wF_11, wF_12, wF_13, wP_9, wP_10, wL_5, wC_5, wC_17, wD, hw_app, hw_len, wA_1, wA_2, wA_3, wA_4, wA_5, wA_6, wA_7, wA_8, wA_17, wW_1, wW_2, wW_3, wW_4, wW_5, wW_6, wW_7, wW_8, wW_17, mF_8 (Mo_hw H), mA_63 (Mo_hw H), mA_64 (Mo_hw H), mA_65 (Mo_hw H), mA_66 (Mo_hw H), mA_67 (Mo_hw H), mA_68 (Mo_hw H), mA_69 (Mo_hw H), mA_70 (Mo_hw H), mA_71 (Mo_hw H), xq_173_62_virtual wy_c, iN_add, iN_mul, iN_sub, iN_and, iN_or, iN_clr, iN_shl, iN_shr, tb_r1, b1_z, b1_or, b1_and, b1_or0, b1_or1, b1_0or, iN_lt, iN_inj, reduceIte, if_true, if_false, Nat.zero_add, Nat.add_zero, Bool.false_eq_true, Bool.true_eq_false, Nat.lt_irrefl, iN_az, not_true_eq_false, not_false_eq_true, Nat.reduceEqDiff, Nat.reduceLT, Nat.reduceAdd, Nat.reduceMul, Nat.reduceSub]
          exact e2
      · have hc := hc.mp rfl
        obtain ⟨Z, b, z6, z7, e2, q⟩ := stay fun _ o ho hne => by
          obtain ⟨w, hw⟩ := nz_tb.mp (hc o ho hne)
          rw [Nat.testBit_and, Bool.and_eq_true] at hw
          exact ⟨w, hw.2, (h5 l o v hl ho (Ne.symm hne) hv w).mp hw.1⟩
        refine ⟨Z, b, z6, z7, ?_, q⟩
        rw [eb_220_13]
        clear k3 hY h5 ih e1 hc st stay q
        rw [b1_t] at e2 ⊢
        simp (disch := first | assumption | omega | exact st8_a (Nat.le_of_ble_eq_true rfl)) only [kl_a, kl_d, kl_f, kl_i, kl_l, kl_n, kl_r, xr_1, xr_10, xr_11, xr_12, xr_13, xr_14, xr_15, xr_16, xr_17, xr_18, xr_19, xr_2, xr_20, xr_27, xr_3, xr_32, xr_33, xr_34, xr_35, xr_36, xr_37, xr_39, xr_4, xr_40, xr_44, xr_5, xr_55, xr_56, xr_57, xr_58, xr_61, xr_62, xr_64, xr_74, xr_75, xr_98, af_0, af_1, xt_goto, xt_ib, xt_ic, xt_ic_eq, xt_ic_ge, xt_ic_ne, xt_if_eq, xt_if_ne, xt_ir, xt_nop, wF_0, wF_1, wF_2, wF_3, wF_4, wF_5, wF_6, wF_7, wF_8, wF_9, wF_10, wF_11, wF_12, wF_13, wP_9, wP_10, wL_5, wC_5, wC_17, wD, hw_app, hw_len, wA_1, wA_2, wA_3, wA_4, wA_5, wA_6, wA_7, wA_8, wA_17, wW_1, wW_2, wW_3, wW_4, wW_5, wW_6, wW_7, wW_8, wW_17, mF_8 (Mo_hw H), mA_63 (Mo_hw H), mA_64 (Mo_hw H), mA_65 (Mo_hw H), mA_66 (Mo_hw H), mA_67 (Mo_hw H), mA_68 (Mo_hw H), mA_69 (Mo_hw H), mA_70 (Mo_hw H), mA_71 (Mo_hw H), xq_173_62_virtual wy_c, iN_add, iN_mul, iN_sub, iN_and, iN_or, iN_clr, iN_shl, iN_shr, tb_r1, b1_z, b1_or, b1_and, b1_or0, b1_or1, b1_0or, iN_lt, iN_inj, reduceIte, if_true, if_false, Nat.zero_add, Nat.add_zero, Bool.false_eq_true, Bool.true_eq_false, Nat.lt_irrefl, iN_az, not_true_eq_false, not_false_eq_true, Nat.reduceEqDiff, Nat.reduceLT, Nat.reduceAdd, Nat.reduceMul, Nat.reduceSub]
        exact e2
  have k1 : ∀ l, l ≤ (σ 1 6) → ∀ (Y : Nat → Nat), (∀ l, l < (σ 1 6) → Y l < 262144) → ∀ (a : Bool) y5 y6 y7, ∃ Z b, ev xs (d + 3) 220 1 ([.ref 62, .ref h0.length, .ref (h0.length + 18), .int (nI (b1 a)), .int (nI l), y5, y6, y7], [], hw h0 (σ 1 6) W β [oI (ar 6 Y)]) = some (.inl (some (.int (nI (b1 (a || b))))), hw h0 (σ 1 6) W β [oI (ar 6 Z)]) ∧ DR σ (TS σ) Y Z b ∧ (b = false → ∀ l', l ≤ l' → l' < (σ 1 6) → ∀ v, v < (σ 1 2) * (σ 1 5) → PTv σ Y l' v) := by
    refine lp (σ 1 6) ?_ ?_
    · intro Y hY a y5 y6 y7
      refine ⟨Y, false, ?_, DR_r, fun _ l' h1 h2 => by omega⟩
      rw [eb_220_1, Bool.or_false]
      clear k3 k2 hY h5
      simp (disch := first | assumption | omega | exact st8_a (Nat.le_of_ble_eq_true rfl)) only [eb_220_18, kl_a, kl_d, kl_f, kl_i, kl_l, kl_n, kl_r, xr_1, xr_10, xr_11, xr_12, xr_13, xr_14, xr_15, xr_16, xr_17, xr_18, xr_19, xr_2, xr_20, xr_27, xr_3, xr_32, xr_33, xr_34, xr_35, xr_36, xr_37, xr_39, xr_4, xr_40, xr_44, xr_5, xr_55, xr_56, xr_57, xr_58, xr_61, xr_62, xr_64, xr_74, xr_75, xr_98, af_0, af_1, xt_goto, xt_ib, xt_ic, xt_ic_eq, xt_ic_ge, xt_ic_ne, xt_if_eq, xt_if_ne, xt_ir, xt_nop, wF_0, wF_1, wF_2, wF_3, wF_4, wF_5, wF_6, wF_7, wF_8, wF_9, wF_10, wF_11, wF_12, wF_13, wP_9, wP_10, wL_5, wC_5, wC_17, wD, hw_app, hw_len, wA_1, wA_2, wA_3, wA_4, wA_5, wA_6, wA_7, wA_8, wA_17, wW_1, wW_2, wW_3, wW_4, wW_5, wW_6, wW_7, wW_8, wW_17, mF_8 (Mo_hw H), mA_63 (Mo_hw H), mA_64 (Mo_hw H), mA_65 (Mo_hw H), mA_66 (Mo_hw H), mA_67 (Mo_hw H), mA_68 (Mo_hw H), mA_69 (Mo_hw H), mA_70 (Mo_hw H), mA_71 (Mo_hw H), xq_173_62_virtual wy_c, iN_add, iN_mul, iN_sub, iN_and, iN_or, iN_clr, iN_shl, iN_shr, tb_r1, b1_z, b1_or, b1_and, b1_or0, b1_or1, b1_0or, iN_lt, iN_inj, reduceIte, if_true, if_false, Nat.zero_add, Nat.add_zero, Bool.false_eq_true, Bool.true_eq_false, Nat.lt_irrefl, iN_az, not_true_eq_false, not_false_eq_true, Nat.reduceEqDiff, Nat.reduceLT, Nat.reduceAdd, Nat.reduceMul, Nat.reduceSub]
    · intro l hl ih Y hY a y5 y6 y7
      obtain ⟨Z, b, z6, z7, e1, q1, q2⟩ := k2 l hl 0 (Nat.zero_le _) Y hY a y6 y7
      obtain ⟨Z2, b2, e2, p1, p2⟩ := ih Z (Su_lt q1.1 hY) (a || b) (.int (nI ((σ 1 2) * (σ 1 5)))) z6 z7
      refine ⟨Z2, b || b2, ?_, DR_t q1 p1, fun hb l' h1 h2 v hv => ?_⟩
      · rw [← Bool.or_assoc, ← e2, ← e1, eb_220_1]
        clear k3 k2 hY h5 ih e1 e2 q1 q2 p1 p2
        simp (disch := first | assumption | omega | exact st8_a (Nat.le_of_ble_eq_true rfl)) only [hl, eb_220_2, kl_a, kl_d, kl_f, kl_i, kl_l, kl_n, kl_r, xr_1, xr_10, xr_11, xr_12, xr_13, xr_14, xr_15, xr_16, xr_17, xr_18, xr_19, xr_2, xr_20, xr_27, xr_3, xr_32, xr_33, xr_34, xr_35, xr_36, xr_37, xr_39, xr_4, xr_40, xr_44, xr_5, xr_55, xr_56, xr_57, xr_58, xr_61, xr_62, xr_64, xr_74, xr_75, xr_98, af_0, af_1, xt_goto, xt_ib, xt_ic, xt_ic_eq, xt_ic_ge, xt_ic_ne, xt_if_eq, xt_if_ne, xt_ir, xt_nop, wF_0, wF_1, wF_2, wF_3, wF_4, wF_5, wF_6, wF_7, wF_8, wF_9, wF_10, wF_11, wF_12, wF_13, wP_9, wP_10, wL_5, wC_5, wC_17, wD, hw_app, hw_len, wA_1, wA_2, wA_3, wA_4, wA_5, wA_6, wA_7, wA_8, wA_17, wW_1, wW_2, wW_3, wW_4, wW_5, wW_6, wW_7, wW_8, wW_17, mF_8 (Mo_hw H), mA_63 (Mo_hw H), mA_64 (Mo_hw H), mA_65 (Mo_hw H), mA_66 (Mo_hw H), mA_67 (Mo_hw H), mA_68 (Mo_hw H), mA_69 (Mo_hw H), mA_70 (Mo_hw H), mA_71 (Mo_hw H), xq_173_62_virtual wy_c, iN_add, iN_mul, iN_sub, iN_and, iN_or, iN_clr, iN_shl, iN_shr, tb_r1, b1_z, b1_or, b1_and, b1_or0, b1_or1, b1_0or, iN_lt, iN_inj, reduceIte, if_true, if_false, Nat.zero_add, Nat.add_zero, Bool.false_eq_true, Bool.true_eq_false, Nat.lt_irrefl, iN_az, not_true_eq_false, not_false_eq_true, Nat.reduceEqDiff, Nat.reduceLT, Nat.reduceAdd, Nat.reduceMul, Nat.reduceSub]
      · rw [Bool.or_eq_false_iff] at hb
        by_cases e : l' = l
        · rw [e]; exact q2 hb.1 v (Nat.zero_le _) hv
        · have hz := q1.2.1 hb.1
          have := p2 hb.2 l' (by omega) h2 v hv
          intro hx o ho hne
          rw [← hz l' h2] at hx
          obtain ⟨w, w1, w2⟩ := this hx o ho hne
          exact ⟨w, by rw [← hz o ho]; exact w1, w2⟩
  obtain ⟨Z, b, e, q1, q2⟩ := k1 0 (Nat.zero_le _) Y hY false (.retAddr 9) (.retAddr 9) (.retAddr 9)
  refine ⟨Z, b, ?_, q1, fun hb l hl v hv => q2 hb l (Nat.zero_le _) hl v hv⟩
  rw [Bool.false_or, b1_f] at e
  clear k1 k2 k3 hY h5 q1 q2
  simp (disch := first | assumption | omega | exact st8_a (Nat.le_of_ble_eq_true rfl)) only [eb_220_0, kl_a, kl_d, kl_f, kl_i, kl_l, kl_n, kl_r, xr_1, xr_10, xr_11, xr_12, xr_13, xr_14, xr_15, xr_16, xr_17, xr_18, xr_19, xr_2, xr_20, xr_27, xr_3, xr_32, xr_33, xr_34, xr_35, xr_36, xr_37, xr_39, xr_4, xr_40, xr_44, xr_5, xr_55, xr_56, xr_57, xr_58, xr_61, xr_62, xr_64, xr_74, xr_75, xr_98, af_0, af_1, xt_goto, xt_ib, xt_ic, xt_ic_eq, xt_ic_ge, xt_ic_ne, xt_if_eq, xt_if_ne, xt_ir, xt_nop, wF_0, wF_1, wF_2, wF_3, wF_4, wF_5, wF_6, wF_7, wF_8, wF_9, wF_10, wF_11, wF_12, wF_13, wP_9, wP_10, wL_5, wC_5, wC_17, wD, hw_app, hw_len, wA_1, wA_2, wA_3, wA_4, wA_5, wA_6, wA_7, wA_8, wA_17, wW_1, wW_2, wW_3, wW_4, wW_5, wW_6, wW_7, wW_8, wW_17, mF_8 (Mo_hw H), mA_63 (Mo_hw H), mA_64 (Mo_hw H), mA_65 (Mo_hw H), mA_66 (Mo_hw H), mA_67 (Mo_hw H), mA_68 (Mo_hw H), mA_69 (Mo_hw H), mA_70 (Mo_hw H), mA_71 (Mo_hw H), xq_173_62_virtual wy_c, iN_add, iN_mul, iN_sub, iN_and, iN_or, iN_clr, iN_shl, iN_shr, tb_r1, b1_z, b1_or, b1_and, b1_or0, b1_or1, b1_0or, iN_lt, iN_inj, reduceIte, if_true, if_false, Nat.zero_add, Nat.add_zero, Bool.false_eq_true, Bool.true_eq_false, Nat.lt_irrefl, iN_az, not_true_eq_false, not_false_eq_true, Nat.reduceEqDiff, Nat.reduceLT, Nat.reduceAdd, Nat.reduceMul, Nat.reduceSub]
  exact e
end Nra
