/-! THE MODEL'S Ways: findsFairest -/
/-- the shares by the first k lessons as one number -/
def kvl (σ : Nat → Nat → Nat) (k : Nat) (t : Nat → Nat) : Nat := sm (σ 1 4) fun u => 5 ^ shm σ u t k
/-- the row of the shares by the first k lessons, the greatest first -/
def SP (σ : Nat → Nat → Nat) (k : Nat) (t f : Nat → Nat) : Prop := DS (σ 1 4) f ∧ (∀ j, j < (σ 1 4) → f j ≤ 6) ∧ (∀ j, (σ 1 4) ≤ j → f j = 0) ∧ ∀ G : Nat → Nat, (sm (σ 1 4) fun j => G (f j)) = sm (σ 1 4) fun u => G (shm σ u t k)
def ZR (σ W : Nat → Nat → Nat) : Prop := ∀ i, i ≤ 6 → ∀ j, (σ 1 4) ≤ j → W (10 + i) j = 0
/-- the fairest of the tables A so far -/
def BF (σ : Nat → Nat → Nat) (P : (Nat → Nat) → Prop) (len : Nat) (β : Value) (f : Nat → Nat) (T : ab_H) (A : (Nat → Nat) → Prop) : Prop :=
  (β = .null ∧ ∀ t, P t → ¬ A t) ∨ ∃ i t, β = .ref (len + (18 + i)) ∧ T[i]? = some (oI (ar (σ 1 6) t)) ∧ P t ∧ A t ∧ SP σ (σ 1 6) t f ∧ ∀ u, P u → A u → kvl σ (σ 1 6) t ≤ kvl σ (σ 1 6) u ∧ (kvl σ (σ 1 6) u = kvl σ (σ 1 6) t → ¬ TX (σ 1 6) u t)
def potf (β : Value) (f : Nat → Nat) : Nat := match β with
  | .null => 168
  | _ => rnk f
section Wyl
variable {xs : List Int32} {d m n : Nat} {h0 T T2 : ab_H} {σ W N K : Nat → Nat → Nat} {μ : Nat → Nat} {ν : Nat → Value} {β : Value} {a b u k v w x y q set l i p nn k2 : Nat} {t s r tab f g t2 : Nat → Nat} {P A B : (Nat → Nat) → Prop}
set_option maxRecDepth 100000 in
theorem shm_m (h : k ≤ m) : shm σ u t k ≤ shm σ u t m := by
  induction m with
  | zero =>
    have : k = 0 := by omega
    subst this
    exact Nat.le_refl _
  | succ m ih =>
    by_cases e : k = m + 1
    · rw [e]; exact Nat.le_refl _
    · exact Nat.le_trans (ih (by omega)) (Nat.le_add_right _ _)
set_option maxRecDepth 100000 in
theorem kvl_m (h : k ≤ m) : kvl σ k t ≤ kvl σ m t := sm_mono fun _ _ => p5_le (shm_m h)
set_option maxRecDepth 100000 in
theorem shm_cg (h : AT k t s) : shm σ u t k = shm σ u s k := sm_cg fun l hl => by rw [h l hl]
set_option maxRecDepth 100000 in
theorem kvl_cg (h : AT k t s) : kvl σ k t = kvl σ k s := sm_cg fun u _ => by rw [shm_cg h]
set_option maxRecDepth 100000 in
theorem SP_cg (h : AT k t s) (hSP : SP σ k t f) : SP σ k s f := ⟨hSP.1, hSP.2.1, hSP.2.2.1, fun G => (hSP.2.2.2 G).trans (sm_cg fun u _ => by rw [shm_cg h])⟩
set_option maxRecDepth 100000 in
theorem SP_4 (hSP : SP σ k t f) : DS 4 f := fun i j hij hj => by
  by_cases h : j < (σ 1 4)
  · exact hSP.1 i j hij h
  · rw [hSP.2.2.1 j (by omega)]
    exact Nat.zero_le _
set_option maxRecDepth 100000 in
theorem sm_z4 (hT : n ≤ m) (h : ∀ j, n ≤ j → f j = 0) : sm m f = sm n f := by
  induction m with
  | zero =>
    have : n = 0 := by omega
    subst this
    rfl
  | succ m ih =>
    by_cases e : n = m + 1
    · rw [e]
    · rw [sm, ih (by omega), h m (by omega), Nat.add_zero]
set_option maxRecDepth 100000 in
theorem shm_su : (sm (σ 1 4) fun u => shm σ u t m) ≤ m := by
  unfold shm
  rw [sm_sw]
  have h := sm_le (n := m) (c := 1) (f := fun l => sm (σ 1 4) fun u => b1 (decide (σ 6 l = u) && decide (cov σ l (t l / (σ 1 5)) &&& lh σ ≠ 0))) fun l _ => sm_one _ (fun u _ => Nat.le_of_lt_succ (b1_lt _)) fun i j _ _ h1 h2 => by
    have h3 : σ 6 l = i := by
      refine Classical.byContradiction fun z => h1 ?_
      rw [decide_eq_false z, Bool.false_and]
      rfl
    have h4 : σ 6 l = j := by
      refine Classical.byContradiction fun z => h2 ?_
      rw [decide_eq_false z, Bool.false_and]
      rfl
    exact h3.symm.trans h4
  omega
set_option maxRecDepth 100000 in
theorem SP_6 (O : Ok σ) (hk : k ≤ (σ 1 6)) (hSP : SP σ k t f) : f 0 + f 1 + f 2 + f 3 ≤ 6 := by
  obtain ⟨hD1, hD2, hH1, hH2, hS, hC, hT, hR, hL, hQ⟩ := Ok_b O
  have h1 := hSP.2.2.2 fun x => x
  have h2 := shm_su (σ := σ) (t := t) (m := k)
  have h3 := sm_z4 (m := 4) hT hSP.2.2.1
  have h4 : sm 4 f = 0 + f 0 + f 1 + f 2 + f 3 := rfl
  have h5 : (sm (σ 1 4) fun j => f j) = sm (σ 1 4) f := rfl
  omega
set_option maxRecDepth 100000 in
theorem SP_l (O : Ok σ) (hSP : SP σ k t f) (hS2 : SP σ k2 t2 g) : LL 4 f g ↔ kvl σ k t < kvl σ k2 t2 := by
  obtain ⟨hD1, hD2, hH1, hH2, hS, hC, hT, hR, hL, hQ⟩ := Ok_b O
  have h1 : LL 4 f g ↔ LL (σ 1 4) f g := by
    constructor
    · rintro ⟨j, hj, h1, h2⟩
      have : j < (σ 1 4) := Nat.lt_of_not_le fun z => by
        rw [hS2.2.2.1 j z] at h2
        omega
      exact ⟨j, this, h1, h2⟩
    · rintro ⟨j, hj, h1⟩
      exact ⟨j, by omega, h1⟩
  rw [h1, LL_pi hT hSP.1 hS2.1, hSP.2.2.2 fun x => 5 ^ x, hS2.2.2.2 fun x => 5 ^ x]
  rfl
set_option maxRecDepth 100000 in
theorem BF_c (h : BF σ P n β f T A) (hA : ∀ t, P t → (A t ↔ B t)) : BF σ P n β f T B := by
  rcases h with ⟨h1, h2⟩ | ⟨i, t, h1, h2, h3, h4, h5, h6⟩
  · exact .inl ⟨h1, fun t hp hb => h2 t hp ((hA t hp).mpr hb)⟩
  · exact .inr ⟨i, t, h1, h2, h3, (hA t h3).mp h4, h5, fun u hu hb => h6 u hu ((hA u hu).mpr hb)⟩
set_option maxRecDepth 100000 in
theorem ZR_c (h : ∀ b, 10 ≤ b → b ≤ 16 → N b = W b) (hZ : ZR σ W) : ZR σ N := fun i hi j hj => by
  rw [h (10 + i) (by omega) (by omega)]
  exact hZ i hi j hj
set_option maxRecDepth 100000 in
theorem xq_f {rc m3 : Nat} : True := trivial
-- findsFairest
set_option maxRecDepth 100000 in
theorem m_184 (O : Ok σ) (H : Mo σ μ ν h0) : ∀ n k, k + n = (σ 1 6) → ∀ W β T, IW σ k W → (∀ t, PA σ W (σ 1 6) t ↔ P t) → ZR σ W → BF σ P h0.length β (W 17) T (fun t => TX k t (W 8)) → ∃ N β' T', ev xs (d + n + 7) 184 0 ([.ref h0.length, .int (nI k), .retAddr 9, .retAddr 9], [], hw h0 (σ 1 6) W β T) = some (.inl none, hw h0 (σ 1 6) N β' (T ++ T')) ∧ FV k W N ∧ ZR σ N ∧ BF σ P h0.length β' (N 17) (T ++ T') (fun t => TX k t (W 8) ∨ AT k t (W 8)) ∧ T'.length + potf β' (N 17) ≤ potf β (W 17) ∧ SZ σ T' := by
  obtain ⟨hD1, hD2, hH1, hH2, hS, hC, hT, hR, hL, hQ⟩ := Ok_b O
  have hV := vle O
  intro n
  induction n with
  | zero =>
    intro k hk W β T hI hPP hZ hB
    have hkL : k = (σ 1 6) := by omega
    obtain ⟨g, e1, g1, g2, g3, g4⟩ := m_215 (xs := xs) (d := d + 2) (k := k) (m := k) (β := β) (T := T) O H (by omega) (by omega) fun l hl => (hI.2.2 l hl).1
    have hSP : SP σ k (W 8) g := ⟨g1, g2, fun j hj => (g3 j hj).trans (hZ k (by omega) j hj), g4⟩
    have hk6 : k ≤ 6 := by omega
    have hP8 : P (W 8) := (hPP _).mp (hkL ▸ hI.2.2)
    have w17 : ur W (10 + k) g 17 = W 17 := ur_n (by omega)
    have w8 : ur W (10 + k) g 8 = W 8 := ur_n (by omega)
    have fv1 : FV k W (ur W (10 + k) g) := ⟨by rw [ur_n (by omega)], fun b _ hb _ _ => ur_n (by omega), fun _ _ => by rw [ur_n (by omega)], fun _ _ => by rw [ur_n (by omega)]⟩
    have z1 : ZR σ (ur W (10 + k) g) := fun i hi j hj => by
      by_cases e : i = k
      · rw [e, ur_s]; exact hSP.2.2.1 j hj
      · rw [ur_n (by omega)]; exact hZ i hi j hj
    have e2 := m_181 (xs := xs) (d := d + 5) (W := ur W (10 + k) g) (β := β) (T := T) O H
    rw [w8] at e2
    have fv2 : FV k W (ur (ur W (10 + k) g) 17 g) := ⟨by rw [ur_n (by decide), ur_n (by omega)], fun b _ hb _ _ => by rw [ur_n (by omega), ur_n (by omega)], fun _ _ => by rw [ur_n (by decide), ur_n (by omega)], fun _ _ => by rw [ur_n (by decide), ur_n (by omega)]⟩
    have z2 : ZR σ (ur (ur W (10 + k) g) 17 g) := ZR_c (fun b _ hb => ur_n (by omega)) z1
    have gs : ur W (10 + k) g (10 + k) = g := ur_s _ _ _
    -- what is new
    have nw : (∀ u, P u → TX k u (W 8) → kvl σ (σ 1 6) (W 8) < kvl σ (σ 1 6) u) → BF σ P h0.length (.ref (h0.length + (18 + T.length))) (ur (ur W (10 + k) g) 17 g 17) (T ++ [oI (ar (σ 1 6) (W 8))]) (fun t => TX k t (W 8) ∨ AT k t (W 8)) := fun h => by
      refine .inr ⟨T.length, W 8, rfl, ?_, hP8, .inr fun _ _ => rfl, by rw [ur_s, ← hkL]; exact hSP, fun u hu hA => ?_⟩
      · rw [List.getElem?_append_right (Nat.le_refl _), Nat.sub_self]
        rfl
      · rcases hA with hA | hA
        · have := h u hu hA
          exact ⟨by omega, fun e => by omega⟩
        · rw [hkL] at hA
          rw [kvl_cg hA]
          exact ⟨Nat.le_refl _, fun _ => TX_nk hA⟩
    have rb := rnk_b (SP_4 hSP) (SP_6 O (by omega) hSP)
    have hkL' : (k = (σ 1 6)) = True := eq_true hkL
    rcases hB with ⟨hβ, hno⟩ | ⟨i, t, hβ, hT2, hPt, hAt, hSt, hmin⟩
    · subst hβ
      refine ⟨ur (ur W (10 + k) g) 17 g, .ref (h0.length + (18 + T.length)), [oI (ar (σ 1 6) (W 8))], ?_, fv2, z2, nw fun u hu hA => absurd hA (hno u hu), ?_, SZ_1⟩
      · clear hI hPP hno nw hZ hSP z1 z2 fv1 fv2 g1 g2 g3 g4 rb
        simp (disch := first | assumption | omega | exact st8_a (Nat.le_of_ble_eq_true rfl)) only [e1, e2, hkL', wC_17 hk6, gs, eb_184_0, eb_184_1, eb_184_5, eb_184_6, eb_184_7, kl_a, kl_d, kl_f, kl_i, kl_l, kl_n, kl_r, xr_1, xr_10, xr_135, xr_136, xr_137, xr_138, xr_139, xr_16, xr_17, xr_18, xr_19, xr_2, xr_20, xr_27, xr_28, xr_3, xr_32, xr_37, xr_38, xr_4, xr_43, xr_5, xr_67, af_0, af_1, xt_goto, xt_ic_ge, xt_ic_ne, xt_if_eq, xt_if_ne, xt_nop, xt_nu_0, xt_nu_1, xt_re, wF_0, wF_1, wF_2, wF_3, wF_4, wF_5, wF_6, wF_7, wF_8, wF_9, wF_10, wF_11, wF_12, wF_13, wP_9, wP_10, wL_5, wC_5, wC_17, wD, hw_app, hw_len, wA_1, wA_2, wA_3, wA_4, wA_5, wA_6, wA_7, wA_8, wA_17, wW_1, wW_2, wW_3, wW_4, wW_5, wW_6, wW_7, wW_8, wW_17, mF_8 (Mo_hw H), xq_175_12_virtual wy_c, xq_176_12_virtual wy_c, xq_181_12_virtual wy_c, xq_184_12_virtual wy_c, xq_215_63_virtualm (Mo_hw H), xq_216_203_static, iN_add, iN_mul, iN_sub, iN_and, iN_or, iN_clr, iN_shl, iN_shr, tb_r1, b1_z, b1_or, b1_and, b1_or0, b1_or1, b1_0or, b1_t, b1_f, iN_lt, iN_inj, reduceIte, if_true, if_false, Nat.zero_add, Nat.add_zero, Bool.false_eq_true, Bool.true_eq_false, Nat.lt_irrefl, iN_az, not_true_eq_false, not_false_eq_true, Nat.reduceEqDiff, Nat.reduceLT, Nat.reduceAdd, Nat.reduceMul, Nat.reduceSub]
      · show 1 + rnk (ur (ur W (10 + k) g) 17 g 17) ≤ 168
        rw [ur_s]
        omega
    · subst hβ
      obtain ⟨b, e3, hb⟩ := m_216 (xs := xs) (d := d + 6) (p := h0.length + (10 + k)) (p2 := h0.length + 17) (f := g) (g := W 17) (Mo_hw (nn := (σ 1 6)) (W := ur W (10 + k) g) (β := .ref (h0.length + (18 + i))) (T := T) H) ((sh_k hk6).trans (by rw [gs])) ((hw_k (by decide)).trans (by show some (oI (ar 4 (ur W (10 + k) g 17))) = _; rw [w17])) (fun j hj => by
        by_cases h : j < (σ 1 4)
        · have := g2 j h
          omega
        · rw [hSP.2.2.1 j (by omega)]; decide) (fun j hj => by
        by_cases h : j < (σ 1 4)
        · have := hSt.2.1 j h
          omega
        · rw [hSt.2.2.1 j (by omega)]; decide)
      rw [SP_l O hSP hSt] at hb
      cases b
      · have hle : kvl σ (σ 1 6) t ≤ kvl σ k (W 8) := Nat.le_of_not_lt fun z => by
          have := hb.mpr z
          cases this
        refine ⟨ur W (10 + k) g, .ref (h0.length + (18 + i)), [], ?_, fv1, z1, ?_, ?_, SZ_0⟩
        · clear hI hPP nw hmin hAt hT2 hZ hSP z1 z2 fv1 fv2 g1 g2 g3 g4 rb hSt hb
          rw [List.append_nil]
          simp (disch := first | assumption | omega | exact st8_a (Nat.le_of_ble_eq_true rfl)) only [e1, e3, eb_184_0, eb_184_1, eb_184_2, eb_184_3, eb_184_4, kl_a, kl_d, kl_f, kl_i, kl_l, kl_n, kl_r, xr_1, xr_10, xr_135, xr_136, xr_137, xr_138, xr_139, xr_16, xr_17, xr_18, xr_19, xr_2, xr_20, xr_27, xr_28, xr_3, xr_32, xr_37, xr_38, xr_4, xr_43, xr_5, xr_67, af_0, af_1, xt_goto, xt_ic_ge, xt_ic_ne, xt_if_eq, xt_if_ne, xt_nop, xt_nu_0, xt_nu_1, xt_re, wF_0, wF_1, wF_2, wF_3, wF_4, wF_5, wF_6, wF_7, wF_8, wF_9, wF_10, wF_11, wF_12, wF_13, wP_9, wP_10, wL_5, wC_5, wC_17, wD, hw_app, hw_len, wA_1, wA_2, wA_3, wA_4, wA_5, wA_6, wA_7, wA_8, wA_17, wW_1, wW_2, wW_3, wW_4, wW_5, wW_6, wW_7, wW_8, wW_17, mF_8 (Mo_hw H), xq_175_12_virtual wy_c, xq_176_12_virtual wy_c, xq_181_12_virtual wy_c, xq_184_12_virtual wy_c, xq_215_63_virtualm (Mo_hw H), xq_216_203_static, iN_add, iN_mul, iN_sub, iN_and, iN_or, iN_clr, iN_shl, iN_shr, tb_r1, b1_z, b1_or, b1_and, b1_or0, b1_or1, b1_0or, b1_t, b1_f, iN_lt, iN_inj, reduceIte, if_true, if_false, Nat.zero_add, Nat.add_zero, Bool.false_eq_true, Bool.true_eq_false, Nat.lt_irrefl, iN_az, not_true_eq_false, not_false_eq_true, Nat.reduceEqDiff, Nat.reduceLT, Nat.reduceAdd, Nat.reduceMul, Nat.reduceSub]
        · rw [List.append_nil, w17]
          refine .inr ⟨i, t, rfl, hT2, hPt, .inl hAt, hSt, fun u hu hA => ?_⟩
          rcases hA with hA | hA
          · exact hmin u hu hA
          · rw [hkL] at hA hle hAt
            rw [kvl_cg hA]
            exact ⟨hle, fun _ h => TX_as hAt (TX_c1 hA h)⟩
        · rw [w17]
          show 0 + _ ≤ _
          omega
      · have hlt := hb.mp rfl
        have hL4 : LL 4 g (W 17) := (SP_l O hSP hSt).mpr hlt
        refine ⟨ur (ur W (10 + k) g) 17 g, .ref (h0.length + (18 + T.length)), [oI (ar (σ 1 6) (W 8))], ?_, fv2, z2, nw fun u hu hA => ?_, ?_, SZ_1⟩
        · clear hI hPP nw hmin hAt hT2 hZ hSP z1 z2 fv1 fv2 g1 g2 g3 g4 rb hSt hb hL4
          simp (disch := first | assumption | omega | exact st8_a (Nat.le_of_ble_eq_true rfl)) only [e1, e2, e3, hkL', wC_17 hk6, gs, eb_184_0, eb_184_1, eb_184_2, eb_184_3, eb_184_5, eb_184_6, eb_184_7, kl_a, kl_d, kl_f, kl_i, kl_l, kl_n, kl_r, xr_1, xr_10, xr_135, xr_136, xr_137, xr_138, xr_139, xr_16, xr_17, xr_18, xr_19, xr_2, xr_20, xr_27, xr_28, xr_3, xr_32, xr_37, xr_38, xr_4, xr_43, xr_5, xr_67, af_0, af_1, xt_goto, xt_ic_ge, xt_ic_ne, xt_if_eq, xt_if_ne, xt_nop, xt_nu_0, xt_nu_1, xt_re, wF_0, wF_1, wF_2, wF_3, wF_4, wF_5, wF_6, wF_7, wF_8, wF_9, wF_10, wF_11, wF_12, wF_13, wP_9, wP_10, wL_5, wC_5, wC_17, wD, hw_app, hw_len, wA_1, wA_2, wA_3, wA_4, wA_5, wA_6, wA_7, wA_8, wA_17, wW_1, wW_2, wW_3, wW_4, wW_5, wW_6, wW_7, wW_8, wW_17, mF_8 (Mo_hw H), xq_175_12_virtual wy_c, xq_176_12_virtual wy_c, xq_181_12_virtual wy_c, xq_184_12_virtual wy_c, xq_215_63_virtualm (Mo_hw H), xq_216_203_static, iN_add, iN_mul, iN_sub, iN_and, iN_or, iN_clr, iN_shl, iN_shr, tb_r1, b1_z, b1_or, b1_and, b1_or0, b1_or1, b1_0or, b1_t, b1_f, iN_lt, iN_inj, reduceIte, if_true, if_false, Nat.zero_add, Nat.add_zero, Bool.false_eq_true, Bool.true_eq_false, Nat.lt_irrefl, iN_az, not_true_eq_false, not_false_eq_true, Nat.reduceEqDiff, Nat.reduceLT, Nat.reduceAdd, Nat.reduceMul, Nat.reduceSub]
        · have := (hmin u hu hA).1
          rw [hkL] at hlt
          omega
        · show 1 + rnk (ur (ur W (10 + k) g) 17 g 17) ≤ rnk (W 17)
          rw [ur_s]
          exact (Nat.add_comm 1 _) ▸ rnk_lt (SP_4 hSP) (SP_6 O (by omega) hSP) hL4
  | succ n ih =>
    intro k hk W β T hI hPP hZ hB
    have hkL : k < (σ 1 6) := by omega
    have hk6 : k ≤ 6 := by omega
    have key : ∀ v, v ≤ (σ 1 2) * (σ 1 5) → ∀ K β2 T2, FV k W K → ZR σ K → BF σ P h0.length β2 (K 17) T2 (fun t => TX k t (W 8) ∨ (AT k t (W 8) ∧ t k < v)) → ∃ N β' T', ev xs (d + (n + 1) + 7) 184 9 ([.ref h0.length, .int (nI k), .ref (h0.length + (10 + k)), .int (nI v)], [], hw h0 (σ 1 6) K β2 T2) = some (.inl none, hw h0 (σ 1 6) N β' (T2 ++ T')) ∧ FV k W N ∧ ZR σ N ∧ BF σ P h0.length β' (N 17) (T2 ++ T') (fun t => TX k t (W 8) ∨ AT k t (W 8)) ∧ T'.length + potf β' (N 17) ≤ potf β2 (K 17) ∧ SZ σ T' := by
      refine lp ((σ 1 2) * (σ 1 5)) ?_ ?_
      · intro K β2 T2 hF hZ2 hB
        refine ⟨K, β2, [], ?_, hF, hZ2, ?_, ?_, SZ_0⟩
        · have hK := (FV_00 hF).trans hI.1.1
          rw [eb_184_9, List.append_nil]
          clear hI hF hB ih hZ hZ2
          simp (disch := first | assumption | omega | exact st8_a (Nat.le_of_ble_eq_true rfl)) only [hK, eb_184_16, kl_a, kl_d, kl_f, kl_i, kl_l, kl_n, kl_r, xr_1, xr_10, xr_135, xr_136, xr_137, xr_138, xr_139, xr_16, xr_17, xr_18, xr_19, xr_2, xr_20, xr_27, xr_28, xr_3, xr_32, xr_37, xr_38, xr_4, xr_43, xr_5, xr_67, af_0, af_1, xt_goto, xt_ic_ge, xt_ic_ne, xt_if_eq, xt_if_ne, xt_nop, xt_nu_0, xt_nu_1, xt_re, wF_0, wF_1, wF_2, wF_3, wF_4, wF_5, wF_6, wF_7, wF_8, wF_9, wF_10, wF_11, wF_12, wF_13, wP_9, wP_10, wL_5, wC_5, wC_17, wD, hw_app, hw_len, wA_1, wA_2, wA_3, wA_4, wA_5, wA_6, wA_7, wA_8, wA_17, wW_1, wW_2, wW_3, wW_4, wW_5, wW_6, wW_7, wW_8, wW_17, mF_8 (Mo_hw H), xq_175_12_virtual wy_c, xq_176_12_virtual wy_c, xq_181_12_virtual wy_c, xq_184_12_virtual wy_c, xq_215_63_virtualm (Mo_hw H), xq_216_203_static, iN_add, iN_mul, iN_sub, iN_and, iN_or, iN_clr, iN_shl, iN_shr, tb_r1, b1_z, b1_or, b1_and, b1_or0, b1_or1, b1_0or, b1_t, b1_f, iN_lt, iN_inj, reduceIte, if_true, if_false, Nat.zero_add, Nat.add_zero, Bool.false_eq_true, Bool.true_eq_false, Nat.lt_irrefl, iN_az, not_true_eq_false, not_false_eq_true, Nat.reduceEqDiff, Nat.reduceLT, Nat.reduceAdd, Nat.reduceMul, Nat.reduceSub]
        · rw [List.append_nil]
          refine BF_c hB fun t ht => ?_
          have := (((hPP t).mpr ht) k hkL).1
          constructor
          · rintro (h | ⟨h, -⟩)
            · exact .inl h
            · exact .inr h
          · rintro (h | h)
            · exact .inl h
            · exact .inr ⟨h, this⟩
        · rw [List.length_nil, Nat.zero_add]
          exact Nat.le_refl _
      · intro v hv ihv K β2 T2 hF hZ2 hB
        have hK : K 0 0 = (σ 1 2) * (σ 1 5) := (FV_00 hF).trans hI.1.1
        obtain ⟨h, e1, g1, g2⟩ := w_sv (xs := xs) (β := β2) (T := T2) O H hkL hv hI hF
        have e1 := e1 (d + n + 7)
        have nxt : ∀ K2, FV k W K2 → ZR σ K2 → K2 17 = K 17 → (∀ t, PA σ W (σ 1 6) t → AT k t (W 8) → t k ≠ v) → _ := fun K2 hF2 hZ3 hK0 hno => ihv K2 β2 T2 hF2 hZ3 (by
          rw [hK0]
          refine BF_c hB fun t ht => ?_
          constructor
          · rintro (h | ⟨h, h2⟩)
            · exact .inl h
            · exact .inr ⟨h, by omega⟩
          · rintro (h | ⟨h, h2⟩)
            · exact .inl h
            · have := hno t ((hPP t).mpr ht) h
              exact .inr ⟨h, by omega⟩)
        cases h
        · obtain ⟨N, β', T', e, q1, q⟩ := nxt K hF hZ2 rfl (g1 rfl)
          refine ⟨N, β', T', ?_, q1, q⟩
          rw [eb_184_9]
          clear hI hF hB ih ihv nxt q1 q g1 g2 hPP hZ hZ2
          rw [show d + (n + 1) + 7 = d + n + 7 + 1 from rfl] at e ⊢
          simp (disch := first | assumption | omega | exact st8_a (Nat.le_of_ble_eq_true rfl)) only [hK, hv, e1, eb_184_10, eb_184_11, eb_184_15, kl_a, kl_d, kl_f, kl_i, kl_l, kl_n, kl_r, xr_1, xr_10, xr_135, xr_136, xr_137, xr_138, xr_139, xr_16, xr_17, xr_18, xr_19, xr_2, xr_20, xr_27, xr_28, xr_3, xr_32, xr_37, xr_38, xr_4, xr_43, xr_5, xr_67, af_0, af_1, xt_goto, xt_ic_ge, xt_ic_ne, xt_if_eq, xt_if_ne, xt_nop, xt_nu_0, xt_nu_1, xt_re, wF_0, wF_1, wF_2, wF_3, wF_4, wF_5, wF_6, wF_7, wF_8, wF_9, wF_10, wF_11, wF_12, wF_13, wP_9, wP_10, wL_5, wC_5, wC_17, wD, hw_app, hw_len, wA_1, wA_2, wA_3, wA_4, wA_5, wA_6, wA_7, wA_8, wA_17, wW_1, wW_2, wW_3, wW_4, wW_5, wW_6, wW_7, wW_8, wW_17, mF_8 (Mo_hw H), xq_175_12_virtual wy_c, xq_176_12_virtual wy_c, xq_181_12_virtual wy_c, xq_184_12_virtual wy_c, xq_215_63_virtualm (Mo_hw H), xq_216_203_static, iN_add, iN_mul, iN_sub, iN_and, iN_or, iN_clr, iN_shl, iN_shr, tb_r1, b1_z, b1_or, b1_and, b1_or0, b1_or1, b1_0or, b1_t, b1_f, iN_lt, iN_inj, reduceIte, if_true, if_false, Nat.zero_add, Nat.add_zero, Bool.false_eq_true, Bool.true_eq_false, Nat.lt_irrefl, iN_az, not_true_eq_false, not_false_eq_true, Nat.reduceEqDiff, Nat.reduceLT, Nat.reduceAdd, Nat.reduceMul, Nat.reduceSub]
          exact e
        · obtain ⟨N, b, e2, f1, f0, f2, f3, f4⟩ := g2 rfl
          have e2 := e2 (d + n + 2)
          rw [show d + n + 2 + 5 = d + n + 7 by omega] at e2
          have n17 := f0 17 (by decide) (by decide)
          have zN : ZR σ N := ZR_c (fun b h1 h2 => f0 b (by omega) (by omega)) hZ2
          cases b
          · obtain ⟨N2, β', T', e, q1, q2, q3, q4, q5⟩ := nxt N f1 zN n17 (f3 rfl)
            rw [n17] at q4
            refine ⟨N2, β', T', ?_, q1, q2, q3, q4, q5⟩
            rw [eb_184_9]
            clear hI hF hB ih ihv nxt q1 q2 q3 q4 q5 g1 g2 hPP f1 f0 f2 f3 f4 hZ hZ2 zN
            rw [show d + (n + 1) + 7 = d + n + 7 + 1 from rfl] at e ⊢
            simp (disch := first | assumption | omega | exact st8_a (Nat.le_of_ble_eq_true rfl)) only [hK, hv, e1, e2, eb_184_10, eb_184_11, eb_184_12, eb_184_13, eb_184_15, kl_a, kl_d, kl_f, kl_i, kl_l, kl_n, kl_r, xr_1, xr_10, xr_135, xr_136, xr_137, xr_138, xr_139, xr_16, xr_17, xr_18, xr_19, xr_2, xr_20, xr_27, xr_28, xr_3, xr_32, xr_37, xr_38, xr_4, xr_43, xr_5, xr_67, af_0, af_1, xt_goto, xt_ic_ge, xt_ic_ne, xt_if_eq, xt_if_ne, xt_nop, xt_nu_0, xt_nu_1, xt_re, wF_0, wF_1, wF_2, wF_3, wF_4, wF_5, wF_6, wF_7, wF_8, wF_9, wF_10, wF_11, wF_12, wF_13, wP_9, wP_10, wL_5, wC_5, wC_17, wD, hw_app, hw_len, wA_1, wA_2, wA_3, wA_4, wA_5, wA_6, wA_7, wA_8, wA_17, wW_1, wW_2, wW_3, wW_4, wW_5, wW_6, wW_7, wW_8, wW_17, mF_8 (Mo_hw H), xq_175_12_virtual wy_c, xq_176_12_virtual wy_c, xq_181_12_virtual wy_c, xq_184_12_virtual wy_c, xq_215_63_virtualm (Mo_hw H), xq_216_203_static, iN_add, iN_mul, iN_sub, iN_and, iN_or, iN_clr, iN_shl, iN_shr, tb_r1, b1_z, b1_or, b1_and, b1_or0, b1_or1, b1_0or, b1_t, b1_f, iN_lt, iN_inj, reduceIte, if_true, if_false, Nat.zero_add, Nat.add_zero, Bool.false_eq_true, Bool.true_eq_false, Nat.lt_irrefl, iN_az, not_true_eq_false, not_false_eq_true, Nat.reduceEqDiff, Nat.reduceLT, Nat.reduceAdd, Nat.reduceMul, Nat.reduceSub]
            exact e
          · obtain ⟨j1, j2⟩ := f4 rfl
            have hPN : ∀ t, PA σ N (σ 1 6) t ↔ P t := fun t => (PA_fv hL f1 (Nat.le_refl _) t).trans (hPP t)
            have hBN : BF σ P h0.length β2 (N 17) T2 (fun t => TX (k + 1) t (N 8)) := by
              rw [n17]
              exact BF_c hB fun t _ => (TX_1 f2).symm
            obtain ⟨N2, β3, T3, e5, r1, r5, r2, r3, r4⟩ := ih (k + 1) (by omega) N β2 T2 j1 hPN zN hBN
            obtain ⟨N3, β', T', e, q1, q5, q2, q3, q4⟩ := ihv N2 β3 (T2 ++ T3) (FV_t f1 (FV_w r1 (by omega))) r5 (BF_c r2 fun t _ => by
              rw [TX_1 f2, AT_1 f2]
              constructor
              · rintro ((h | ⟨h1, h2⟩) | ⟨h1, h2⟩)
                · exact .inl h
                · exact .inr ⟨h1, by omega⟩
                · exact .inr ⟨h1, by omega⟩
              · rintro (h | ⟨h1, h2⟩)
                · exact .inl (.inl h)
                · by_cases e : t k = v
                  · exact .inr ⟨h1, e⟩
                  · exact .inl (.inr ⟨h1, by omega⟩))
            rw [List.append_assoc] at e q2
            rw [n17] at r3
            refine ⟨N3, β', T3 ++ T', ?_, q1, q5, q2, ?_, SZ_a r4 q4⟩
            · rw [eb_184_9]
              clear hI hF hB ih ihv nxt g1 g2 hPP f1 f0 f2 f3 f4 j1 j2 hPN hBN q1 q2 q3 q4 q5 r1 r2 r3 r4 r5 hZ hZ2 zN
              rw [show d + (n + 1) + 7 = d + n + 7 + 1 from rfl] at e ⊢
              simp (disch := first | assumption | omega | exact st8_a (Nat.le_of_ble_eq_true rfl)) only [hK, hv, e1, e2, e5, eb_184_10, eb_184_11, eb_184_12, eb_184_13, eb_184_14, eb_184_15, kl_a, kl_d, kl_f, kl_i, kl_l, kl_n, kl_r, xr_1, xr_10, xr_135, xr_136, xr_137, xr_138, xr_139, xr_16, xr_17, xr_18, xr_19, xr_2, xr_20, xr_27, xr_28, xr_3, xr_32, xr_37, xr_38, xr_4, xr_43, xr_5, xr_67, af_0, af_1, xt_goto, xt_ic_ge, xt_ic_ne, xt_if_eq, xt_if_ne, xt_nop, xt_nu_0, xt_nu_1, xt_re, wF_0, wF_1, wF_2, wF_3, wF_4, wF_5, wF_6, wF_7, wF_8, wF_9, wF_10, wF_11, wF_12, wF_13, wP_9, wP_10, wL_5, wC_5, wC_17, wD, hw_app, hw_len, wA_1, wA_2, wA_3, wA_4, wA_5, wA_6, wA_7, wA_8, wA_17, wW_1, wW_2, wW_3, wW_4, wW_5, wW_6, wW_7, wW_8, wW_17, mF_8 (Mo_hw H), xq_175_12_virtual wy_c, xq_176_12_virtual wy_c, xq_181_12_virtual wy_c, xq_184_12_virtual wy_c, xq_215_63_virtualm (Mo_hw H), xq_216_203_static, iN_add, iN_mul, iN_sub, iN_and, iN_or, iN_clr, iN_shl, iN_shr, tb_r1, b1_z, b1_or, b1_and, b1_or0, b1_or1, b1_0or, b1_t, b1_f, iN_lt, iN_inj, reduceIte, if_true, if_false, Nat.zero_add, Nat.add_zero, Bool.false_eq_true, Bool.true_eq_false, Nat.lt_irrefl, iN_az, not_true_eq_false, not_false_eq_true, Nat.reduceEqDiff, Nat.reduceLT, Nat.reduceAdd, Nat.reduceMul, Nat.reduceSub]
              exact e
            · rw [List.length_append]
              omega
    obtain ⟨g, e1, g1, g2, g3, g4⟩ := m_215 (xs := xs) (d := d + n + 3) (k := k) (m := k) (β := β) (T := T) O H (by omega) (by omega) fun l hl => (hI.2.2 l hl).1
    have hSP : SP σ k (W 8) g := ⟨g1, g2, fun j hj => (g3 j hj).trans (hZ k (by omega) j hj), g4⟩
    have w17 : ur W (10 + k) g 17 = W 17 := ur_n (by omega)
    have fv1 : FV k W (ur W (10 + k) g) := ⟨by rw [ur_n (by omega)], fun b _ hb _ _ => ur_n (by omega), fun _ _ => by rw [ur_n (by omega)], fun _ _ => by rw [ur_n (by omega)]⟩
    have z1 : ZR σ (ur W (10 + k) g) := fun i hi j hj => by
      by_cases e : i = k
      · rw [e, ur_s]; exact hSP.2.2.1 j hj
      · rw [ur_n (by omega)]; exact hZ i hi j hj
    have gs : ur W (10 + k) g (10 + k) = g := ur_s _ _ _
    have hne : ¬ k = (σ 1 6) := by omega
    have go : ∃ N β' T', ev xs (d + (n + 1) + 7) 184 9 ([.ref h0.length, .int (nI k), .ref (h0.length + (10 + k)), .int (nI 0)], [], hw h0 (σ 1 6) (ur W (10 + k) g) β T) = some (.inl none, hw h0 (σ 1 6) N β' (T ++ T')) ∧ FV k W N ∧ ZR σ N ∧ BF σ P h0.length β' (N 17) (T ++ T') (fun t => TX k t (W 8) ∨ AT k t (W 8)) ∧ T'.length + potf β' (N 17) ≤ potf β (W 17) ∧ SZ σ T' := by
      have := key 0 (Nat.zero_le _) (ur W (10 + k) g) β T fv1 z1 (by rw [w17]; exact BF_c hB fun t _ => ⟨fun h => .inl h, fun h => h.elim id fun z => absurd z.2 (Nat.not_lt_zero _)⟩)
      rw [w17] at this
      exact this
    clear key
    rcases hB with ⟨hβ, hno⟩ | ⟨i, t, hβ, hT2, hPt, hAt, hSt, hmin⟩
    · subst hβ
      obtain ⟨N, β', T', e, q⟩ := go
      refine ⟨N, β', T', ?_, q⟩
      rw [eb_184_0]
      clear hI hPP hno hZ hSP z1 fv1 g1 g2 g3 g4 q ih
      rw [show d + (n + 1) + 7 = d + n + 7 + 1 from rfl] at e ⊢
      rw [show d + n + 3 + 4 = d + n + 7 from rfl] at e1
      simp (disch := first | assumption | omega | exact st8_a (Nat.le_of_ble_eq_true rfl)) only [e1, hne, eb_184_1, eb_184_5, eb_184_8, kl_a, kl_d, kl_f, kl_i, kl_l, kl_n, kl_r, xr_1, xr_10, xr_135, xr_136, xr_137, xr_138, xr_139, xr_16, xr_17, xr_18, xr_19, xr_2, xr_20, xr_27, xr_28, xr_3, xr_32, xr_37, xr_38, xr_4, xr_43, xr_5, xr_67, af_0, af_1, xt_goto, xt_ic_ge, xt_ic_ne, xt_if_eq, xt_if_ne, xt_nop, xt_nu_0, xt_nu_1, xt_re, wF_0, wF_1, wF_2, wF_3, wF_4, wF_5, wF_6, wF_7, wF_8, wF_9, wF_10, wF_11, wF_12, wF_13, wP_9, wP_10, wL_5, wC_5, wC_17, wD, hw_app, hw_len, wA_1, wA_2, wA_3, wA_4, wA_5, wA_6, wA_7, wA_8, wA_17, wW_1, wW_2, wW_3, wW_4, wW_5, wW_6, wW_7, wW_8, wW_17, mF_8 (Mo_hw H), xq_175_12_virtual wy_c, xq_176_12_virtual wy_c, xq_181_12_virtual wy_c, xq_184_12_virtual wy_c, xq_215_63_virtualm (Mo_hw H), xq_216_203_static, iN_add, iN_mul, iN_sub, iN_and, iN_or, iN_clr, iN_shl, iN_shr, tb_r1, b1_z, b1_or, b1_and, b1_or0, b1_or1, b1_0or, b1_t, b1_f, iN_lt, iN_inj, reduceIte, if_true, if_false, Nat.zero_add, Nat.add_zero, Bool.false_eq_true, Bool.true_eq_false, Nat.lt_irrefl, iN_az, not_true_eq_false, not_false_eq_true, Nat.reduceEqDiff, Nat.reduceLT, Nat.reduceAdd, Nat.reduceMul, Nat.reduceSub]
      exact e
    · subst hβ
      obtain ⟨b, e3, hb⟩ := m_216 (xs := xs) (d := d + n + 7) (p := h0.length + (10 + k)) (p2 := h0.length + 17) (f := g) (g := W 17) (Mo_hw (nn := (σ 1 6)) (W := ur W (10 + k) g) (β := .ref (h0.length + (18 + i))) (T := T) H) ((sh_k hk6).trans (by rw [gs])) ((hw_k (by decide)).trans (by show some (oI (ar 4 (ur W (10 + k) g 17))) = _; rw [w17])) (fun j hj => by
        by_cases h : j < (σ 1 4)
        · have := g2 j h
          omega
        · rw [hSP.2.2.1 j (by omega)]; decide) (fun j hj => by
        by_cases h : j < (σ 1 4)
        · have := hSt.2.1 j h
          omega
        · rw [hSt.2.2.1 j (by omega)]; decide)
      rw [SP_l O hSP hSt] at hb
      cases b
      · have hle : kvl σ (σ 1 6) t ≤ kvl σ k (W 8) := Nat.le_of_not_lt fun z => by
          have := hb.mpr z
          cases this
        refine ⟨ur W (10 + k) g, .ref (h0.length + (18 + i)), [], ?_, fv1, z1, ?_, ?_, SZ_0⟩
        · clear hI hPP hmin hAt hT2 hZ hSP z1 fv1 g1 g2 g3 g4 hSt hb go ih
          rw [eb_184_0, List.append_nil]
          rw [show d + (n + 1) + 7 = d + n + 7 + 1 from rfl]
          rw [show d + n + 3 + 4 = d + n + 7 from rfl] at e1
          simp (disch := first | assumption | omega | exact st8_a (Nat.le_of_ble_eq_true rfl)) only [e1, e3, eb_184_1, eb_184_2, eb_184_3, eb_184_4, kl_a, kl_d, kl_f, kl_i, kl_l, kl_n, kl_r, xr_1, xr_10, xr_135, xr_136, xr_137, xr_138, xr_139, xr_16, xr_17, xr_18, xr_19, xr_2, xr_20, xr_27, xr_28, xr_3, xr_32, xr_37, xr_38, xr_4, xr_43, xr_5, xr_67, af_0, af_1, xt_goto, xt_ic_ge, xt_ic_ne, xt_if_eq, xt_if_ne, xt_nop, xt_nu_0, xt_nu_1, xt_re, wF_0, wF_1, wF_2, wF_3, wF_4, wF_5, wF_6, wF_7, wF_8, wF_9, wF_10, wF_11, wF_12, wF_13, wP_9, wP_10, wL_5, wC_5, wC_17, wD, hw_app, hw_len, wA_1, wA_2, wA_3, wA_4, wA_5, wA_6, wA_7, wA_8, wA_17, wW_1, wW_2, wW_3, wW_4, wW_5, wW_6, wW_7, wW_8, wW_17, mF_8 (Mo_hw H), xq_175_12_virtual wy_c, xq_176_12_virtual wy_c, xq_181_12_virtual wy_c, xq_184_12_virtual wy_c, xq_215_63_virtualm (Mo_hw H), xq_216_203_static, iN_add, iN_mul, iN_sub, iN_and, iN_or, iN_clr, iN_shl, iN_shr, tb_r1, b1_z, b1_or, b1_and, b1_or0, b1_or1, b1_0or, b1_t, b1_f, iN_lt, iN_inj, reduceIte, if_true, if_false, Nat.zero_add, Nat.add_zero, Bool.false_eq_true, Bool.true_eq_false, Nat.lt_irrefl, iN_az, not_true_eq_false, not_false_eq_true, Nat.reduceEqDiff, Nat.reduceLT, Nat.reduceAdd, Nat.reduceMul, Nat.reduceSub]
        · rw [List.append_nil, w17]
          refine .inr ⟨i, t, rfl, hT2, hPt, .inl hAt, hSt, fun u hu hA => ?_⟩
          rcases hA with hA | hA
          · exact hmin u hu hA
          · have h1 := kvl_m (σ := σ) (t := u) (show k ≤ (σ 1 6) by omega)
            rw [kvl_cg hA] at h1
            exact ⟨by omega, fun _ h => TX_as (TX_w (by omega) (TX_c2 (AT_s hA) hAt)) h⟩
        · rw [w17]
          show 0 + _ ≤ _
          omega
      · obtain ⟨N, β', T', e, q⟩ := go
        refine ⟨N, β', T', ?_, q⟩
        rw [eb_184_0]
        clear hI hPP hmin hAt hT2 hZ hSP z1 fv1 g1 g2 g3 g4 hSt hb q ih
        rw [show d + (n + 1) + 7 = d + n + 7 + 1 from rfl] at e ⊢
        rw [show d + n + 3 + 4 = d + n + 7 from rfl] at e1
        simp (disch := first | assumption | omega | exact st8_a (Nat.le_of_ble_eq_true rfl)) only [e1, e3, hne, eb_184_1, eb_184_2, eb_184_3, eb_184_5, eb_184_8, kl_a, kl_d, kl_f, kl_i, kl_l, kl_n, kl_r, xr_1, xr_10, xr_135, xr_136, xr_137, xr_138, xr_139, xr_16, xr_17, xr_18, xr_19, xr_2, xr_20, xr_27, xr_28, xr_3, xr_32, xr_37, xr_38, xr_4, xr_43, xr_5, xr_67, af_0, af_1, xt_goto, xt_ic_ge, xt_ic_ne, xt_if_eq, xt_if_ne, xt_nop, xt_nu_0, xt_nu_1, xt_re, wF_0, wF_1, wF_2, wF_3, wF_4, wF_5, wF_6, wF_7, wF_8, wF_9, wF_10, wF_11, wF_12, wF_13, wP_9, wP_10, wL_5, wC_5, wC_17, wD, hw_app, hw_len, wA_1, wA_2, wA_3, wA_4, wA_5, wA_6, wA_7, wA_8, wA_17, wW_1, wW_2, wW_3, wW_4, wW_5, wW_6, wW_7, wW_8, wW_17, mF_8 (Mo_hw H), xq_175_12_virtual wy_c, xq_176_12_virtual wy_c, xq_181_12_virtual wy_c, xq_184_12_virtual wy_c, xq_215_63_virtualm (Mo_hw H), xq_216_203_static, iN_add, iN_mul, iN_sub, iN_and, iN_or, iN_clr, iN_shl, iN_shr, tb_r1, b1_z, b1_or, b1_and, b1_or0, b1_or1, b1_0or, b1_t, b1_f, iN_lt, iN_inj, reduceIte, if_true, if_false, Nat.zero_add, Nat.add_zero, Bool.false_eq_true, Bool.true_eq_false, Nat.lt_irrefl, iN_az, not_true_eq_false, not_false_eq_true, Nat.reduceEqDiff, Nat.reduceLT, Nat.reduceAdd, Nat.reduceMul, Nat.reduceSub]
        exact e
end Wyl
