/-! THE MODEL'S Ways: findsLightest -/
def FV (k : Nat) (W N : Nat → Nat → Nat) : Prop := N 0 0 = W 0 0 ∧ (∀ b, 0 < b → b < 10 → b ≠ 7 → b ≠ 8 → N b = W b) ∧ (∀ j, j < 6 * k + 6 → N 7 j = W 7 j) ∧ ∀ j, j < k → N 8 j = W 8 j
/-- the best of the tables A so far -/
def BS (σ : Nat → Nat → Nat) (P : (Nat → Nat) → Prop) (len : Nat) (β : Value) (w : Nat) (T : ab_H) (A : (Nat → Nat) → Prop) : Prop :=
  (β = .null ∧ ∀ t, P t → ¬ A t) ∨ ∃ i t, β = .ref (len + (18 + i)) ∧ T[i]? = some (oI (ar (σ 1 6) t)) ∧ P t ∧ A t ∧ w = wtt σ t ∧ ∀ u, P u → A u → w ≤ wtt σ u ∧ (wtt σ u = w → ¬ TX (σ 1 6) u t)
def pot (β : Value) (w : Nat) : Nat := match β with
  | .null => 163
  | _ => w
def SZ (σ : Nat → Nat → Nat) (T : ab_H) : Prop := ∀ o, o ∈ T → ∃ f, o = oI (ar (σ 1 6) f)
section Wyi
variable {xs : List Int32} {d m n : Nat} {h0 T T2 A0 : ab_H} {σ W N K : Nat → Nat → Nat} {μ : Nat → Nat} {ν : Nat → Value} {β : Value} {a b u k v w x y q set l i p nn : Nat} {t s r tab : Nat → Nat} {y2 y3 y4 y5 y6 : Value} {P A B : (Nat → Nat) → Prop}
set_option maxRecDepth 100000 in
theorem IW_cg (h0 : N 0 0 = W 0 0) (h5 : N 5 = W 5) (h6 : N 6 = W 6) (h7 : N 7 = W 7) (h8 : N 8 = W 8) : IW σ k N ↔ IW σ k W := by
  unfold IW BW RW7 PA
  rw [h0, h5, h6, h7, h8]
set_option maxRecDepth 100000 in
theorem PA_c2 (h5 : N 5 = W 5) (h6 : N 6 = W 6) (h7 : N 7 = W 7) : PA σ N n t ↔ PA σ W n t := by
  unfold PA
  rw [h5, h6, h7]
set_option maxRecDepth 100000 in
theorem FV_8 (h : FV k W N) : AT k (N 8) (W 8) := h.2.2.2
set_option maxRecDepth 100000 in
theorem FV_r : FV k W W := ⟨rfl, fun _ _ _ _ _ => rfl, fun _ _ => rfl, fun _ _ => rfl⟩
set_option maxRecDepth 100000 in
theorem FV_t (h : FV k W N) (h2 : FV k N K) : FV k W K := ⟨h2.1.trans h.1, fun b a1 a2 a3 a4 => (h2.2.1 b a1 a2 a3 a4).trans (h.2.1 b a1 a2 a3 a4), fun j hj => (h2.2.2.1 j hj).trans (h.2.2.1 j hj), fun j hj => (h2.2.2.2 j hj).trans (h.2.2.2 j hj)⟩
set_option maxRecDepth 100000 in
theorem FV_w {k2 : Nat} (h : FV k2 W N) (hk : k ≤ k2) : FV k W N := ⟨h.1, h.2.1, fun j hj => h.2.2.1 j (by omega), fun j hj => h.2.2.2 j (by omega)⟩
set_option maxRecDepth 100000 in
theorem FV_u : FV k W (up W 0 10 x) := ⟨by rw [up_s, u1_n (by decide)], fun b h _ _ _ => up_n (by omega), fun _ _ => by rw [up_n (by decide)], fun _ _ => by rw [up_n (by decide)]⟩
set_option maxRecDepth 100000 in
theorem FV_f (h : FW k W N) : FV k W N := ⟨by rw [h.1 0 (by decide) (by decide)], fun b _ _ h7 h8 => h.1 b h7 h8, h.2.1, h.2.2⟩
set_option maxRecDepth 100000 in
theorem FV_00 (h : FV k W N) : N 0 0 = W 0 0 := h.1
set_option maxRecDepth 100000 in
theorem PA_fv (hL : (σ 1 6) ≤ 6) (h : FV k W N) (hn : n ≤ (σ 1 6)) (t : Nat → Nat) : PA σ N n t ↔ PA σ W n t := by
  unfold PA
  rw [h.2.1 5 (by decide) (by decide) (by decide) (by decide), h.2.1 6 (by decide) (by decide) (by decide) (by decide)]
  constructor
  · intro h2 j hj
    have := h2 j hj
    rw [h.2.2.1 j (by omega)] at this
    exact this
  · intro h2 j hj
    have := h2 j hj
    rw [h.2.2.1 j (by omega)]
    exact this
set_option maxRecDepth 100000 in
theorem w_sv (O : Ok σ) (H : Mo σ μ ν h0) (hk : k < (σ 1 6)) (hv : v < (σ 1 2) * (σ 1 5)) (hI : IW σ k W) (hF : FV k W K) : ∃ h : Bool, (∀ d, ev xs d 176 0 ([.ref h0.length, .int (nI k), .int (nI v)], [], hw h0 (σ 1 6) K β T) = some (.inl (some (.int (nI (b1 h)))), hw h0 (σ 1 6) K β T)) ∧ (h = false → ∀ t, PA σ W (σ 1 6) t → AT k t (W 8) → t k ≠ v) ∧ (h = true → ∃ N, ∃ b : Bool, (∀ d, ev xs (d + 5) 175 0 ([.ref h0.length, .int (nI k), .int (nI v), .retAddr 9, .retAddr 9, .retAddr 9], [], hw h0 (σ 1 6) K β T) = some (.inl (some (.int (nI (b1 b)))), hw h0 (σ 1 6) N β T)) ∧ FV k W N ∧ (∀ b, b ≠ 7 → b ≠ 8 → N b = K b) ∧ AT (k + 1) (N 8) (u1 (W 8) k v) ∧ (b = false → ∀ t, PA σ W (σ 1 6) t → AT k t (W 8) → t k ≠ v) ∧ (b = true → IW σ (k + 1) N ∧ ∀ x, k < x → x < (σ 1 6) → N 7 (6 * (k + 1) + x) ≠ 0)) := by
  obtain ⟨X, hX⟩ : ∃ X : Nat → Nat → Nat, X = fun b => if 0 < b ∧ b < 10 then W b else K b := ⟨_, rfl⟩
  have x1 : ∀ b, 0 < b → b < 10 → X b = W b := fun b h1 h2 => by
    rw [hX]
    exact if_pos ⟨h1, h2⟩
  have x0 : X 0 0 = W 0 0 := by
    rw [hX]
    exact hF.1
  have hFX : FW k X K := ⟨fun b h7 h8 => by
    by_cases hb : 0 < b ∧ b < 10
    · rw [x1 b hb.1 hb.2]
      exact hF.2.1 b hb.1 hb.2 h7 h8
    · rw [hX]
      exact (if_neg hb).symm, fun j hj => by rw [x1 7 (by decide) (by decide)]; exact hF.2.2.1 j hj, fun j hj => by rw [x1 8 (by decide) (by decide)]; exact hF.2.2.2 j hj⟩
  have h8 := x1 8 (by decide) (by decide)
  obtain ⟨h, e1, g1, g2⟩ := w_sp (xs := xs) (β := β) (T := T) O H hk hv ((IW_cg x0 (x1 5 (by decide) (by decide)) (x1 6 (by decide) (by decide)) (x1 7 (by decide) (by decide)) h8).mpr hI) hFX
  have tr : (∀ t, PA σ X (σ 1 6) t → AT k t (X 8) → t k ≠ v) → ∀ t, PA σ W (σ 1 6) t → AT k t (W 8) → t k ≠ v := fun g t h1 h2 => g t ((PA_c2 (x1 5 (by decide) (by decide)) (x1 6 (by decide) (by decide)) (x1 7 (by decide) (by decide))).mpr h1) (by rw [h8]; exact h2)
  refine ⟨h, e1, fun hh => tr (g1 hh), fun hh => ?_⟩
  obtain ⟨N, b, e2, f1, f2, f3, f4⟩ := g2 hh
  rw [h8] at f2
  have fb : ∀ b, b ≠ 7 → b ≠ 8 → N b = K b := fun b h1 h2 => (f1.1 b h1 h2).trans (hFX.1 b h1 h2).symm
  exact ⟨N, b, e2, ⟨by rw [fb 0 (by decide) (by decide)]; exact hF.1, fun b a1 a2 a3 a4 => (fb b a3 a4).trans (hF.2.1 b a1 a2 a3 a4), fun j hj => by rw [f1.2.1 j hj, x1 7 (by decide) (by decide)], fun j hj => by rw [f1.2.2 j hj, h8]⟩, fb, f2, fun hb => tr (f3 hb), f4⟩
set_option maxRecDepth 100000 in
theorem TX_as (h : TX n t s) : ¬ TX n s t := by
  rintro ⟨j, hj, h1, h2⟩
  obtain ⟨k, hk, h3, h4⟩ := h
  by_cases e : j < k
  · have := h3 j e
    omega
  · by_cases e2 : k < j
    · have := h1 k e2
      omega
    · obtain rfl : j = k := by omega
      omega
set_option maxRecDepth 100000 in
theorem TX_c1 (h : AT n t s) (hx : TX n t r) : TX n s r := by
  obtain ⟨k, hk, h3, h4⟩ := hx
  exact ⟨k, hk, fun j hj => (h j (by omega)).symm.trans (h3 j hj), by rw [← h k hk]; exact h4⟩
set_option maxRecDepth 100000 in
theorem TX_c2 (h : AT n s r) (hx : TX n t s) : TX n t r := by
  obtain ⟨k, hk, h3, h4⟩ := hx
  exact ⟨k, hk, fun j hj => (h3 j hj).trans (h j (by omega)), by rw [← h k hk]; exact h4⟩
set_option maxRecDepth 100000 in
theorem TX_w (hn : k ≤ n) (hx : TX k t s) : TX n t s := by
  obtain ⟨j, hj, h⟩ := hx
  exact ⟨j, by omega, h⟩
set_option maxRecDepth 100000 in
theorem TX_1 (h : AT (k + 1) s (u1 r k v)) : TX (k + 1) t s ↔ TX k t r ∨ (AT k t r ∧ t k < v) := by
  have hk : s k = v := by rw [h k (Nat.lt_succ_self k), u1_s]
  have hr : AT k s r := fun j hj => by rw [h j (by omega), u1_n (by omega)]
  constructor
  · rintro ⟨j, hj, h1, h2⟩
    by_cases e : j = k
    · subst e
      exact .inr ⟨AT_t h1 hr, by omega⟩
    · exact .inl ⟨j, by omega, fun i hi => (h1 i hi).trans (hr i (by omega)), by rw [← hr j (by omega)]; exact h2⟩
  · rintro (⟨j, hj, h1, h2⟩ | ⟨h1, h2⟩)
    · exact ⟨j, by omega, fun i hi => (h1 i hi).trans (hr i (by omega)).symm, by rw [hr j hj]; exact h2⟩
    · exact ⟨k, Nat.lt_succ_self k, AT_t h1 (AT_s hr), by omega⟩
set_option maxRecDepth 100000 in
theorem AT_1 (h : AT (k + 1) s (u1 r k v)) : AT (k + 1) t s ↔ AT k t r ∧ t k = v := by
  have hk : s k = v := by rw [h k (Nat.lt_succ_self k), u1_s]
  have hr : AT k s r := fun j hj => by rw [h j (by omega), u1_n (by omega)]
  constructor
  · intro h1
    exact ⟨AT_t (AT_w h1 (by omega)) hr, (h1 k (Nat.lt_succ_self k)).trans hk⟩
  · rintro ⟨h1, h2⟩ j hj
    by_cases e : j = k
    · rw [e, h2, hk]
    · rw [h1 j (by omega), hr j (by omega)]
set_option maxRecDepth 100000 in
theorem BS_c (h : BS σ P n β w T A) (hA : ∀ t, P t → (A t ↔ B t)) : BS σ P n β w T B := by
  rcases h with ⟨h1, h2⟩ | ⟨i, t, h1, h2, h3, h4, h5, h6⟩
  · exact .inl ⟨h1, fun t hp hb => h2 t hp ((hA t hp).mpr hb)⟩
  · exact .inr ⟨i, t, h1, h2, h3, (hA t h3).mp h4, h5, fun u hu hb => h6 u hu ((hA u hu).mpr hb)⟩
set_option maxRecDepth 100000 in
theorem wtt_cg (h : AT (σ 1 6) t s) : wtt σ t = wtt σ s := by
  have e1 : ∀ l, l < (σ 1 6) → wv σ l (t l / (σ 1 5)) (t l % (σ 1 5)) = wv σ l (s l / (σ 1 5)) (s l % (σ 1 5)) := fun l hl => by rw [h l hl]
  have e2 : ∀ u, ctc σ (fun l => t l / (σ 1 5)) u = ctc σ (fun l => s l / (σ 1 5)) u := fun u => ctc_cg fun l hl => by
    show t l / (σ 1 5) = s l / (σ 1 5)
    rw [h l hl]
  show sm (σ 1 6) (fun l => wv σ l (t l / (σ 1 5)) (t l % (σ 1 5))) + sm (σ 1 4) (fun u => σ 11 2 * gap σ (ctc σ (fun l => t l / (σ 1 5)) u)) = sm (σ 1 6) (fun l => wv σ l (s l / (σ 1 5)) (s l % (σ 1 5))) + sm (σ 1 4) (fun u => σ 11 2 * gap σ (ctc σ (fun l => s l / (σ 1 5)) u))
  rw [sm_cg e1, sm_cg (n := (σ 1 4)) (g := fun u => σ 11 2 * gap σ (ctc σ (fun l => s l / (σ 1 5)) u)) fun u _ => congrArg (fun x => σ 11 2 * gap σ x) (e2 u)]
set_option maxRecDepth 100000 in
theorem ws_cg (h : AT k t s) : ws σ k t = ws σ k s := sm_cg fun j hj => by rw [h j hj]
-- the lower bound of what goes on from lesson k + 1
set_option maxRecDepth 100000 in
theorem m_183b (O : Ok σ) (H : Mo σ μ ν h0) (hk : k < (σ 1 6)) (hI : IW σ (k + 1) N) (hz : ∀ x, k < x → x < (σ 1 6) → N 7 (6 * (k + 1) + x) ≠ 0) {x2 x3 x4 : Int32} : ∀ l, l ≤ (σ 1 6) → k < l → ∀ bd, bd ≤ 27 * l → ∃ y bd', ev xs (d + 4) 183 16 ([.ref h0.length, .int (nI k), .int x2, .int x3, .int x4, .int (nI bd), .int (nI l)], [], hw h0 (σ 1 6) N (.ref b) T) = ev xs (d + 4) 183 20 ([.ref h0.length, .int (nI k), .int x2, .int x3, .int x4, .int (nI bd'), y], [], hw h0 (σ 1 6) N (.ref b) T) ∧ bd' ≤ 27 * (σ 1 6) ∧ ∀ t, PA σ N (σ 1 6) t → AT (k + 1) t (N 8) → bd ≤ ws σ l t → bd' ≤ ws σ (σ 1 6) t := by
  obtain ⟨hD1, hD2, hH1, hH2, hS, hC, hT, hR, hL, hQ⟩ := Ok_b O
  have hV := vle O
  obtain ⟨i1, i2, i3⟩ := hI
  refine lp (σ 1 6) ?_ ?_
  · intro _ bd hbd
    refine ⟨.int (nI (σ 1 6)), bd, ?_, hbd, fun t _ _ h => h⟩
    rw [eb_183_16]
    clear i1 i2 i3 hz
    simp (disch := first | assumption | omega | exact st8_a (Nat.le_of_ble_eq_true rfl)) only [kl_a, kl_d, kl_f, kl_i, kl_l, kl_n, kl_r, xr_1, xr_10, xr_2, xr_27, xr_28, xr_3, xr_31, xr_32, xr_33, xr_34, xr_35, xr_36, xr_37, xr_38, xr_4, xr_41, xr_43, xr_48, xr_5, xr_56, xr_57, xr_63, af_0, af_1, xt_goto, xt_ic_ge, xt_ic_ne, xt_if_eq, xt_if_ne, xt_nop, xt_nu_0, xt_nu_1, xt_re, wF_0, wF_1, wF_2, wF_3, wF_4, wF_5, wF_6, wF_7, wF_8, wF_9, wF_10, wF_11, wF_12, wF_13, wP_9, wP_10, wL_5, wC_5, wC_17, wD, hw_app, hw_len, wA_1, wA_2, wA_3, wA_4, wA_5, wA_6, wA_7, wA_8, wA_17, wW_1, wW_2, wW_3, wW_4, wW_5, wW_6, wW_7, wW_8, wW_17, mF_8 (Mo_hw H), mA_63 (Mo_hw H), mA_64 (Mo_hw H), mA_65 (Mo_hw H), mA_66 (Mo_hw H), mA_67 (Mo_hw H), mA_68 (Mo_hw H), mA_69 (Mo_hw H), mA_70 (Mo_hw H), mA_71 (Mo_hw H), xq_175_12_virtual wy_c, xq_176_12_virtual wy_c, xq_181_12_virtual wy_c, xq_183_12_virtual wy_c, xq_211_63_virtualm (Mo_hw H), xq_212_63_virtualm (Mo_hw H), xq_213_63_virtualm (Mo_hw H), iN_add, iN_mul, iN_sub, iN_and, iN_or, iN_clr, iN_shl, iN_shr, tb_r1, b1_z, b1_or, b1_and, b1_or0, b1_or1, b1_0or, b1_t, b1_f, iN_lt, iN_inj, reduceIte, if_true, if_false, Nat.zero_add, Nat.add_zero, Bool.false_eq_true, Bool.true_eq_false, Nat.lt_irrefl, iN_az, not_true_eq_false, not_false_eq_true, Nat.reduceEqDiff, Nat.reduceLT, Nat.reduceAdd, Nat.reduceMul, Nat.reduceSub]
  · intro l hl ih hkl bd hbd
    have hb7 := RW7_b hV i1 i2 (show k + 1 ≤ l by omega) hl
    obtain ⟨x, e1, x1, x2'⟩ := m_213 (xs := xs) (d := d) (u := N 7 (6 * (k + 1) + l)) O (Mo_hw (nn := (σ 1 6)) (W := N) (β := .ref b) (T := T) H) hl hb7 (hz l hkl hl) fun v hv => i1.2.1 l hl v ((i2 l hkl hl v).mp hv).1
    obtain ⟨y, bd', e2, g1, g2⟩ := ih (by omega) (bd + x) (by omega)
    refine ⟨y, bd', ?_, g1, fun t h1 h2 h3 => g2 t h1 h2 ?_⟩
    · have ix : 6 * (k + 1) + l < 42 := by omega
      rw [eb_183_16]
      clear i1 i2 i3 hz ih x2' g1 g2
      simp (disch := first | assumption | omega | exact st8_a (Nat.le_of_ble_eq_true rfl)) only [hl, e1, eb_183_17, eb_183_18, eb_183_19, kl_a, kl_d, kl_f, kl_i, kl_l, kl_n, kl_r, xr_1, xr_10, xr_2, xr_27, xr_28, xr_3, xr_31, xr_32, xr_33, xr_34, xr_35, xr_36, xr_37, xr_38, xr_4, xr_41, xr_43, xr_48, xr_5, xr_56, xr_57, xr_63, af_0, af_1, xt_goto, xt_ic_ge, xt_ic_ne, xt_if_eq, xt_if_ne, xt_nop, xt_nu_0, xt_nu_1, xt_re, wF_0, wF_1, wF_2, wF_3, wF_4, wF_5, wF_6, wF_7, wF_8, wF_9, wF_10, wF_11, wF_12, wF_13, wP_9, wP_10, wL_5, wC_5, wC_17, wD, hw_app, hw_len, wA_1, wA_2, wA_3, wA_4, wA_5, wA_6, wA_7, wA_8, wA_17, wW_1, wW_2, wW_3, wW_4, wW_5, wW_6, wW_7, wW_8, wW_17, mF_8 (Mo_hw H), mA_63 (Mo_hw H), mA_64 (Mo_hw H), mA_65 (Mo_hw H), mA_66 (Mo_hw H), mA_67 (Mo_hw H), mA_68 (Mo_hw H), mA_69 (Mo_hw H), mA_70 (Mo_hw H), mA_71 (Mo_hw H), xq_175_12_virtual wy_c, xq_176_12_virtual wy_c, xq_181_12_virtual wy_c, xq_183_12_virtual wy_c, xq_211_63_virtualm (Mo_hw H), xq_212_63_virtualm (Mo_hw H), xq_213_63_virtualm (Mo_hw H), iN_add, iN_mul, iN_sub, iN_and, iN_or, iN_clr, iN_shl, iN_shr, tb_r1, b1_z, b1_or, b1_and, b1_or0, b1_or1, b1_0or, b1_t, b1_f, iN_lt, iN_inj, reduceIte, if_true, if_false, Nat.zero_add, Nat.add_zero, Bool.false_eq_true, Bool.true_eq_false, Nat.lt_irrefl, iN_az, not_true_eq_false, not_false_eq_true, Nat.reduceEqDiff, Nat.reduceLT, Nat.reduceAdd, Nat.reduceMul, Nat.reduceSub]
      exact e2
    · have : x ≤ wq σ l (t l) := x2' _ ((i2 l hkl hl _).mpr ⟨(h1 l hl).2.1, fun j hj => by rw [← h2 j hj]; exact (h1 l hl).2.2.1 j (by omega)⟩)
      show _ ≤ ws σ l t + wq σ l (t l)
      omega
set_option maxRecDepth 100000 in
theorem BS_ap (h : BS σ P n β w T A) : BS σ P n β w (T ++ T2) A := by
  rcases h with h | ⟨i, t, h1, h2, h3⟩
  · exact .inl h
  · refine .inr ⟨i, t, h1, ?_, h3⟩
    obtain ⟨hi, -⟩ := List.getElem?_eq_some_iff.mp h2
    rw [List.getElem?_append_left hi, h2]
set_option maxRecDepth 100000 in
theorem SZ_0 : SZ σ [] := fun o ho => absurd ho List.not_mem_nil
set_option maxRecDepth 100000 in
theorem SZ_a (h : SZ σ T) (h2 : SZ σ T2) : SZ σ (T ++ T2) := fun o ho => by
  rcases List.mem_append.mp ho with ho | ho
  · exact h o ho
  · exact h2 o ho
set_option maxRecDepth 100000 in
theorem SZ_1 : SZ σ [oI (ar (σ 1 6) t)] := fun o ho => ⟨t, List.mem_singleton.mp ho⟩
-- findsLightest
set_option maxRecDepth 100000 in
theorem m_183 (O : Ok σ) (H : Mo σ μ ν h0) (hw6 : ∀ t, P t → wtt σ t ≤ 162) : ∀ n k, k + n = (σ 1 6) → ∀ W β T z, IW σ k W → (∀ t, PA σ W (σ 1 6) t ↔ P t) → z = ws σ k (W 8) → BS σ P h0.length β (W 0 10) T (fun t => TX k t (W 8)) → ∃ N β' T', ev xs (d + n + 7) 183 0 ([.ref h0.length, .int (nI k), .int (nI z), .retAddr 9, .retAddr 9, .retAddr 9, .retAddr 9], [], hw h0 (σ 1 6) W β T) = some (.inl none, hw h0 (σ 1 6) N β' (T ++ T')) ∧ FV k W N ∧ BS σ P h0.length β' (N 0 10) (T ++ T') (fun t => TX k t (W 8) ∨ AT k t (W 8)) ∧ T'.length + pot β' (N 0 10) ≤ pot β (W 0 10) ∧ SZ σ T' := by
  obtain ⟨hD1, hD2, hH1, hH2, hS, hC, hT, hR, hL, hQ⟩ := Ok_b O
  have hV := vle O
  intro n
  induction n with
  | zero =>
    intro k hk W β T z hI hPP hz hB
    have hkL : k = (σ 1 6) := by omega
    subst hkL
    have hP8 : P (W 8) := (hPP _).mp hI.2.2
    have h8 := hw6 _ hP8
    have e1 := m_212 (xs := xs) (d := d + 2) (tab := W 8) O (Mo_hw (nn := (σ 1 6)) (W := W) (β := β) (T := T) H) (hw_k (by decide) : (hw h0 (σ 1 6) W β T)[h0.length + 8]? = _) hL (Nat.le_refl _) fun l hl => (hI.2.2 l hl).1
    have e2 := m_181 (xs := xs) (d := d + 5) (W := W) (β := β) (T := T) O H
    have hwt : wt σ (fun l => W 8 l / (σ 1 5)) (fun l => W 8 l % (σ 1 5)) = wtt σ (W 8) := rfl
    rw [hwt] at e1
    -- what is new
    have nw : (∀ u, P u → TX (σ 1 6) u (W 8) → wtt σ (W 8) < wtt σ u) → BS σ P h0.length (.ref (h0.length + (18 + T.length))) (up W 0 10 (wtt σ (W 8)) 0 10) (T ++ [oI (ar (σ 1 6) (W 8))]) (fun t => TX (σ 1 6) t (W 8) ∨ AT (σ 1 6) t (W 8)) := fun h => by
      refine .inr ⟨T.length, W 8, rfl, ?_, hP8, .inr fun _ _ => rfl, by rw [up_s, u1_s], fun u hu hA => ?_⟩
      · rw [List.getElem?_append_right (Nat.le_refl _), Nat.sub_self]
        rfl
      · rw [up_s, u1_s]
        rcases hA with hA | hA
        · have := h u hu hA
          exact ⟨by omega, fun e => by omega⟩
        · rw [wtt_cg hA]
          exact ⟨Nat.le_refl _, fun _ => TX_nk hA⟩
    rcases hB with ⟨hβ, hno⟩ | ⟨i, t, hβ, hT, hPt, hAt, hwe, hmin⟩
    · subst hβ
      refine ⟨up W 0 10 (wtt σ (W 8)), .ref (h0.length + (18 + T.length)), [oI (ar (σ 1 6) (W 8))], ?_, FV_u, nw fun u hu hA => absurd hA (hno u hu), ?_, SZ_1⟩
      · clear hI hPP hno nw
        simp (disch := first | assumption | omega | exact st8_a (Nat.le_of_ble_eq_true rfl)) only [e1, e2, eb_183_0, eb_183_1, eb_183_2, eb_183_4, eb_183_5, eb_183_6, kl_a, kl_d, kl_f, kl_i, kl_l, kl_n, kl_r, xr_1, xr_10, xr_2, xr_27, xr_28, xr_3, xr_31, xr_32, xr_33, xr_34, xr_35, xr_36, xr_37, xr_38, xr_4, xr_41, xr_43, xr_48, xr_5, xr_56, xr_57, xr_63, af_0, af_1, xt_goto, xt_ic_ge, xt_ic_ne, xt_if_eq, xt_if_ne, xt_nop, xt_nu_0, xt_nu_1, xt_re, wF_0, wF_1, wF_2, wF_3, wF_4, wF_5, wF_6, wF_7, wF_8, wF_9, wF_10, wF_11, wF_12, wF_13, wP_9, wP_10, wL_5, wC_5, wC_17, wD, hw_app, hw_len, wA_1, wA_2, wA_3, wA_4, wA_5, wA_6, wA_7, wA_8, wA_17, wW_1, wW_2, wW_3, wW_4, wW_5, wW_6, wW_7, wW_8, wW_17, mF_8 (Mo_hw H), mA_63 (Mo_hw H), mA_64 (Mo_hw H), mA_65 (Mo_hw H), mA_66 (Mo_hw H), mA_67 (Mo_hw H), mA_68 (Mo_hw H), mA_69 (Mo_hw H), mA_70 (Mo_hw H), mA_71 (Mo_hw H), xq_175_12_virtual wy_c, xq_176_12_virtual wy_c, xq_181_12_virtual wy_c, xq_183_12_virtual wy_c, xq_211_63_virtualm (Mo_hw H), xq_212_63_virtualm (Mo_hw H), xq_213_63_virtualm (Mo_hw H), iN_add, iN_mul, iN_sub, iN_and, iN_or, iN_clr, iN_shl, iN_shr, tb_r1, b1_z, b1_or, b1_and, b1_or0, b1_or1, b1_0or, b1_t, b1_f, iN_lt, iN_inj, reduceIte, if_true, if_false, Nat.zero_add, Nat.add_zero, Bool.false_eq_true, Bool.true_eq_false, Nat.lt_irrefl, iN_az, not_true_eq_false, not_false_eq_true, Nat.reduceEqDiff, Nat.reduceLT, Nat.reduceAdd, Nat.reduceMul, Nat.reduceSub]
      · show 1 + up W 0 10 (wtt σ (W 8)) 0 10 ≤ 163
        rw [up_s, u1_s]
        omega
    · subst hβ
      have hwb : W 0 10 ≤ 162 := by rw [hwe]; exact hw6 t hPt
      by_cases hlt : wtt σ (W 8) < W 0 10
      · refine ⟨up W 0 10 (wtt σ (W 8)), .ref (h0.length + (18 + T.length)), [oI (ar (σ 1 6) (W 8))], ?_, FV_u, nw fun u hu hA => ?_, ?_, SZ_1⟩
        · clear hI hPP nw hmin hAt hT hwe
          simp (disch := first | assumption | omega | exact st8_a (Nat.le_of_ble_eq_true rfl)) only [e1, e2, hlt, eb_183_0, eb_183_1, eb_183_2, eb_183_3, eb_183_4, eb_183_5, eb_183_6, kl_a, kl_d, kl_f, kl_i, kl_l, kl_n, kl_r, xr_1, xr_10, xr_2, xr_27, xr_28, xr_3, xr_31, xr_32, xr_33, xr_34, xr_35, xr_36, xr_37, xr_38, xr_4, xr_41, xr_43, xr_48, xr_5, xr_56, xr_57, xr_63, af_0, af_1, xt_goto, xt_ic_ge, xt_ic_ne, xt_if_eq, xt_if_ne, xt_nop, xt_nu_0, xt_nu_1, xt_re, wF_0, wF_1, wF_2, wF_3, wF_4, wF_5, wF_6, wF_7, wF_8, wF_9, wF_10, wF_11, wF_12, wF_13, wP_9, wP_10, wL_5, wC_5, wC_17, wD, hw_app, hw_len, wA_1, wA_2, wA_3, wA_4, wA_5, wA_6, wA_7, wA_8, wA_17, wW_1, wW_2, wW_3, wW_4, wW_5, wW_6, wW_7, wW_8, wW_17, mF_8 (Mo_hw H), mA_63 (Mo_hw H), mA_64 (Mo_hw H), mA_65 (Mo_hw H), mA_66 (Mo_hw H), mA_67 (Mo_hw H), mA_68 (Mo_hw H), mA_69 (Mo_hw H), mA_70 (Mo_hw H), mA_71 (Mo_hw H), xq_175_12_virtual wy_c, xq_176_12_virtual wy_c, xq_181_12_virtual wy_c, xq_183_12_virtual wy_c, xq_211_63_virtualm (Mo_hw H), xq_212_63_virtualm (Mo_hw H), xq_213_63_virtualm (Mo_hw H), iN_add, iN_mul, iN_sub, iN_and, iN_or, iN_clr, iN_shl, iN_shr, tb_r1, b1_z, b1_or, b1_and, b1_or0, b1_or1, b1_0or, b1_t, b1_f, iN_lt, iN_inj, reduceIte, if_true, if_false, Nat.zero_add, Nat.add_zero, Bool.false_eq_true, Bool.true_eq_false, Nat.lt_irrefl, iN_az, not_true_eq_false, not_false_eq_true, Nat.reduceEqDiff, Nat.reduceLT, Nat.reduceAdd, Nat.reduceMul, Nat.reduceSub]
        · have := (hmin u hu hA).1
          omega
        · show 1 + up W 0 10 (wtt σ (W 8)) 0 10 ≤ W 0 10
          rw [up_s, u1_s]
          omega
      · refine ⟨W, .ref (h0.length + (18 + i)), [], ?_, FV_r, ?_, ?_, SZ_0⟩
        · clear hI hPP nw hmin hAt hT hwe
          rw [List.append_nil]
          simp (disch := first | assumption | omega | exact st8_a (Nat.le_of_ble_eq_true rfl)) only [e1, hlt, eb_183_0, eb_183_1, eb_183_2, eb_183_3, eb_183_6, kl_a, kl_d, kl_f, kl_i, kl_l, kl_n, kl_r, xr_1, xr_10, xr_2, xr_27, xr_28, xr_3, xr_31, xr_32, xr_33, xr_34, xr_35, xr_36, xr_37, xr_38, xr_4, xr_41, xr_43, xr_48, xr_5, xr_56, xr_57, xr_63, af_0, af_1, xt_goto, xt_ic_ge, xt_ic_ne, xt_if_eq, xt_if_ne, xt_nop, xt_nu_0, xt_nu_1, xt_re, wF_0, wF_1, wF_2, wF_3, wF_4, wF_5, wF_6, wF_7, wF_8, wF_9, wF_10, wF_11, wF_12, wF_13, wP_9, wP_10, wL_5, wC_5, wC_17, wD, hw_app, hw_len, wA_1, wA_2, wA_3, wA_4, wA_5, wA_6, wA_7, wA_8, wA_17, wW_1, wW_2, wW_3, wW_4, wW_5, wW_6, wW_7, wW_8, wW_17, mF_8 (Mo_hw H), mA_63 (Mo_hw H), mA_64 (Mo_hw H), mA_65 (Mo_hw H), mA_66 (Mo_hw H), mA_67 (Mo_hw H), mA_68 (Mo_hw H), mA_69 (Mo_hw H), mA_70 (Mo_hw H), mA_71 (Mo_hw H), xq_175_12_virtual wy_c, xq_176_12_virtual wy_c, xq_181_12_virtual wy_c, xq_183_12_virtual wy_c, xq_211_63_virtualm (Mo_hw H), xq_212_63_virtualm (Mo_hw H), xq_213_63_virtualm (Mo_hw H), iN_add, iN_mul, iN_sub, iN_and, iN_or, iN_clr, iN_shl, iN_shr, tb_r1, b1_z, b1_or, b1_and, b1_or0, b1_or1, b1_0or, b1_t, b1_f, iN_lt, iN_inj, reduceIte, if_true, if_false, Nat.zero_add, Nat.add_zero, Bool.false_eq_true, Bool.true_eq_false, Nat.lt_irrefl, iN_az, not_true_eq_false, not_false_eq_true, Nat.reduceEqDiff, Nat.reduceLT, Nat.reduceAdd, Nat.reduceMul, Nat.reduceSub]
        · rw [List.append_nil]
          refine .inr ⟨i, t, rfl, hT, hPt, .inl hAt, hwe, fun u hu hA => ?_⟩
          rcases hA with hA | hA
          · exact hmin u hu hA
          · rw [wtt_cg hA]
            exact ⟨by omega, fun _ h => TX_as hAt (TX_c1 hA h)⟩
        · show 0 + W 0 10 ≤ W 0 10
          omega
  | succ n ih =>
    intro k hk W β T z hI hPP hz hB
    have hkL : k < (σ 1 6) := by omega
    have key : ∀ v, v ≤ (σ 1 2) * (σ 1 5) → ∀ K β2 T2 y4 y5 y6, FV k W K → BS σ P h0.length β2 (K 0 10) T2 (fun t => TX k t (W 8) ∨ (AT k t (W 8) ∧ t k < v)) → ∃ N β' T', ev xs (d + (n + 1) + 7) 183 8 ([.ref h0.length, .int (nI k), .int (nI z), .int (nI v), y4, y5, y6], [], hw h0 (σ 1 6) K β2 T2) = some (.inl none, hw h0 (σ 1 6) N β' (T2 ++ T')) ∧ FV k W N ∧ BS σ P h0.length β' (N 0 10) (T2 ++ T') (fun t => TX k t (W 8) ∨ AT k t (W 8)) ∧ T'.length + pot β' (N 0 10) ≤ pot β2 (K 0 10) ∧ SZ σ T' := by
      refine lp ((σ 1 2) * (σ 1 5)) ?_ ?_
      · intro K β2 T2 y4 y5 y6 hF hB
        refine ⟨K, β2, [], ?_, hF, ?_, ?_, SZ_0⟩
        · have hK := (FV_00 hF).trans hI.1.1
          rw [eb_183_8, List.append_nil]
          clear hI hF hB ih
          simp (disch := first | assumption | omega | exact st8_a (Nat.le_of_ble_eq_true rfl)) only [hK, eb_183_24, kl_a, kl_d, kl_f, kl_i, kl_l, kl_n, kl_r, xr_1, xr_10, xr_2, xr_27, xr_28, xr_3, xr_31, xr_32, xr_33, xr_34, xr_35, xr_36, xr_37, xr_38, xr_4, xr_41, xr_43, xr_48, xr_5, xr_56, xr_57, xr_63, af_0, af_1, xt_goto, xt_ic_ge, xt_ic_ne, xt_if_eq, xt_if_ne, xt_nop, xt_nu_0, xt_nu_1, xt_re, wF_0, wF_1, wF_2, wF_3, wF_4, wF_5, wF_6, wF_7, wF_8, wF_9, wF_10, wF_11, wF_12, wF_13, wP_9, wP_10, wL_5, wC_5, wC_17, wD, hw_app, hw_len, wA_1, wA_2, wA_3, wA_4, wA_5, wA_6, wA_7, wA_8, wA_17, wW_1, wW_2, wW_3, wW_4, wW_5, wW_6, wW_7, wW_8, wW_17, mF_8 (Mo_hw H), mA_63 (Mo_hw H), mA_64 (Mo_hw H), mA_65 (Mo_hw H), mA_66 (Mo_hw H), mA_67 (Mo_hw H), mA_68 (Mo_hw H), mA_69 (Mo_hw H), mA_70 (Mo_hw H), mA_71 (Mo_hw H), xq_175_12_virtual wy_c, xq_176_12_virtual wy_c, xq_181_12_virtual wy_c, xq_183_12_virtual wy_c, xq_211_63_virtualm (Mo_hw H), xq_212_63_virtualm (Mo_hw H), xq_213_63_virtualm (Mo_hw H), iN_add, iN_mul, iN_sub, iN_and, iN_or, iN_clr, iN_shl, iN_shr, tb_r1, b1_z, b1_or, b1_and, b1_or0, b1_or1, b1_0or, b1_t, b1_f, iN_lt, iN_inj, reduceIte, if_true, if_false, Nat.zero_add, Nat.add_zero, Bool.false_eq_true, Bool.true_eq_false, Nat.lt_irrefl, iN_az, not_true_eq_false, not_false_eq_true, Nat.reduceEqDiff, Nat.reduceLT, Nat.reduceAdd, Nat.reduceMul, Nat.reduceSub]
        · rw [List.append_nil]
          refine BS_c hB fun t ht => ?_
          have := (((hPP t).mpr ht) k hkL).1
          constructor
          · rintro (h | ⟨h, -⟩)
            · exact .inl h
            · exact .inr h
          · rintro (h | h)
            · exact .inl h
            · exact .inr ⟨h, this⟩
        · rw [List.length_nil, Nat.zero_add]
          exact Nat.le_refl _
      · intro v hv ihv K β2 T2 y4 y5 y6 hF hB
        have hK : K 0 0 = (σ 1 2) * (σ 1 5) := (FV_00 hF).trans hI.1.1
        obtain ⟨h, e1, g1, g2⟩ := w_sv (xs := xs) (β := β2) (T := T2) O H hkL hv hI hF
        have e1 := e1 (d + n + 7)
        -- nothing new with v
        have nxt : ∀ K2 y4 y5 y6, FV k W K2 → K2 0 = K 0 → (∀ t, PA σ W (σ 1 6) t → AT k t (W 8) → t k ≠ v) → _ := fun K2 y4 y5 y6 hF2 hK0 hno => ihv K2 β2 T2 y4 y5 y6 hF2 (by
          rw [hK0]
          refine BS_c hB fun t ht => ?_
          constructor
          · rintro (h | ⟨h, h2⟩)
            · exact .inl h
            · exact .inr ⟨h, by omega⟩
          · rintro (h | ⟨h, h2⟩)
            · exact .inl h
            · have := hno t ((hPP t).mpr ht) h
              exact .inr ⟨h, by omega⟩)
        cases h
        · obtain ⟨N, β', T', e, q1, q2, q3, q4⟩ := nxt K y4 y5 y6 hF rfl (g1 rfl)
          refine ⟨N, β', T', ?_, q1, q2, q3, q4⟩
          rw [eb_183_8]
          clear hI hF hB ih ihv nxt q1 q2 q3 q4 g1 g2 hPP
          rw [show d + (n + 1) + 7 = d + n + 7 + 1 from rfl] at e ⊢
          simp (disch := first | assumption | omega | exact st8_a (Nat.le_of_ble_eq_true rfl)) only [hK, hv, e1, eb_183_9, eb_183_10, eb_183_23, kl_a, kl_d, kl_f, kl_i, kl_l, kl_n, kl_r, xr_1, xr_10, xr_2, xr_27, xr_28, xr_3, xr_31, xr_32, xr_33, xr_34, xr_35, xr_36, xr_37, xr_38, xr_4, xr_41, xr_43, xr_48, xr_5, xr_56, xr_57, xr_63, af_0, af_1, xt_goto, xt_ic_ge, xt_ic_ne, xt_if_eq, xt_if_ne, xt_nop, xt_nu_0, xt_nu_1, xt_re, wF_0, wF_1, wF_2, wF_3, wF_4, wF_5, wF_6, wF_7, wF_8, wF_9, wF_10, wF_11, wF_12, wF_13, wP_9, wP_10, wL_5, wC_5, wC_17, wD, hw_app, hw_len, wA_1, wA_2, wA_3, wA_4, wA_5, wA_6, wA_7, wA_8, wA_17, wW_1, wW_2, wW_3, wW_4, wW_5, wW_6, wW_7, wW_8, wW_17, mF_8 (Mo_hw H), mA_63 (Mo_hw H), mA_64 (Mo_hw H), mA_65 (Mo_hw H), mA_66 (Mo_hw H), mA_67 (Mo_hw H), mA_68 (Mo_hw H), mA_69 (Mo_hw H), mA_70 (Mo_hw H), mA_71 (Mo_hw H), xq_175_12_virtual wy_c, xq_176_12_virtual wy_c, xq_181_12_virtual wy_c, xq_183_12_virtual wy_c, xq_211_63_virtualm (Mo_hw H), xq_212_63_virtualm (Mo_hw H), xq_213_63_virtualm (Mo_hw H), iN_add, iN_mul, iN_sub, iN_and, iN_or, iN_clr, iN_shl, iN_shr, tb_r1, b1_z, b1_or, b1_and, b1_or0, b1_or1, b1_0or, b1_t, b1_f, iN_lt, iN_inj, reduceIte, if_true, if_false, Nat.zero_add, Nat.add_zero, Bool.false_eq_true, Bool.true_eq_false, Nat.lt_irrefl, iN_az, not_true_eq_false, not_false_eq_true, Nat.reduceEqDiff, Nat.reduceLT, Nat.reduceAdd, Nat.reduceMul, Nat.reduceSub]
          exact e
        · obtain ⟨N, b, e2, f1, f0, f2, f3, f4⟩ := g2 rfl
          have e2 := e2 (d + n + 2)
          rw [show d + n + 2 + 5 = d + n + 7 by omega] at e2
          cases b
          · obtain ⟨N2, β', T', e, q1, q2, q3, q4⟩ := nxt N y4 y5 y6 f1 (f0 0 (by decide) (by decide)) (f3 rfl)
            rw [f0 0 (by decide) (by decide)] at q3
            refine ⟨N2, β', T', ?_, q1, q2, q3, q4⟩
            rw [eb_183_8]
            clear hI hF hB ih ihv nxt q1 q2 q3 q4 g1 g2 hPP f1 f0 f2 f3 f4
            rw [show d + (n + 1) + 7 = d + n + 7 + 1 from rfl] at e ⊢
            simp (disch := first | assumption | omega | exact st8_a (Nat.le_of_ble_eq_true rfl)) only [hK, hv, e1, e2, eb_183_9, eb_183_10, eb_183_11, eb_183_12, eb_183_13, eb_183_23, kl_a, kl_d, kl_f, kl_i, kl_l, kl_n, kl_r, xr_1, xr_10, xr_2, xr_27, xr_28, xr_3, xr_31, xr_32, xr_33, xr_34, xr_35, xr_36, xr_37, xr_38, xr_4, xr_41, xr_43, xr_48, xr_5, xr_56, xr_57, xr_63, af_0, af_1, xt_goto, xt_ic_ge, xt_ic_ne, xt_if_eq, xt_if_ne, xt_nop, xt_nu_0, xt_nu_1, xt_re, wF_0, wF_1, wF_2, wF_3, wF_4, wF_5, wF_6, wF_7, wF_8, wF_9, wF_10, wF_11, wF_12, wF_13, wP_9, wP_10, wL_5, wC_5, wC_17, wD, hw_app, hw_len, wA_1, wA_2, wA_3, wA_4, wA_5, wA_6, wA_7, wA_8, wA_17, wW_1, wW_2, wW_3, wW_4, wW_5, wW_6, wW_7, wW_8, wW_17, mF_8 (Mo_hw H), mA_63 (Mo_hw H), mA_64 (Mo_hw H), mA_65 (Mo_hw H), mA_66 (Mo_hw H), mA_67 (Mo_hw H), mA_68 (Mo_hw H), mA_69 (Mo_hw H), mA_70 (Mo_hw H), mA_71 (Mo_hw H), xq_175_12_virtual wy_c, xq_176_12_virtual wy_c, xq_181_12_virtual wy_c, xq_183_12_virtual wy_c, xq_211_63_virtualm (Mo_hw H), xq_212_63_virtualm (Mo_hw H), xq_213_63_virtualm (Mo_hw H), iN_add, iN_mul, iN_sub, iN_and, iN_or, iN_clr, iN_shl, iN_shr, tb_r1, b1_z, b1_or, b1_and, b1_or0, b1_or1, b1_0or, b1_t, b1_f, iN_lt, iN_inj, reduceIte, if_true, if_false, Nat.zero_add, Nat.add_zero, Bool.false_eq_true, Bool.true_eq_false, Nat.lt_irrefl, iN_az, not_true_eq_false, not_false_eq_true, Nat.reduceEqDiff, Nat.reduceLT, Nat.reduceAdd, Nat.reduceMul, Nat.reduceSub]
            exact e
          · obtain ⟨j1, j2⟩ := f4 rfl
            have hPN : ∀ t, PA σ N (σ 1 6) t ↔ P t := fun t => (PA_fv hL f1 (Nat.le_refl _) t).trans (hPP t)
            have zz : z + wv σ k (v / (σ 1 5)) (v % (σ 1 5)) = ws σ (k + 1) (N 8) := by
              show _ = ws σ k (N 8) + wq σ k (N 8 k)
              rw [f2 k (Nat.lt_succ_self k), u1_s, ws_cg (s := W 8) fun j hj => by rw [f2 j (by omega), u1_n (by omega)], hz]
              rfl
            have hwv : ws σ (k + 1) (N 8) ≤ 27 * (k + 1) := by
              have := sm_le (n := k + 1) (c := 27) (f := fun j => wq σ j (N 8 j)) fun j hj => wv_le O (vb O (j1.2.2 j hj).1).2.1
              unfold ws
              omega
            have e3 := m_211 (xs := xs) (d := d + n + 5) O (Mo_hw (nn := (σ 1 6)) (W := N) (β := β2) (T := T2) H) hkL hv
            have hN00 := f0 0 (by decide) (by decide)
            have hN0 : N 0 0 = (σ 1 2) * (σ 1 5) := by rw [hN00]; exact hK
            -- to the bound, and behind it
            have hbd : ∃ bd y6, ev xs (d + (n + 1) + 7) 183 16 ([.ref h0.length, .int (nI k), .int (nI z), .int (nI v), .int (nI (ws σ (k + 1) (N 8))), .int (nI (ws σ (k + 1) (N 8))), .int (nI (k + 1))], [], hw h0 (σ 1 6) N β2 T2) = ev xs (d + (n + 1) + 7) 183 20 ([.ref h0.length, .int (nI k), .int (nI z), .int (nI v), .int (nI (ws σ (k + 1) (N 8))), .int (nI bd), y6], [], hw h0 (σ 1 6) N β2 T2) ∧ bd ≤ 162 ∧ (β2 ≠ .null → ∀ t, P t → AT (k + 1) t (N 8) → bd ≤ wtt σ t) := by
              have hβ2 : β2 = .null ∨ ∃ p, β2 = .ref p := by
                rcases hB with ⟨h, -⟩ | ⟨i, t, h, -⟩
                · exact .inl h
                · exact .inr ⟨_, h⟩
              rcases hβ2 with hβ | ⟨p, hβ⟩
              · subst hβ
                refine ⟨ws σ (k + 1) (N 8), .int (nI (k + 1)), ?_, by omega, fun h => absurd rfl h⟩
                rw [eb_183_16]
                clear hI hF hB ih ihv nxt g1 g2 hPP f1 f0 f2 f3 f4 j1 j2 hPN zz
                by_cases hl : k + 1 < (σ 1 6)
                · simp (disch := first | assumption | omega | exact st8_a (Nat.le_of_ble_eq_true rfl)) only [hl, eb_183_17, kl_a, kl_d, kl_f, kl_i, kl_l, kl_n, kl_r, xr_1, xr_10, xr_2, xr_27, xr_28, xr_3, xr_31, xr_32, xr_33, xr_34, xr_35, xr_36, xr_37, xr_38, xr_4, xr_41, xr_43, xr_48, xr_5, xr_56, xr_57, xr_63, af_0, af_1, xt_goto, xt_ic_ge, xt_ic_ne, xt_if_eq, xt_if_ne, xt_nop, xt_nu_0, xt_nu_1, xt_re, wF_0, wF_1, wF_2, wF_3, wF_4, wF_5, wF_6, wF_7, wF_8, wF_9, wF_10, wF_11, wF_12, wF_13, wP_9, wP_10, wL_5, wC_5, wC_17, wD, hw_app, hw_len, wA_1, wA_2, wA_3, wA_4, wA_5, wA_6, wA_7, wA_8, wA_17, wW_1, wW_2, wW_3, wW_4, wW_5, wW_6, wW_7, wW_8, wW_17, mF_8 (Mo_hw H), mA_63 (Mo_hw H), mA_64 (Mo_hw H), mA_65 (Mo_hw H), mA_66 (Mo_hw H), mA_67 (Mo_hw H), mA_68 (Mo_hw H), mA_69 (Mo_hw H), mA_70 (Mo_hw H), mA_71 (Mo_hw H), xq_175_12_virtual wy_c, xq_176_12_virtual wy_c, xq_181_12_virtual wy_c, xq_183_12_virtual wy_c, xq_211_63_virtualm (Mo_hw H), xq_212_63_virtualm (Mo_hw H), xq_213_63_virtualm (Mo_hw H), iN_add, iN_mul, iN_sub, iN_and, iN_or, iN_clr, iN_shl, iN_shr, tb_r1, b1_z, b1_or, b1_and, b1_or0, b1_or1, b1_0or, b1_t, b1_f, iN_lt, iN_inj, reduceIte, if_true, if_false, Nat.zero_add, Nat.add_zero, Bool.false_eq_true, Bool.true_eq_false, Nat.lt_irrefl, iN_az, not_true_eq_false, not_false_eq_true, Nat.reduceEqDiff, Nat.reduceLT, Nat.reduceAdd, Nat.reduceMul, Nat.reduceSub]
                · simp (disch := first | assumption | omega | exact st8_a (Nat.le_of_ble_eq_true rfl)) only [hl, eb_183_17, kl_a, kl_d, kl_f, kl_i, kl_l, kl_n, kl_r, xr_1, xr_10, xr_2, xr_27, xr_28, xr_3, xr_31, xr_32, xr_33, xr_34, xr_35, xr_36, xr_37, xr_38, xr_4, xr_41, xr_43, xr_48, xr_5, xr_56, xr_57, xr_63, af_0, af_1, xt_goto, xt_ic_ge, xt_ic_ne, xt_if_eq, xt_if_ne, xt_nop, xt_nu_0, xt_nu_1, xt_re, wF_0, wF_1, wF_2, wF_3, wF_4, wF_5, wF_6, wF_7, wF_8, wF_9, wF_10, wF_11, wF_12, wF_13, wP_9, wP_10, wL_5, wC_5, wC_17, wD, hw_app, hw_len, wA_1, wA_2, wA_3, wA_4, wA_5, wA_6, wA_7, wA_8, wA_17, wW_1, wW_2, wW_3, wW_4, wW_5, wW_6, wW_7, wW_8, wW_17, mF_8 (Mo_hw H), mA_63 (Mo_hw H), mA_64 (Mo_hw H), mA_65 (Mo_hw H), mA_66 (Mo_hw H), mA_67 (Mo_hw H), mA_68 (Mo_hw H), mA_69 (Mo_hw H), mA_70 (Mo_hw H), mA_71 (Mo_hw H), xq_175_12_virtual wy_c, xq_176_12_virtual wy_c, xq_181_12_virtual wy_c, xq_183_12_virtual wy_c, xq_211_63_virtualm (Mo_hw H), xq_212_63_virtualm (Mo_hw H), xq_213_63_virtualm (Mo_hw H), iN_add, iN_mul, iN_sub, iN_and, iN_or, iN_clr, iN_shl, iN_shr, tb_r1, b1_z, b1_or, b1_and, b1_or0, b1_or1, b1_0or, b1_t, b1_f, iN_lt, iN_inj, reduceIte, if_true, if_false, Nat.zero_add, Nat.add_zero, Bool.false_eq_true, Bool.true_eq_false, Nat.lt_irrefl, iN_az, not_true_eq_false, not_false_eq_true, Nat.reduceEqDiff, Nat.reduceLT, Nat.reduceAdd, Nat.reduceMul, Nat.reduceSub]
              · subst hβ
                obtain ⟨y, bd', e4, b1', b2'⟩ := m_183b (xs := xs) (d := d + n + 4) (T := T2) (b := p) (x2 := nI z) (x3 := nI v) (x4 := nI (ws σ (k + 1) (N 8))) O H hkL j1 j2 (k + 1) (by omega) (Nat.lt_succ_self k) _ hwv
                refine ⟨bd', y, e4, by omega, fun _ t ht ha => Nat.le_trans (b2' t ((hPN t).mpr ht) ha ?_) ws_le⟩
                rw [ws_cg ha]
                exact Nat.le_refl _
            obtain ⟨bd, y6', e4, hbd1, hbd2⟩ := hbd
            have st : ev xs (d + (n + 1) + 7) 183 8 ([.ref h0.length, .int (nI k), .int (nI z), .int (nI v), y4, y5, y6], [], hw h0 (σ 1 6) K β2 T2) = ev xs (d + (n + 1) + 7) 183 20 ([.ref h0.length, .int (nI k), .int (nI z), .int (nI v), .int (nI (ws σ (k + 1) (N 8))), .int (nI bd), y6'], [], hw h0 (σ 1 6) N β2 T2) := by
              rw [← e4, eb_183_8]
              clear hI hF hB ih ihv nxt g1 g2 hPP f1 f0 f2 f3 f4 j1 j2 hPN e4 hbd2
              rw [show d + (n + 1) + 7 = d + n + 7 + 1 from rfl]
              simp (disch := first | assumption | omega | exact st8_a (Nat.le_of_ble_eq_true rfl)) only [hK, hv, e1, e2, e3, zz, eb_183_9, eb_183_10, eb_183_11, eb_183_12, eb_183_14, eb_183_15, kl_a, kl_d, kl_f, kl_i, kl_l, kl_n, kl_r, xr_1, xr_10, xr_2, xr_27, xr_28, xr_3, xr_31, xr_32, xr_33, xr_34, xr_35, xr_36, xr_37, xr_38, xr_4, xr_41, xr_43, xr_48, xr_5, xr_56, xr_57, xr_63, af_0, af_1, xt_goto, xt_ic_ge, xt_ic_ne, xt_if_eq, xt_if_ne, xt_nop, xt_nu_0, xt_nu_1, xt_re, wF_0, wF_1, wF_2, wF_3, wF_4, wF_5, wF_6, wF_7, wF_8, wF_9, wF_10, wF_11, wF_12, wF_13, wP_9, wP_10, wL_5, wC_5, wC_17, wD, hw_app, hw_len, wA_1, wA_2, wA_3, wA_4, wA_5, wA_6, wA_7, wA_8, wA_17, wW_1, wW_2, wW_3, wW_4, wW_5, wW_6, wW_7, wW_8, wW_17, mF_8 (Mo_hw H), mA_63 (Mo_hw H), mA_64 (Mo_hw H), mA_65 (Mo_hw H), mA_66 (Mo_hw H), mA_67 (Mo_hw H), mA_68 (Mo_hw H), mA_69 (Mo_hw H), mA_70 (Mo_hw H), mA_71 (Mo_hw H), xq_175_12_virtual wy_c, xq_176_12_virtual wy_c, xq_181_12_virtual wy_c, xq_183_12_virtual wy_c, xq_211_63_virtualm (Mo_hw H), xq_212_63_virtualm (Mo_hw H), xq_213_63_virtualm (Mo_hw H), iN_add, iN_mul, iN_sub, iN_and, iN_or, iN_clr, iN_shl, iN_shr, tb_r1, b1_z, b1_or, b1_and, b1_or0, b1_or1, b1_0or, b1_t, b1_f, iN_lt, iN_inj, reduceIte, if_true, if_false, Nat.zero_add, Nat.add_zero, Bool.false_eq_true, Bool.true_eq_false, Nat.lt_irrefl, iN_az, not_true_eq_false, not_false_eq_true, Nat.reduceEqDiff, Nat.reduceLT, Nat.reduceAdd, Nat.reduceMul, Nat.reduceSub]
            have hBN : BS σ P h0.length β2 (N 0 10) T2 (fun t => TX (k + 1) t (N 8)) := by
              rw [hN00]
              exact BS_c hB fun t _ => (TX_1 f2).symm
            by_cases hgo : β2 = .null ∨ bd < N 0 10
            · obtain ⟨N2, β3, T3, e5, r1, r2, r3, r4⟩ := ih (k + 1) (by omega) N β2 T2 (ws σ (k + 1) (N 8)) j1 hPN rfl hBN
              obtain ⟨N3, β', T', e, q1, q2, q3, q4⟩ := ihv N2 β3 (T2 ++ T3) (.int (nI (ws σ (k + 1) (N 8)))) (.int (nI bd)) y6' (FV_t f1 (FV_w r1 (by omega))) (BS_c r2 fun t _ => by
                rw [TX_1 f2, AT_1 f2]
                constructor
                · rintro ((h | ⟨h1, h2⟩) | ⟨h1, h2⟩)
                  · exact .inl h
                  · exact .inr ⟨h1, by omega⟩
                  · exact .inr ⟨h1, by omega⟩
                · rintro (h | ⟨h1, h2⟩)
                  · exact .inl (.inl h)
                  · by_cases e : t k = v
                    · exact .inr ⟨h1, e⟩
                    · exact .inl (.inr ⟨h1, by omega⟩))
              rw [List.append_assoc] at e q2
              refine ⟨N3, β', T3 ++ T', ?_, q1, q2, ?_, SZ_a r4 q4⟩
              · rw [st]
                have hw32 : N 0 10 ≤ 162 ∨ β2 = .null := by
                  rcases hBN with ⟨h, -⟩ | ⟨i, t, -, -, hp, -, hwe, -⟩
                  · exact .inr h
                  · exact .inl (by rw [hwe]; exact hw6 t hp)
                have hβ2 : β2 = .null ∨ ∃ p, β2 = .ref p := by
                  rcases hB with ⟨h, -⟩ | ⟨i, t, h, -⟩
                  · exact .inl h
                  · exact .inr ⟨_, h⟩
                clear hI hF hB ih ihv nxt g1 g2 hPP f1 f0 f2 f3 f4 j1 j2 hPN hbd2 hBN q1 q2 q3 q4 r1 r2 r3 r4 st
                rw [show d + (n + 1) + 7 = d + n + 7 + 1 from rfl] at e ⊢
                rcases hβ2 with hβ | ⟨p, hβ⟩
                · subst hβ
                  clear hgo hw32
                  simp (disch := first | assumption | omega | exact st8_a (Nat.le_of_ble_eq_true rfl)) only [e5, eb_183_20, eb_183_22, eb_183_23, kl_a, kl_d, kl_f, kl_i, kl_l, kl_n, kl_r, xr_1, xr_10, xr_2, xr_27, xr_28, xr_3, xr_31, xr_32, xr_33, xr_34, xr_35, xr_36, xr_37, xr_38, xr_4, xr_41, xr_43, xr_48, xr_5, xr_56, xr_57, xr_63, af_0, af_1, xt_goto, xt_ic_ge, xt_ic_ne, xt_if_eq, xt_if_ne, xt_nop, xt_nu_0, xt_nu_1, xt_re, wF_0, wF_1, wF_2, wF_3, wF_4, wF_5, wF_6, wF_7, wF_8, wF_9, wF_10, wF_11, wF_12, wF_13, wP_9, wP_10, wL_5, wC_5, wC_17, wD, hw_app, hw_len, wA_1, wA_2, wA_3, wA_4, wA_5, wA_6, wA_7, wA_8, wA_17, wW_1, wW_2, wW_3, wW_4, wW_5, wW_6, wW_7, wW_8, wW_17, mF_8 (Mo_hw H), mA_63 (Mo_hw H), mA_64 (Mo_hw H), mA_65 (Mo_hw H), mA_66 (Mo_hw H), mA_67 (Mo_hw H), mA_68 (Mo_hw H), mA_69 (Mo_hw H), mA_70 (Mo_hw H), mA_71 (Mo_hw H), xq_175_12_virtual wy_c, xq_176_12_virtual wy_c, xq_181_12_virtual wy_c, xq_183_12_virtual wy_c, xq_211_63_virtualm (Mo_hw H), xq_212_63_virtualm (Mo_hw H), xq_213_63_virtualm (Mo_hw H), iN_add, iN_mul, iN_sub, iN_and, iN_or, iN_clr, iN_shl, iN_shr, tb_r1, b1_z, b1_or, b1_and, b1_or0, b1_or1, b1_0or, b1_t, b1_f, iN_lt, iN_inj, reduceIte, if_true, if_false, Nat.zero_add, Nat.add_zero, Bool.false_eq_true, Bool.true_eq_false, Nat.lt_irrefl, iN_az, not_true_eq_false, not_false_eq_true, Nat.reduceEqDiff, Nat.reduceLT, Nat.reduceAdd, Nat.reduceMul, Nat.reduceSub]
                  exact e
                · subst hβ
                  have hgo : bd < N 0 10 := hgo.resolve_left (by intro z; cases z)
                  have hw32 : N 0 10 ≤ 162 := hw32.resolve_right (by intro z; cases z)
                  simp (disch := first | assumption | omega | exact st8_a (Nat.le_of_ble_eq_true rfl)) only [e5, hgo, eb_183_20, eb_183_21, eb_183_22, eb_183_23, kl_a, kl_d, kl_f, kl_i, kl_l, kl_n, kl_r, xr_1, xr_10, xr_2, xr_27, xr_28, xr_3, xr_31, xr_32, xr_33, xr_34, xr_35, xr_36, xr_37, xr_38, xr_4, xr_41, xr_43, xr_48, xr_5, xr_56, xr_57, xr_63, af_0, af_1, xt_goto, xt_ic_ge, xt_ic_ne, xt_if_eq, xt_if_ne, xt_nop, xt_nu_0, xt_nu_1, xt_re, wF_0, wF_1, wF_2, wF_3, wF_4, wF_5, wF_6, wF_7, wF_8, wF_9, wF_10, wF_11, wF_12, wF_13, wP_9, wP_10, wL_5, wC_5, wC_17, wD, hw_app, hw_len, wA_1, wA_2, wA_3, wA_4, wA_5, wA_6, wA_7, wA_8, wA_17, wW_1, wW_2, wW_3, wW_4, wW_5, wW_6, wW_7, wW_8, wW_17, mF_8 (Mo_hw H), mA_63 (Mo_hw H), mA_64 (Mo_hw H), mA_65 (Mo_hw H), mA_66 (Mo_hw H), mA_67 (Mo_hw H), mA_68 (Mo_hw H), mA_69 (Mo_hw H), mA_70 (Mo_hw H), mA_71 (Mo_hw H), xq_175_12_virtual wy_c, xq_176_12_virtual wy_c, xq_181_12_virtual wy_c, xq_183_12_virtual wy_c, xq_211_63_virtualm (Mo_hw H), xq_212_63_virtualm (Mo_hw H), xq_213_63_virtualm (Mo_hw H), iN_add, iN_mul, iN_sub, iN_and, iN_or, iN_clr, iN_shl, iN_shr, tb_r1, b1_z, b1_or, b1_and, b1_or0, b1_or1, b1_0or, b1_t, b1_f, iN_lt, iN_inj, reduceIte, if_true, if_false, Nat.zero_add, Nat.add_zero, Bool.false_eq_true, Bool.true_eq_false, Nat.lt_irrefl, iN_az, not_true_eq_false, not_false_eq_true, Nat.reduceEqDiff, Nat.reduceLT, Nat.reduceAdd, Nat.reduceMul, Nat.reduceSub]
                  exact e
              · rw [List.length_append]
                rw [hN00] at r3
                omega
            · have hβn : β2 ≠ .null := fun z => hgo (.inl z)
              have hle : N 0 10 ≤ bd := Nat.le_of_not_lt fun z => hgo (.inr z)
              obtain ⟨N3, β', T', e, q1, q2, q3, q4⟩ := ihv N β2 T2 (.int (nI (ws σ (k + 1) (N 8)))) (.int (nI bd)) y6' f1 (by
                rcases hBN with ⟨h, -⟩ | ⟨i, t, h1, h2, h3, h4, h5, h6⟩
                · exact absurd h hβn
                · refine .inr ⟨i, t, h1, h2, h3, ?_, h5, fun u hu hA => ?_⟩
                  · rcases (TX_1 f2).mp h4 with h | ⟨h, h7⟩
                    · exact .inl h
                    · exact .inr ⟨h, by omega⟩
                  · have c : TX (k + 1) u (N 8) ∨ AT (k + 1) u (N 8) := by
                      rw [TX_1 f2, AT_1 f2]
                      rcases hA with h | ⟨h, h7⟩
                      · exact .inl (.inl h)
                      · by_cases e : u k = v
                        · exact .inr ⟨h, e⟩
                        · exact .inl (.inr ⟨h, by omega⟩)
                    rcases c with c | c
                    · exact h6 u hu c
                    · have := hbd2 hβn u hu c
                      exact ⟨by omega, fun _ h => TX_as (TX_w (by omega) (TX_c2 (AT_s c) h4)) h⟩)
              rw [hN00] at q3
              refine ⟨N3, β', T', ?_, q1, q2, q3, q4⟩
              rw [st]
              obtain ⟨p, hβ⟩ : ∃ p, β2 = .ref p := by
                rcases hB with ⟨h, -⟩ | ⟨i, t, h, -⟩
                · exact absurd h hβn
                · exact ⟨_, h⟩
              have hnl : ¬ bd < N 0 10 := by omega
              have hw32 : N 0 10 ≤ 162 := by omega
              clear hI hF hB ih ihv nxt g1 g2 hPP f1 f0 f2 f3 f4 j1 j2 hPN hbd2 hBN q1 q2 q3 q4 st hgo hβn
              subst hβ
              rw [show d + (n + 1) + 7 = d + n + 7 + 1 from rfl] at e ⊢
              simp (disch := first | assumption | omega | exact st8_a (Nat.le_of_ble_eq_true rfl)) only [hnl, eb_183_20, eb_183_21, eb_183_23, kl_a, kl_d, kl_f, kl_i, kl_l, kl_n, kl_r, xr_1, xr_10, xr_2, xr_27, xr_28, xr_3, xr_31, xr_32, xr_33, xr_34, xr_35, xr_36, xr_37, xr_38, xr_4, xr_41, xr_43, xr_48, xr_5, xr_56, xr_57, xr_63, af_0, af_1, xt_goto, xt_ic_ge, xt_ic_ne, xt_if_eq, xt_if_ne, xt_nop, xt_nu_0, xt_nu_1, xt_re, wF_0, wF_1, wF_2, wF_3, wF_4, wF_5, wF_6, wF_7, wF_8, wF_9, wF_10, wF_11, wF_12, wF_13, wP_9, wP_10, wL_5, wC_5, wC_17, wD, hw_app, hw_len, wA_1, wA_2, wA_3, wA_4, wA_5, wA_6, wA_7, wA_8, wA_17, wW_1, wW_2, wW_3, wW_4, wW_5, wW_6, wW_7, wW_8, wW_17, mF_8 (Mo_hw H), mA_63 (Mo_hw H), mA_64 (Mo_hw H), mA_65 (Mo_hw H), mA_66 (Mo_hw H), mA_67 (Mo_hw H), mA_68 (Mo_hw H), mA_69 (Mo_hw H), mA_70 (Mo_hw H), mA_71 (Mo_hw H), xq_175_12_virtual wy_c, xq_176_12_virtual wy_c, xq_181_12_virtual wy_c, xq_183_12_virtual wy_c, xq_211_63_virtualm (Mo_hw H), xq_212_63_virtualm (Mo_hw H), xq_213_63_virtualm (Mo_hw H), iN_add, iN_mul, iN_sub, iN_and, iN_or, iN_clr, iN_shl, iN_shr, tb_r1, b1_z, b1_or, b1_and, b1_or0, b1_or1, b1_0or, b1_t, b1_f, iN_lt, iN_inj, reduceIte, if_true, if_false, Nat.zero_add, Nat.add_zero, Bool.false_eq_true, Bool.true_eq_false, Nat.lt_irrefl, iN_az, not_true_eq_false, not_false_eq_true, Nat.reduceEqDiff, Nat.reduceLT, Nat.reduceAdd, Nat.reduceMul, Nat.reduceSub]
              exact e
    obtain ⟨N, β', T', e, q⟩ := key 0 (Nat.zero_le _) W β T (.retAddr 9) (.retAddr 9) (.retAddr 9) FV_r (BS_c hB fun t _ => ⟨fun h => .inl h, fun h => h.elim id fun z => absurd z.2 (Nat.not_lt_zero _)⟩)
    refine ⟨N, β', T', ?_, q⟩
    have hne : ¬ k = (σ 1 6) := by omega
    rw [eb_183_0]
    clear hI key q ih hB hPP
    simp (disch := first | assumption | omega | exact st8_a (Nat.le_of_ble_eq_true rfl)) only [hne, eb_183_7, kl_a, kl_d, kl_f, kl_i, kl_l, kl_n, kl_r, xr_1, xr_10, xr_2, xr_27, xr_28, xr_3, xr_31, xr_32, xr_33, xr_34, xr_35, xr_36, xr_37, xr_38, xr_4, xr_41, xr_43, xr_48, xr_5, xr_56, xr_57, xr_63, af_0, af_1, xt_goto, xt_ic_ge, xt_ic_ne, xt_if_eq, xt_if_ne, xt_nop, xt_nu_0, xt_nu_1, xt_re, wF_0, wF_1, wF_2, wF_3, wF_4, wF_5, wF_6, wF_7, wF_8, wF_9, wF_10, wF_11, wF_12, wF_13, wP_9, wP_10, wL_5, wC_5, wC_17, wD, hw_app, hw_len, wA_1, wA_2, wA_3, wA_4, wA_5, wA_6, wA_7, wA_8, wA_17, wW_1, wW_2, wW_3, wW_4, wW_5, wW_6, wW_7, wW_8, wW_17, mF_8 (Mo_hw H), mA_63 (Mo_hw H), mA_64 (Mo_hw H), mA_65 (Mo_hw H), mA_66 (Mo_hw H), mA_67 (Mo_hw H), mA_68 (Mo_hw H), mA_69 (Mo_hw H), mA_70 (Mo_hw H), mA_71 (Mo_hw H), xq_175_12_virtual wy_c, xq_176_12_virtual wy_c, xq_181_12_virtual wy_c, xq_183_12_virtual wy_c, xq_211_63_virtualm (Mo_hw H), xq_212_63_virtualm (Mo_hw H), xq_213_63_virtualm (Mo_hw H), iN_add, iN_mul, iN_sub, iN_and, iN_or, iN_clr, iN_shl, iN_shr, tb_r1, b1_z, b1_or, b1_and, b1_or0, b1_or1, b1_0or, b1_t, b1_f, iN_lt, iN_inj, reduceIte, if_true, if_false, Nat.zero_add, Nat.add_zero, Bool.false_eq_true, Bool.true_eq_false, Nat.lt_irrefl, iN_az, not_true_eq_false, not_false_eq_true, Nat.reduceEqDiff, Nat.reduceLT, Nat.reduceAdd, Nat.reduceMul, Nat.reduceSub]
    exact e
end Wyi
