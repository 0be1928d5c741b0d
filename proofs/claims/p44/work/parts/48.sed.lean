/-! THE CLASS Search: record; sums over the order -/
section Sf
variable {xs : List Int32} {σ M : Nat → Nat → Nat} {R : ab_H} {n L p t depth : Nat}
set_option maxRecDepth 100000 in
theorem ctc_cg {s s2 : Nat → Nat} (h : ∀ l, l < (σ 1 6) → s l = s2 l) : ctc σ s t = ctc σ s2 t := by
  unfold ctc
  exact orn_cg fun l hl => by rw [h l hl]
set_option maxRecDepth 100000 in
theorem shr_cg {s s2 : Nat → Nat} (h : ∀ l, l < (σ 1 6) → s l = s2 l) : shr σ s t = shr σ s2 t := by
  unfold shr
  exact sm_cg fun l hl => by rw [h l hl]
set_option maxRecDepth 100000 in
theorem gco_cg {s s2 : Nat → Nat} (h : ∀ l, l < (σ 1 6) → s l = s2 l) : gco σ M s = gco σ M s2 := by
  unfold gco
  split
  · rw [sm_cg fun t _ => by rw [ctc_cg h]]
  · split
    · exact sm_cg fun t _ => by rw [shr_cg h]
    · rfl
set_option maxRecDepth 100000 in
theorem kco_cg {s s2 : Nat → Nat} (h : ∀ l, l < (σ 1 6) → s l = s2 l) : kco σ M s = kco σ M s2 := by
  unfold kco
  exact sm_cg fun l hl => by rw [h l hl]
set_option maxRecDepth 100000 in
theorem inj_sum {ord f : Nat → Nat} : ∀ n, (∀ k, k < n → ord k < L) → (∀ i j, i < j → j < n → ord i ≠ ord j) → sm n (fun k => f (ord k)) = sm L fun l => if an n (fun k => decide (ord k = l)) = true then f l else 0 := by
  intro n
  induction n with
  | zero =>
    intro _ _
    exact (sm_z.mpr fun l _ => rfl).symm
  | succ n ih =>
    intro h1 h2
    rw [sm, ih (fun k hk => h1 k (by omega)) (fun i j hij hj => h2 i j hij (by omega))]
    have h3 : an n (fun k => decide (ord k = ord n)) = false := by
      cases h : an n (fun k => decide (ord k = ord n))
      · rfl
      · obtain ⟨k, hk, h4⟩ := an_t.mp h
        exact absurd (of_decide_eq_true h4) (h2 k n hk (by omega))
    have h4 := sm_u (n := L) (l := ord n) (f := fun l => if an n (fun k => decide (ord k = l)) = true then f l else 0) (g := fun l => if an (n + 1) (fun k => decide (ord k = l)) = true then f l else 0) (h1 n (by omega)) fun i _ hi => by
      have : an (n + 1) (fun k => decide (ord k = i)) = an n (fun k => decide (ord k = i)) := by
        rw [an, decide_eq_false (fun z => hi z.symm), Bool.or_false]
      rw [this]
    have h5 : an (n + 1) (fun k => decide (ord k = ord n)) = true := by
      rw [an]
      simp
    rw [h3, h5] at h4
    simp at h4
    omega
set_option maxRecDepth 100000 in
theorem ord_sum (hO : OS σ M depth p) (f : Nat → Nat) : sm depth (fun k => f (M 33 k)) = sm (σ 1 6) fun l => if p.testBit l = true then f l else 0 := by
  obtain ⟨o1, o2, o3, o4, o5, o6⟩ := hO
  rw [inj_sum (L := (σ 1 6)) (ord := M 33) (f := f) depth (fun k hk => (o3 k hk).1) o4]
  refine sm_cg fun l hl => ?_
  have : an depth (fun k => decide (M 33 k = l)) = p.testBit l := by
    rw [Bool.eq_iff_iff, an_t]
    constructor
    · rintro ⟨k, hk, h⟩
      have := of_decide_eq_true h
      rw [← this]
      exact (o3 k hk).2
    · intro h
      obtain ⟨k, hk, h2⟩ := o5 l hl h
      exact ⟨k, hk, decide_eq_true h2⟩
  rw [this]
set_option maxRecDepth 100000 in
theorem OS_all (hO : OS σ M (σ 1 6) p) : ∀ l, l < (σ 1 6) → p.testBit l = true := by
  intro l hl
  have := sm_1 (fun i _ => Nat.le_of_lt_succ (b1_lt _)) hO.2.2.2.2.2 l hl
  cases h : p.testBit l
  · rw [h] at this; cases this
  · rfl
set_option maxRecDepth 100000 in
theorem OS_some (hO : OS σ M depth p) (hd : depth < (σ 1 6)) : ∃ l, l < (σ 1 6) ∧ p.testBit l = false := by
  obtain ⟨l, hl, h⟩ := sm_0 (n := (σ 1 6)) (f := fun l => b1 (p.testBit l)) (by rw [hO.2.2.2.2.2]; exact hd)
  refine ⟨l, hl, ?_⟩
  cases h2 : p.testBit l
  · rfl
  · rw [h2] at h; cases h
set_option maxRecDepth 100000 in
theorem OS_lt (hO : OS σ M depth p) {l : Nat} (hl : l < (σ 1 6)) (h : p.testBit l = false) : depth < (σ 1 6) := by
  have h1 := hO.1
  by_cases e : depth = (σ 1 6)
  · subst e
    have := OS_all (M := M) (p := p) (σ := σ) hO l hl
    rw [h] at this
    cases this
  · omega
-- an allowed timetable's rooms cost at least what the slots do
set_option maxRecDepth 100000 in
theorem QA_mo (hW : QW σ M) {s r : Nat → Nat} (hA : QA σ M s r) : sm (σ 1 6) (fun l => M 26 (vi l (s l) (r l)) - M 27 (l * 6 + s l)) + kco σ M s + gco σ M s = QC σ M s r := by
  unfold QC kco
  rw [sm_sub]
  intro l hl
  obtain ⟨h1, h2⟩ := hA.1 l hl
  exact (hW.2.2.2.2.2.2.2.2.1 l hl _ (hW.1 l hl _ h1).1).2 _ (hW.2.1 l hl _ h2) h2
set_option maxRecDepth 100000 in
theorem QA_SO (O : Ok σ) (hW : QW σ M) (hO : OS σ M depth p) {s r : Nat → Nat} (hA : QA σ M s r) (hE : ∀ l, l < (σ 1 6) → p.testBit l = true → s l = M 34 l) {sp : Nat} (hsp : sm (σ 1 6) (fun l => M 26 (vi l (s l) (r l)) - M 27 (l * 6 + s l)) ≤ sp) : SO σ M 0 depth sp r := by
  obtain ⟨o1, o2, o3, o4, o5, o6⟩ := id hO
  refine ⟨fun j hj => absurd hj (Nat.not_lt_zero j), fun j _ hj => (hA.1 _ (o3 j hj).1).2, fun i j hij _ hj h => ?_, ?_⟩
  · have hi := o3 i (by omega)
    have hj2 := o3 j hj
    have h1 := (hA.2.1 (M 33 j) (M 33 i) hj2.1 hi.1 (fun z => o4 i j hij hj z.symm)).2
    rw [hE _ hj2.1 hj2.2, hE _ hi.1 hi.2] at h1
    exact h1 h
  · rw [Nat.sub_zero, rs_sm]
    have e1 : sm depth (fun i => mo M (M 33 (0 + i)) (r (M 33 (0 + i)))) = sm depth fun k => (fun l => mo M l (r l)) (M 33 k) := sm_cg fun i _ => by rw [Nat.zero_add]
    rw [e1, ord_sum hO fun l => mo M l (r l)]
    refine Nat.le_trans (sm_mono fun l hl => ?_) hsp
    split
    · rename_i h
      unfold mo
      rw [hE l hl h]
      exact Nat.le_refl _
    · exact Nat.zero_le _
set_option maxRecDepth 100000 in
theorem SO_0 {g ρ : Nat → Nat} {dp sp : Nat} : SO σ (ur M 35 g) 0 dp sp ρ ↔ SO σ M 0 dp sp ρ :=
  ⟨fun ⟨_, b, c, d⟩ => ⟨fun j hj => absurd hj (Nat.not_lt_zero j), b, c, d⟩, fun ⟨_, b, c, d⟩ => ⟨fun j hj => absurd hj (Nat.not_lt_zero j), b, c, d⟩⟩
set_option maxRecDepth 100000 in
theorem SO_le {ρ : Nat → Nat} {dp sp sp2 : Nat} (h : SO σ M 0 dp sp ρ) (h2 : rs (dp - 0) 0 (fun j => mo M (M 33 j) (ρ (M 33 j))) ≤ sp2) : SO σ M 0 dp sp2 ρ := ⟨h.1, h.2.1, h.2.2.1, h2⟩
set_option maxRecDepth 100000 in
theorem s_86 (O : Ok σ) {low d : Nat} (hd : 8 ≤ d) (h33 : ∀ j, j < (σ 1 6) → M 33 j < (σ 1 6)) (hdis : ∀ i j, i < j → j < (σ 1 6) → M 33 i ≠ M 33 j) (h34 : ∀ j, j < (σ 1 6) → M 34 (M 33 j) < (σ 1 2)) (hW : QW σ M) (hlim : M 28 8 ≤ 100000) (hlow : low ≤ M 28 8) (hfl : M 28 9 ≤ 700000) (hwl : M 28 11 ≤ 1) (hex : ∃ ρ, SO σ M 0 (σ 1 6) (M 28 8 - low) ρ) : ∃ c, ∃ b : Bool, ∃ M', ev xs d 86 0 ([.ref 28, .int (nI low), .retAddr 9, .retAddr 9], [], hc σ M R) = some (.inl (some (.int (nI (b1 b)))), hc σ M' R) ∧ Fr [28, 29, 30, 31, 35] M M' ∧ low ≤ c ∧ c ≤ M 28 8 ∧ M' 28 10 = c ∧ M' 28 9 = M 28 9 ∧ M' 28 11 = M 28 11 ∧ M' 30 = M 34 ∧ M' 29 0 = 1 ∧ M' 29 1 = (σ 1 6) ∧ SO σ M 0 (σ 1 6) (c - low) (M' 31) ∧ (∀ sp ρ, SO σ M 0 (σ 1 6) sp ρ → c - low ≤ sp) ∧ (M 28 11 = 0 → b = true) ∧ (M 28 11 = 1 → (b = true ∧ c ≤ M 28 9) ∨ (b = false ∧ M 28 9 < c ∧ M' 28 8 = c - 1)) := by
  obtain ⟨hD1, hD2, hH1, hH2, hS, hC, hT, hR, hL, hQ⟩ := Ok_b O
  obtain ⟨d, rfl⟩ : ∃ e, d = e + 1 := ⟨d - 1, by omega⟩
  obtain ⟨ρ0, hρ0⟩ := hex
  have h29 : TT 29 := by decide
  have key : ∀ k, k ≤ M 28 8 - low + 1 → ∀ g0, (∀ sp ρ, SO σ M 0 (σ 1 6) sp ρ → k ≤ sp) → ∃ c, ∃ b : Bool, ∃ M', ev xs (d + 1) 86 1 ([.ref 28, .int (nI low), .int (nI 0), .int (nI k)], [], hc σ (ur M 35 g0) R) = some (.inl (some (.int (nI (b1 b)))), hc σ M' R) ∧ Fr [28, 29, 30, 31, 35] M M' ∧ low ≤ c ∧ c ≤ M 28 8 ∧ M' 28 10 = c ∧ M' 28 9 = M 28 9 ∧ M' 28 11 = M 28 11 ∧ M' 30 = M 34 ∧ M' 29 0 = 1 ∧ M' 29 1 = (σ 1 6) ∧ SO σ M 0 (σ 1 6) (c - low) (M' 31) ∧ (∀ sp ρ, SO σ M 0 (σ 1 6) sp ρ → c - low ≤ sp) ∧ (M 28 11 = 0 → b = true) ∧ (M 28 11 = 1 → (b = true ∧ c ≤ M 28 9) ∨ (b = false ∧ M 28 9 < c ∧ M' 28 8 = c - 1)) := by
    refine lp (M 28 8 - low + 1) ?_ ?_
    · intro g0 h
      have := h _ _ hρ0
      omega
    · intro k hk ih g0 h
      have hk2 : ¬ M 28 8 - low < k := by omega
      have e28 : ur M 35 g0 28 8 = M 28 8 := by rw [ur_n (by decide)]
      obtain ⟨g, b, e, q1, q2, q3⟩ := s_84 (xs := xs) (R := R) O (dp := (σ 1 6)) hL (σ 1 6) 0 k d (ur M 35 g0) (by omega) (by omega) (by omega) (by omega) h33 hdis h34 (fun j hj => absurd hj (Nat.not_lt_zero j)) hW
      rw [ur_ur] at e
      rw [eb_86_1]
      cases b
      · obtain ⟨c, b, M', e2, q⟩ := ih g fun sp ρ hρ => by
          have h1 := h sp ρ hρ
          by_cases e3 : sp = k
          · subst e3
            exact absurd (SO_0.mpr hρ) (q3 rfl ρ)
          · omega
        refine ⟨c, b, M', ?_, q⟩
        simp (disch := first | assumption | omega | exact st8_a (Nat.le_of_ble_eq_true rfl)) only [hk2, e28, e, eb_86_0, eb_86_2, eb_86_3, eb_86_4, eb_86_5, eb_86_6, eb_86_7, eb_86_8, eb_86_9, eb_86_10, eb_86_11, eb_86_12, kl_a, kl_d, kl_f, kl_i, kl_l, kl_n, kl_r, xr_1, xr_10, xr_2, xr_27, xr_28, xr_3, xr_30, xr_31, xr_32, xr_37, xr_38, xr_4, xr_43, xr_48, xr_5, xr_77, af_0, af_1, xt_goto, xt_ib, xt_ic, xt_ic_ge, xt_ic_gt, xt_if_eq, xt_if_ne, xt_ir, xt_nop, gF_1_6, gF_28_0, gF_28_10, gF_28_11, gF_28_2, gF_28_5, gF_28_6, gF_28_8, gF_28_9, gC_24_23, gC_34_30, gC_35_31, gP_28_10, gP_28_8, xq_84_7_virtualc, iN_add, iN_mul, iN_sub, iN_and, iN_or, iN_clr, iN_shl, iN_shr, tb_r1, b1_z, b1_or, b1_and, b1_or0, b1_or1, b1_0or, b1_t, b1_f, iN_lt, iN_inj, reduceIte, if_true, if_false, Nat.zero_add, Nat.add_zero, Bool.false_eq_true, Bool.true_eq_false, Nat.lt_irrefl, iN_az, not_true_eq_false, not_false_eq_true, Nat.reduceEqDiff, Nat.reduceLT, Nat.reduceAdd, Nat.reduceMul, Nat.reduceSub]
        exact e2
      · have hso := SO_0.mp (q2 rfl)
        have hso : SO σ M 0 (σ 1 6) k g := hso
        have e29 : ur M 35 g 28 8 = M 28 8 := by rw [ur_n (by decide)]
        have hwl2 : M 28 11 = 0 ∨ M 28 11 = 1 := by omega
        have hmin : ∀ sp ρ, SO σ M 0 (σ 1 6) sp ρ → low + k - low ≤ sp := fun sp ρ hρ => by have := h sp ρ hρ; omega
        have hso2 : SO σ M 0 (σ 1 6) (low + k - low) g := by rw [show low + k - low = k by omega]; exact hso
        have fr0 : Fr [28, 29, 30, 31, 35] M (ur (ur (up (up (up (ur M 35 g) 28 10 (low + k)) 29 0 1) 29 1 (σ 1 6)) 30 (M 34)) 31 g) := Fr_u (Fr_u (Fr_p (Fr_p (Fr_p (Fr_u (Fr_r _ _) rfl) rfl) rfl) rfl) rfl) rfl
        have fin : ∃ c, ∃ b : Bool, ∃ M', ev xs (d + 1) 86 7 ([.ref 28, .int (nI low), .int (nI 1), .int (nI (k + 1))], [], hc σ (up (ur M 35 g) 28 10 (low + k)) R) = some (.inl (some (.int (nI (b1 b)))), hc σ M' R) ∧ Fr [28, 29, 30, 31, 35] M M' ∧ low ≤ c ∧ c ≤ M 28 8 ∧ M' 28 10 = c ∧ M' 28 9 = M 28 9 ∧ M' 28 11 = M 28 11 ∧ M' 30 = M 34 ∧ M' 29 0 = 1 ∧ M' 29 1 = (σ 1 6) ∧ SO σ M 0 (σ 1 6) (c - low) (M' 31) ∧ (∀ sp ρ, SO σ M 0 (σ 1 6) sp ρ → c - low ≤ sp) ∧ (M 28 11 = 0 → b = true) ∧ (M 28 11 = 1 → (b = true ∧ c ≤ M 28 9) ∨ (b = false ∧ M 28 9 < c ∧ M' 28 8 = c - 1)) := by
          rcases hwl2 with hw | hw
          · refine ⟨low + k, true, ur (ur (up (up (up (ur M 35 g) 28 10 (low + k)) 29 0 1) 29 1 (σ 1 6)) 30 (M 34)) 31 g, ?_, fr0, by omega, by omega, rfl, rfl, rfl, rfl, rfl, rfl, hso2, hmin, fun _ => rfl, fun z => by omega⟩
            simp (disch := first | assumption | omega | exact st8_a (Nat.le_of_ble_eq_true rfl)) only [ur_s, up_s, u1_s, ur_n, up_n, u1_n, hw, eb_86_0, eb_86_2, eb_86_3, eb_86_4, eb_86_5, eb_86_6, eb_86_7, eb_86_8, eb_86_9, eb_86_10, eb_86_11, eb_86_12, kl_a, kl_d, kl_f, kl_i, kl_l, kl_n, kl_r, xr_1, xr_10, xr_2, xr_27, xr_28, xr_3, xr_30, xr_31, xr_32, xr_37, xr_38, xr_4, xr_43, xr_48, xr_5, xr_77, af_0, af_1, xt_goto, xt_ib, xt_ic, xt_ic_ge, xt_ic_gt, xt_if_eq, xt_if_ne, xt_ir, xt_nop, gF_1_6, gF_28_0, gF_28_10, gF_28_11, gF_28_2, gF_28_5, gF_28_6, gF_28_8, gF_28_9, gC_24_23, gC_34_30, gC_35_31, gP_28_10, gP_28_8, tF_0 h29, tF_1 h29, tF_2 h29, tF_3 h29, tA_1 h29, tA_2 h29, tW_1 h29, tW_2 h29, tP_0 h29, tP_1 h29, xq_84_7_virtualc, iN_add, iN_mul, iN_sub, iN_and, iN_or, iN_clr, iN_shl, iN_shr, tb_r1, b1_z, b1_or, b1_and, b1_or0, b1_or1, b1_0or, b1_t, b1_f, iN_lt, iN_inj, reduceIte, if_true, if_false, Nat.zero_add, Nat.add_zero, Bool.false_eq_true, Bool.true_eq_false, Nat.lt_irrefl, iN_az, not_true_eq_false, not_false_eq_true, Nat.reduceEqDiff, Nat.reduceLT, Nat.reduceAdd, Nat.reduceMul, Nat.reduceSub]
          · by_cases hc0 : low + k = 0
            · refine ⟨low + k, true, up (ur (ur (up (up (up (ur M 35 g) 28 10 (low + k)) 29 0 1) 29 1 (σ 1 6)) 30 (M 34)) 31 g) 28 8 4294967295, ?_, Fr_p fr0 rfl, by omega, by omega, rfl, rfl, rfl, rfl, rfl, rfl, hso2, hmin, fun _ => rfl, fun z => .inl ⟨rfl, by omega⟩⟩
              have e0 : nI 0 - nI 1 = nI 4294967295 := rfl
              have e1 : nI 4294967295 < nI (M 28 9) := by
                rw [iN_ltg (by decide) (by omega)]
                omega
              simp (disch := first | assumption | omega | exact st8_a (Nat.le_of_ble_eq_true rfl)) only [ur_s, up_s, u1_s, ur_n, up_n, u1_n, hw, hc0, e0, e1, eb_86_0, eb_86_2, eb_86_3, eb_86_4, eb_86_5, eb_86_6, eb_86_7, eb_86_8, eb_86_9, eb_86_10, eb_86_11, eb_86_12, kl_a, kl_d, kl_f, kl_i, kl_l, kl_n, kl_r, xr_1, xr_10, xr_2, xr_27, xr_28, xr_3, xr_30, xr_31, xr_32, xr_37, xr_38, xr_4, xr_43, xr_48, xr_5, xr_77, af_0, af_1, xt_goto, xt_ib, xt_ic, xt_ic_ge, xt_ic_gt, xt_if_eq, xt_if_ne, xt_ir, xt_nop, gF_1_6, gF_28_0, gF_28_10, gF_28_11, gF_28_2, gF_28_5, gF_28_6, gF_28_8, gF_28_9, gC_24_23, gC_34_30, gC_35_31, gP_28_10, gP_28_8, tF_0 h29, tF_1 h29, tF_2 h29, tF_3 h29, tA_1 h29, tA_2 h29, tW_1 h29, tW_2 h29, tP_0 h29, tP_1 h29, xq_84_7_virtualc, iN_add, iN_mul, iN_sub, iN_and, iN_or, iN_clr, iN_shl, iN_shr, tb_r1, b1_z, b1_or, b1_and, b1_or0, b1_or1, b1_0or, b1_t, b1_f, iN_lt, iN_inj, reduceIte, if_true, if_false, Nat.zero_add, Nat.add_zero, Bool.false_eq_true, Bool.true_eq_false, Nat.lt_irrefl, iN_az, not_true_eq_false, not_false_eq_true, Nat.reduceEqDiff, Nat.reduceLT, Nat.reduceAdd, Nat.reduceMul, Nat.reduceSub]
            · by_cases hc1 : low + k - 1 < M 28 9
              · refine ⟨low + k, true, up (ur (ur (up (up (up (ur M 35 g) 28 10 (low + k)) 29 0 1) 29 1 (σ 1 6)) 30 (M 34)) 31 g) 28 8 (low + k - 1), ?_, Fr_p fr0 rfl, by omega, by omega, rfl, rfl, rfl, rfl, rfl, rfl, hso2, hmin, fun _ => rfl, fun z => .inl ⟨rfl, by omega⟩⟩
                simp (disch := first | assumption | omega | exact st8_a (Nat.le_of_ble_eq_true rfl)) only [ur_s, up_s, u1_s, ur_n, up_n, u1_n, hw, hc1, eb_86_0, eb_86_2, eb_86_3, eb_86_4, eb_86_5, eb_86_6, eb_86_7, eb_86_8, eb_86_9, eb_86_10, eb_86_11, eb_86_12, kl_a, kl_d, kl_f, kl_i, kl_l, kl_n, kl_r, xr_1, xr_10, xr_2, xr_27, xr_28, xr_3, xr_30, xr_31, xr_32, xr_37, xr_38, xr_4, xr_43, xr_48, xr_5, xr_77, af_0, af_1, xt_goto, xt_ib, xt_ic, xt_ic_ge, xt_ic_gt, xt_if_eq, xt_if_ne, xt_ir, xt_nop, gF_1_6, gF_28_0, gF_28_10, gF_28_11, gF_28_2, gF_28_5, gF_28_6, gF_28_8, gF_28_9, gC_24_23, gC_34_30, gC_35_31, gP_28_10, gP_28_8, tF_0 h29, tF_1 h29, tF_2 h29, tF_3 h29, tA_1 h29, tA_2 h29, tW_1 h29, tW_2 h29, tP_0 h29, tP_1 h29, xq_84_7_virtualc, iN_add, iN_mul, iN_sub, iN_and, iN_or, iN_clr, iN_shl, iN_shr, tb_r1, b1_z, b1_or, b1_and, b1_or0, b1_or1, b1_0or, b1_t, b1_f, iN_lt, iN_inj, reduceIte, if_true, if_false, Nat.zero_add, Nat.add_zero, Bool.false_eq_true, Bool.true_eq_false, Nat.lt_irrefl, iN_az, not_true_eq_false, not_false_eq_true, Nat.reduceEqDiff, Nat.reduceLT, Nat.reduceAdd, Nat.reduceMul, Nat.reduceSub]
              · refine ⟨low + k, false, up (ur (ur (up (up (up (ur M 35 g) 28 10 (low + k)) 29 0 1) 29 1 (σ 1 6)) 30 (M 34)) 31 g) 28 8 (low + k - 1), ?_, Fr_p fr0 rfl, by omega, by omega, rfl, rfl, rfl, rfl, rfl, rfl, hso2, hmin, fun z => by omega, fun z => .inr ⟨rfl, by omega, rfl⟩⟩
                simp (disch := first | assumption | omega | exact st8_a (Nat.le_of_ble_eq_true rfl)) only [ur_s, up_s, u1_s, ur_n, up_n, u1_n, hw, hc1, eb_86_0, eb_86_2, eb_86_3, eb_86_4, eb_86_5, eb_86_6, eb_86_7, eb_86_8, eb_86_9, eb_86_10, eb_86_11, eb_86_12, kl_a, kl_d, kl_f, kl_i, kl_l, kl_n, kl_r, xr_1, xr_10, xr_2, xr_27, xr_28, xr_3, xr_30, xr_31, xr_32, xr_37, xr_38, xr_4, xr_43, xr_48, xr_5, xr_77, af_0, af_1, xt_goto, xt_ib, xt_ic, xt_ic_ge, xt_ic_gt, xt_if_eq, xt_if_ne, xt_ir, xt_nop, gF_1_6, gF_28_0, gF_28_10, gF_28_11, gF_28_2, gF_28_5, gF_28_6, gF_28_8, gF_28_9, gC_24_23, gC_34_30, gC_35_31, gP_28_10, gP_28_8, tF_0 h29, tF_1 h29, tF_2 h29, tF_3 h29, tA_1 h29, tA_2 h29, tW_1 h29, tW_2 h29, tP_0 h29, tP_1 h29, xq_84_7_virtualc, iN_add, iN_mul, iN_sub, iN_and, iN_or, iN_clr, iN_shl, iN_shr, tb_r1, b1_z, b1_or, b1_and, b1_or0, b1_or1, b1_0or, b1_t, b1_f, iN_lt, iN_inj, reduceIte, if_true, if_false, Nat.zero_add, Nat.add_zero, Bool.false_eq_true, Bool.true_eq_false, Nat.lt_irrefl, iN_az, not_true_eq_false, not_false_eq_true, Nat.reduceEqDiff, Nat.reduceLT, Nat.reduceAdd, Nat.reduceMul, Nat.reduceSub]
        obtain ⟨c, b, M', e2, q⟩ := fin
        refine ⟨c, b, M', ?_, q⟩
        have o3 : up (ur M 35 g) 28 10 (low + k) 28 8 = M 28 8 := by rw [up_s, u1_n (by decide), ur_n (by decide)]
        simp (disch := first | assumption | omega | exact st8_a (Nat.le_of_ble_eq_true rfl)) only [hk2, e28, e, eb_86_2, eb_86_3, eb_86_4, eb_86_5, eb_86_6, kl_a, kl_d, kl_f, kl_i, kl_l, kl_n, kl_r, xr_1, xr_10, xr_2, xr_27, xr_28, xr_3, xr_30, xr_31, xr_32, xr_37, xr_38, xr_4, xr_43, xr_48, xr_5, xr_77, af_0, af_1, xt_goto, xt_ib, xt_ic, xt_ic_ge, xt_ic_gt, xt_if_eq, xt_if_ne, xt_ir, xt_nop, gF_1_6, gF_28_0, gF_28_10, gF_28_11, gF_28_2, gF_28_5, gF_28_6, gF_28_8, gF_28_9, gC_24_23, gC_34_30, gC_35_31, gP_28_10, gP_28_8, xq_84_7_virtualc, iN_add, iN_mul, iN_sub, iN_and, iN_or, iN_clr, iN_shl, iN_shr, tb_r1, b1_z, b1_or, b1_and, b1_or0, b1_or1, b1_0or, b1_t, b1_f, iN_lt, iN_inj, reduceIte, if_true, if_false, Nat.zero_add, Nat.add_zero, Bool.false_eq_true, Bool.true_eq_false, Nat.lt_irrefl, iN_az, not_true_eq_false, not_false_eq_true, Nat.reduceEqDiff, Nat.reduceLT, Nat.reduceAdd, Nat.reduceMul, Nat.reduceSub]
        rw [eb_86_1]
        by_cases hk3 : M 28 8 - low < k + 1
        · simp (disch := first | assumption | omega | exact st8_a (Nat.le_of_ble_eq_true rfl)) only [o3, hk3, eb_86_2, kl_a, kl_d, kl_f, kl_i, kl_l, kl_n, kl_r, xr_1, xr_10, xr_2, xr_27, xr_28, xr_3, xr_30, xr_31, xr_32, xr_37, xr_38, xr_4, xr_43, xr_48, xr_5, xr_77, af_0, af_1, xt_goto, xt_ib, xt_ic, xt_ic_ge, xt_ic_gt, xt_if_eq, xt_if_ne, xt_ir, xt_nop, gF_1_6, gF_28_0, gF_28_10, gF_28_11, gF_28_2, gF_28_5, gF_28_6, gF_28_8, gF_28_9, gC_24_23, gC_34_30, gC_35_31, gP_28_10, gP_28_8, xq_84_7_virtualc, iN_add, iN_mul, iN_sub, iN_and, iN_or, iN_clr, iN_shl, iN_shr, tb_r1, b1_z, b1_or, b1_and, b1_or0, b1_or1, b1_0or, b1_t, b1_f, iN_lt, iN_inj, reduceIte, if_true, if_false, Nat.zero_add, Nat.add_zero, Bool.false_eq_true, Bool.true_eq_false, Nat.lt_irrefl, iN_az, not_true_eq_false, not_false_eq_true, Nat.reduceEqDiff, Nat.reduceLT, Nat.reduceAdd, Nat.reduceMul, Nat.reduceSub]
          exact e2
        · simp (disch := first | assumption | omega | exact st8_a (Nat.le_of_ble_eq_true rfl)) only [o3, hk3, eb_86_2, kl_a, kl_d, kl_f, kl_i, kl_l, kl_n, kl_r, xr_1, xr_10, xr_2, xr_27, xr_28, xr_3, xr_30, xr_31, xr_32, xr_37, xr_38, xr_4, xr_43, xr_48, xr_5, xr_77, af_0, af_1, xt_goto, xt_ib, xt_ic, xt_ic_ge, xt_ic_gt, xt_if_eq, xt_if_ne, xt_ir, xt_nop, gF_1_6, gF_28_0, gF_28_10, gF_28_11, gF_28_2, gF_28_5, gF_28_6, gF_28_8, gF_28_9, gC_24_23, gC_34_30, gC_35_31, gP_28_10, gP_28_8, xq_84_7_virtualc, iN_add, iN_mul, iN_sub, iN_and, iN_or, iN_clr, iN_shl, iN_shr, tb_r1, b1_z, b1_or, b1_and, b1_or0, b1_or1, b1_0or, b1_t, b1_f, iN_lt, iN_inj, reduceIte, if_true, if_false, Nat.zero_add, Nat.add_zero, Bool.false_eq_true, Bool.true_eq_false, Nat.lt_irrefl, iN_az, not_true_eq_false, not_false_eq_true, Nat.reduceEqDiff, Nat.reduceLT, Nat.reduceAdd, Nat.reduceMul, Nat.reduceSub]
          exact e2
  obtain ⟨c, b, M', e, q⟩ := key 0 (Nat.zero_le _) (M 35) fun _ _ _ => Nat.zero_le _
  refine ⟨c, b, M', ?_, q⟩
  rw [ur_id] at e
  simp (disch := first | assumption | omega | exact st8_a (Nat.le_of_ble_eq_true rfl)) only [eb_86_0, eb_86_2, eb_86_3, eb_86_4, eb_86_5, eb_86_6, eb_86_7, eb_86_8, eb_86_9, eb_86_10, eb_86_11, eb_86_12, kl_a, kl_d, kl_f, kl_i, kl_l, kl_n, kl_r, xr_1, xr_10, xr_2, xr_27, xr_28, xr_3, xr_30, xr_31, xr_32, xr_37, xr_38, xr_4, xr_43, xr_48, xr_5, xr_77, af_0, af_1, xt_goto, xt_ib, xt_ic, xt_ic_ge, xt_ic_gt, xt_if_eq, xt_if_ne, xt_ir, xt_nop, gF_1_6, gF_28_0, gF_28_10, gF_28_11, gF_28_2, gF_28_5, gF_28_6, gF_28_8, gF_28_9, gC_24_23, gC_34_30, gC_35_31, gP_28_10, gP_28_8, xq_84_7_virtualc, iN_add, iN_mul, iN_sub, iN_and, iN_or, iN_clr, iN_shl, iN_shr, tb_r1, b1_z, b1_or, b1_and, b1_or0, b1_or1, b1_0or, b1_t, b1_f, iN_lt, iN_inj, reduceIte, if_true, if_false, Nat.zero_add, Nat.add_zero, Bool.false_eq_true, Bool.true_eq_false, Nat.lt_irrefl, iN_az, not_true_eq_false, not_false_eq_true, Nat.reduceEqDiff, Nat.reduceLT, Nat.reduceAdd, Nat.reduceMul, Nat.reduceSub]
  exact e
end Sf
