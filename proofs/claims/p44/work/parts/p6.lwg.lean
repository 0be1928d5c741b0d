/-! THE LAW: rules that cannot be kept together -/
def KSb (n : Nat) (B : Nat → Nat) (u : Nat) : Bool := an n fun k => decide (B k &&& u = 0)
set_option maxRecDepth 100000 in
theorem EN_0 {P : Nat → Prop} {k : Nat} {f : Nat → Nat} (h : ∀ u, u < k → ¬ P u) : EN P k 0 f := by
  induction k with
  | zero => rfl
  | succ k ih => exact ⟨fun hp => absurd hp (h k (Nat.lt_succ_self k)), fun _ => ih fun u hu => h u (by omega)⟩
/-- what the loop over the sets knows before the set x -/
def CL (σ : Nat → Nat → Nat) (x ls m f : Nat) : Prop := (ls = 99 ∧ m = 0 ∧ f = 0 ∧ ∀ u, u < x → KS σ u) ∨ (ls ≤ 10 ∧ (∀ u, u < x → pc 10 u < ls → KS σ u) ∧ 0 < m ∧ m ≤ x ∧ f < x ∧ ∃ g : Nat → Nat, EN (PP σ ls) x m g ∧ g 0 = f)
section Pg
variable {xs : List Int32} {d : Nat} {σ M M0 M1 N W : Nat → Nat → Nat} {ρ : Int32} {n : Nat} {B w : Nat → Nat} {E : ab_H} {l o u v q t i x k c a b e j m ls f p6 : Nat} {s r s2 r2 Y g : Nat → Nat} {x3 x4 x5 x6 x7 x8 : Int32} {y2 y5 y6 y7 y8 y9 : Value}
set_option maxRecDepth 100000 in
theorem KSb_iff (O : Ok σ) (hTA : TA σ n W B) : KSb n B u = true ↔ KS σ u := by
  unfold KSb
  rw [an_t]
  constructor
  · rintro ⟨k, hk, h⟩
    have h := of_decide_eq_true h
    rw [hTA.2.2.1 k hk] at h
    exact ⟨_, _, (hTA.1.1 k hk).1.1, (hTA.1.1 k hk).1.2.1, brk_and h⟩
  · rintro ⟨s, r, h⟩
    obtain ⟨k, hk, ha⟩ := hTA.1.2.2 s r ⟨h.1, h.2.1, fun q _ hq => by simp at hq⟩ trivial
    refine ⟨k, hk, decide_eq_true ?_⟩
    rw [hTA.2.2.1 k hk, ← brk_cg O ha]
    refine z_tb.mpr fun q => ?_
    rw [Nat.testBit_and, ← Bool.not_eq_true, Bool.and_eq_true, brk_tb]
    rintro ⟨⟨hq, h2⟩, h3⟩
    rw [h.2.2 q hq h3] at h2
    cases h2
set_option maxRecDepth 100000 in
theorem CL_0 : CL σ 0 99 0 0 := .inl ⟨rfl, rfl, rfl, fun u hu => absurd hu (Nat.not_lt_zero u)⟩
set_option maxRecDepth 100000 in
theorem CL_k (h : CL σ x ls m f) (hk : KS σ x ∨ ls < pc 10 x) : CL σ (x + 1) ls m f := by
  have h10 := pc_le 10 x
  rcases h with ⟨h1, h2, h3, h4⟩ | ⟨h1, h2, h3, h4, h5, g, h6, h7⟩
  · refine .inl ⟨h1, h2, h3, fun u hu => ?_⟩
    by_cases e : u = x
    · rw [e]
      exact hk.resolve_right (by omega)
    · exact h4 u (by omega)
  · refine .inr ⟨h1, fun u hu hp => ?_, h3, by omega, by omega, g, ⟨fun hp => ?_, fun _ => h6⟩, h7⟩
    · by_cases e : u = x
      · rw [e]
        rw [e] at hp
        exact hk.resolve_right (by omega)
      · exact h2 u (by omega) hp
    · rcases hk with hk | hk
      · exact absurd hk hp.2
      · have := hp.1
        omega
set_option maxRecDepth 100000 in
theorem CL_n (h : CL σ x ls m f) (hk : ¬ KS σ x) (hp : pc 10 x < ls) : CL σ (x + 1) (pc 10 x) 1 x := by
  have h10 := pc_le 10 x
  have hs : ∀ u, u < x → pc 10 u ≤ pc 10 x → KS σ u := fun u hu hp2 => by
    rcases h with ⟨h1, h2, h3, h4⟩ | ⟨h1, h2, -⟩
    · exact h4 u hu
    · exact h2 u hu (by omega)
  refine .inr ⟨h10, fun u hu hp2 => ?_, Nat.succ_pos 0, by omega, Nat.lt_succ_self x, fun _ => x, ⟨fun _ => ⟨0, rfl, rfl, EN_0 fun u hu hP => hP.2 (hs u hu (Nat.le_of_eq hP.1))⟩, fun z => absurd ⟨rfl, hk⟩ z⟩, rfl⟩
  by_cases e : u = x
  · rw [e] at hp2
    exact absurd hp2 (Nat.lt_irrefl _)
  · exact hs u (by omega) (by omega)
set_option maxRecDepth 100000 in
theorem CL_e (h : CL σ x ls m f) (hk : ¬ KS σ x) (hp : pc 10 x = ls) : CL σ (x + 1) ls (m + 1) f := by
  have h10 := pc_le 10 x
  rcases h with ⟨h1, -⟩ | ⟨h1, h2, h3, h4, h5, g, h6, h7⟩
  · omega
  · refine .inr ⟨h1, fun u hu hp2 => ?_, Nat.succ_pos m, by omega, by omega, u1 g m x, ⟨fun _ => ⟨m, rfl, u1_s _ _ _, EN_cg (fun i hi => u1_n (by omega)) h6⟩, fun z => absurd ⟨hp, hk⟩ z⟩, by rw [u1_n (by omega)]; exact h7⟩
    by_cases e : u = x
    · rw [e] at hp2
      omega
    · exact h2 u (by omega) hp2
set_option maxRecDepth 100000 in
theorem CL_RS (h : CL σ (alr σ + 1) ls m f) (hk : ¬ KS σ (alr σ)) : 0 < m ∧ ∃ g : Nat → Nat, RS σ m g ∧ g 0 = f := by
  rcases h with ⟨-, -, -, h4⟩ | ⟨h1, h2, h3, h4, h5, g, h6, h7⟩
  · exact absurd (h4 _ (Nat.lt_succ_self _)) hk
  · exact ⟨h3, g, .inr ⟨hk, ls, fun u hu hp => h2 u (by omega) hp, h3, h6⟩, h7⟩
set_option maxRecDepth 100000 in
theorem ST_min {v : Nat} : ∀ k u, ¬ KS σ u → ST σ 4294967295 0 k u v → ¬ KS σ v ∧ (∀ i, v.testBit i = true → u.testBit i = true) ∧ ∀ q, q < k → v.testBit q = true → KS σ (clr v (1 <<< q)) := by
  intro k
  induction k with
  | zero =>
    intro u hu h
    have h : v = u := h
    rw [h]
    exact ⟨hu, fun _ h => h, fun q hq => absurd hq (Nat.not_lt_zero q)⟩
  | succ k ih =>
    intro u hu h
    by_cases hc2 : KB σ 4294967295 0 (clr u (1 <<< k))
    · obtain ⟨h1, h2, h3⟩ := ih u hu (h.1 hc2)
      refine ⟨h1, h2, fun q hq hb => ?_⟩
      by_cases e : q = k
      · rw [e]
        refine KS_sub (KS_KB.mp hc2) (z_tb.mpr fun i => ?_)
        rw [clr_tb, clr_tb, clr_tb]
        cases hv : v.testBit i
        · rfl
        · rw [h2 i hv]
          cases (1 <<< k).testBit i <;> rfl
      · exact h3 q (by omega) hb
    · have h4 : ¬ KS σ (clr u (1 <<< k)) := fun z => hc2 (KS_KB.mpr z)
      obtain ⟨h1, h2, h3⟩ := ih _ h4 (h.2 hc2)
      refine ⟨h1, fun i hi => ?_, fun q hq hb => ?_⟩
      · have := h2 i hi
        rw [clr_tb, Bool.and_eq_true] at this
        exact this.1
      · by_cases e : q = k
        · have := h2 q hb
          rw [e, clr_tb, Nat.one_shiftLeft, Nat.testBit_two_pow_self] at this
          simp at this
        · exact h3 q (by omega) hb
set_option maxRecDepth 100000 in
theorem ck (O : Ok σ) (hTA : TA σ n W B) (hu : u < 4294967296) : ev xs d 289 0 ([.ref 63, .int (nI u), .retAddr 9], [], HE σ M ρ n B w W E) = some (.inl (some (.int (nI (b1 (KSb n B u))))), HE σ M ρ n B w W E) := by
  obtain ⟨hD1, hD2, hH1, hH2, hS, hC, hT, hR, hL, hQ⟩ := Ok_b O
  have hB : ∀ k, k < n → B k < 1024 := fun k hk => by
    rw [hTA.2.2.1 k hk]
    unfold brk
    exact Nat.lt_of_lt_of_le (en_lt _ _) (Nat.pow_le_pow_right (n := 2) (j := 10) (by decide) (by omega))
  exact p_289 (xs := xs) (d := d) (σ := σ) (M := M) (ρ := ρ) (N := n) (Ts := TSS n) (B := B) (Q := (oI (ar (σ 1 6) w) :: RWS σ n W) ++ E) (TA_n hTA) hB hu
-- all rules can be kept together
set_option maxRecDepth 100000 in
theorem k_3 (O : Ok σ) (hI : IC σ M0 M) (hK : KS σ (alr σ)) {x2 : Int32} : ∃ N, IC σ M0 N ∧ ev xs (d + 40) 296 3 ([.ref 0, .ref 63, .int x2, .int (nI 4294967295), .retAddr 9, .retAddr 9, .retAddr 9, .retAddr 9, .retAddr 9, .retAddr 9], [], HE σ M ρ n B w W E) = some (.inl (some (.int (nI (1)))), HE σ N ρ n B w W E) := by
  obtain ⟨N, e1, p1, p2, p3, p4⟩ := s_142 (xs := xs) (d := d + 17) (M := M) (R := LR ρ σ n (TSS n) B ((oI (ar (σ 1 6) w) :: RWS σ n W) ++ E)) O hI.1
  refine ⟨N, IC_b hI p1 p2, ?_⟩
  have h0 : N 40 5 = 0 := by
    rcases p3 with ⟨-, h⟩ | ⟨h, -⟩
    · exact h
    · exact absurd hK h
  rw [h0] at e1
  clear hI hK p1 p2 p3 p4
  simp (disch := first | assumption | omega | exact st8_a (Nat.le_of_ble_eq_true rfl)) only [e1, eb_296_3, eb_296_4, eb_296_5, eb_296_6, eb_296_8, kl_a, kl_d, kl_f, kl_i, kl_l, kl_n, kl_r, xr_1, xr_10, xr_11, xr_110, xr_12, xr_13, xr_14, xr_15, xr_2, xr_257, xr_27, xr_3, xr_30, xr_31, xr_32, xr_33, xr_34, xr_35, xr_36, xr_37, xr_38, xr_39, xr_4, xr_44, xr_5, xr_55, xr_56, xr_57, xr_58, xr_61, xr_62, xr_64, xr_75, xr_77, xr_91, xr_92, xr_95, xr_96, af_0, af_1, xt_goto, xt_ib, xt_ic, xt_ic_ge, xt_ic_gt, xt_ic_ne, xt_if_eq, xt_if_lt, xt_if_ne, xt_ir, xt_nop, lF_12, xq_141_11_virtualc, xq_142_11_virtualc, xq_143_11_virtualc, xq_144_11_virtualc, xq_277_200_static, xq_289_12_virtualm, iN_add, iN_mul, iN_sub, iN_and, iN_or, iN_clr, iN_shl, iN_shr, tb_r1, b1_z, b1_or, b1_and, b1_or0, b1_or1, b1_0or, b1_t, b1_f, iN_lt, iN_inj, reduceIte, if_true, if_false, Nat.zero_add, Nat.add_zero, Bool.false_eq_true, Bool.true_eq_false, Nat.lt_irrefl, iN_az, not_true_eq_false, not_false_eq_true, Nat.reduceEqDiff, Nat.reduceLT, Nat.reduceAdd, Nat.reduceMul, Nat.reduceSub]
-- a rule after the other: the set is smallest so, and each is needed as the list tells
set_option maxRecDepth 100000 in
theorem k_15 (O : Ok σ) (hTA : TA σ n W B) (hK : ¬ KS σ (alr σ)) {v : Nat} (hv : v < 1024) (hm : ∀ q, q < (σ 1 7) → v.testBit q = true → KS σ (clr v (1 <<< q))) : ∀ k, k ≤ (σ 1 7) → ∀ M, IC σ M0 M → ∃ N, IC σ M0 N ∧ ev xs (d + 40) 296 15 ([.ref 0, .ref 63, .int (nI (alr σ)), .int (nI v), .int (nI 1), .int (nI k), y6, y7, y8, y9], [], HE σ M ρ n B w W E) = ev xs (d + 40) 296 27 ([.ref 0, .ref 63, .int (nI (alr σ)), .int (nI v), .int (nI 1), .int (nI 99), .int (nI 0), .int (nI 0), .int (nI 0), y9], [], HE σ N ρ n B w W E) := by
  obtain ⟨hD1, hD2, hH1, hH2, hS, hC, hT, hR, hL, hQ⟩ := Ok_b O
  have ha := alr_lt O
  refine lp (σ 1 7) ?_ ?_
  · intro M hI
    refine ⟨M, hI, ?_⟩
    rw [eb_296_15]
    clear hTA hK hm hI
    simp (disch := first | assumption | omega | exact st8_a (Nat.le_of_ble_eq_true rfl)) only [eb_296_26, kl_a, kl_d, kl_f, kl_i, kl_l, kl_n, kl_r, xr_1, xr_10, xr_11, xr_110, xr_12, xr_13, xr_14, xr_15, xr_2, xr_257, xr_27, xr_3, xr_30, xr_31, xr_32, xr_33, xr_34, xr_35, xr_36, xr_37, xr_38, xr_39, xr_4, xr_44, xr_5, xr_55, xr_56, xr_57, xr_58, xr_61, xr_62, xr_64, xr_75, xr_77, xr_91, xr_92, xr_95, xr_96, af_0, af_1, xt_goto, xt_ib, xt_ic, xt_ic_ge, xt_ic_gt, xt_ic_ne, xt_if_eq, xt_if_lt, xt_if_ne, xt_ir, xt_nop, lF_12, xq_141_11_virtualc, xq_142_11_virtualc, xq_143_11_virtualc, xq_144_11_virtualc, xq_277_200_static, xq_289_12_virtualm, iN_add, iN_mul, iN_sub, iN_and, iN_or, iN_clr, iN_shl, iN_shr, tb_r1, b1_z, b1_or, b1_and, b1_or0, b1_or1, b1_0or, b1_t, b1_f, iN_lt, iN_inj, reduceIte, if_true, if_false, Nat.zero_add, Nat.add_zero, Bool.false_eq_true, Bool.true_eq_false, Nat.lt_irrefl, iN_az, not_true_eq_false, not_false_eq_true, Nat.reduceEqDiff, Nat.reduceLT, Nat.reduceAdd, Nat.reduceMul, Nat.reduceSub]
  · intro k hk ih M hI
    obtain ⟨N, b, e1, p1, p2, p3⟩ := s_144 (xs := xs) (d := d + 19) (M := M) (R := LR ρ σ n (TSS n) B ((oI (ar (σ 1 6) w) :: RWS σ n W) ++ E)) O hI.1 hk
    have hcv : clr v (1 <<< k) < 4294967296 := Nat.lt_of_lt_of_le (clr_lt (n := 10) hv) (by decide)
    have hca : clr (alr σ) (1 <<< k) < 4294967296 := Nat.lt_of_lt_of_le (clr_lt (n := 10) ha) (by decide)
    have e2 := ck (xs := xs) (d := d + 39) (M := M) (ρ := ρ) (w := w) (E := E) O hTA hcv
    have e3 := ck (xs := xs) (d := d + 39) (M := N) (ρ := ρ) (w := w) (E := E) O hTA hca
    have hbb : b = KSb n B (clr (alr σ) (1 <<< k)) := by
      cases h1 : KSb n B (clr (alr σ) (1 <<< k))
      · cases h2 : b
        · rfl
        · rw [(KSb_iff O hTA).mpr (p3.mp h2).2] at h1
          cases h1
      · exact p3.mpr ⟨hK, (KSb_iff O hTA).mp h1⟩
    rw [← hbb] at e3
    obtain ⟨N2, i2, e4⟩ := ih N (IC_b hI p1 p2)
    refine ⟨N2, i2, ?_⟩
    have hb2 := b1_lt b
    rw [eb_296_15]
    cases h1 : v.testBit k
    · clear hTA hK hm hI ih p1 p2 p3 hbb i2
      simp (disch := first | assumption | omega | exact st8_a (Nat.le_of_ble_eq_true rfl)) only [hk, h1, e1, e3, eb_296_16, eb_296_17, eb_296_20, eb_296_21, eb_296_22, eb_296_23, eb_296_25, kl_a, kl_d, kl_f, kl_i, kl_l, kl_n, kl_r, xr_1, xr_10, xr_11, xr_110, xr_12, xr_13, xr_14, xr_15, xr_2, xr_257, xr_27, xr_3, xr_30, xr_31, xr_32, xr_33, xr_34, xr_35, xr_36, xr_37, xr_38, xr_39, xr_4, xr_44, xr_5, xr_55, xr_56, xr_57, xr_58, xr_61, xr_62, xr_64, xr_75, xr_77, xr_91, xr_92, xr_95, xr_96, af_0, af_1, xt_goto, xt_ib, xt_ic, xt_ic_ge, xt_ic_gt, xt_ic_ne, xt_if_eq, xt_if_lt, xt_if_ne, xt_ir, xt_nop, lF_12, xq_141_11_virtualc, xq_142_11_virtualc, xq_143_11_virtualc, xq_144_11_virtualc, xq_277_200_static, xq_289_12_virtualm, iN_add, iN_mul, iN_sub, iN_and, iN_or, iN_clr, iN_shl, iN_shr, tb_r1, b1_z, b1_or, b1_and, b1_or0, b1_or1, b1_0or, b1_t, b1_f, iN_lt, iN_inj, reduceIte, if_true, if_false, Nat.zero_add, Nat.add_zero, Bool.false_eq_true, Bool.true_eq_false, Nat.lt_irrefl, iN_az, not_true_eq_false, not_false_eq_true, Nat.reduceEqDiff, Nat.reduceLT, Nat.reduceAdd, Nat.reduceMul, Nat.reduceSub]
      exact e4
    · have h2 : KSb n B (clr v (1 <<< k)) = true := (KSb_iff O hTA).mpr (hm k hk h1)
      rw [h2] at e2
      clear hTA hK hm hI ih p1 p2 p3 hbb i2
      simp (disch := first | assumption | omega | exact st8_a (Nat.le_of_ble_eq_true rfl)) only [hk, h1, e1, e2, e3, eb_296_16, eb_296_17, eb_296_18, eb_296_19, eb_296_20, eb_296_21, eb_296_22, eb_296_23, eb_296_25, kl_a, kl_d, kl_f, kl_i, kl_l, kl_n, kl_r, xr_1, xr_10, xr_11, xr_110, xr_12, xr_13, xr_14, xr_15, xr_2, xr_257, xr_27, xr_3, xr_30, xr_31, xr_32, xr_33, xr_34, xr_35, xr_36, xr_37, xr_38, xr_39, xr_4, xr_44, xr_5, xr_55, xr_56, xr_57, xr_58, xr_61, xr_62, xr_64, xr_75, xr_77, xr_91, xr_92, xr_95, xr_96, af_0, af_1, xt_goto, xt_ib, xt_ic, xt_ic_ge, xt_ic_gt, xt_ic_ne, xt_if_eq, xt_if_lt, xt_if_ne, xt_ir, xt_nop, lF_12, xq_141_11_virtualc, xq_142_11_virtualc, xq_143_11_virtualc, xq_144_11_virtualc, xq_277_200_static, xq_289_12_virtualm, iN_add, iN_mul, iN_sub, iN_and, iN_or, iN_clr, iN_shl, iN_shr, tb_r1, b1_z, b1_or, b1_and, b1_or0, b1_or1, b1_0or, b1_t, b1_f, iN_lt, iN_inj, reduceIte, if_true, if_false, Nat.zero_add, Nat.add_zero, Bool.false_eq_true, Bool.true_eq_false, Nat.lt_irrefl, iN_az, not_true_eq_false, not_false_eq_true, Nat.reduceEqDiff, Nat.reduceLT, Nat.reduceAdd, Nat.reduceMul, Nat.reduceSub]
      exact e4
-- the smallest ones
set_option maxRecDepth 100000 in
theorem k_27 (O : Ok σ) (hTA : TA σ n W B) (hK : ¬ KS σ (alr σ)) : ∀ k, k ≤ alr σ + 1 → ∀ ls m f y9, CL σ k ls m f → ∃ ls2 m2 f2 y, CL σ (alr σ + 1) ls2 m2 f2 ∧ ev xs (d + 40) 296 27 ([.ref 0, .ref 63, .int (nI (alr σ)), .int x3, .int (nI 1), .int (nI ls), .int (nI m), .int (nI f), .int (nI k), y9], [], HE σ M ρ n B w W E) = ev xs (d + 40) 296 40 ([.ref 0, .ref 63, .int (nI (alr σ)), .int x3, .int (nI 1), .int (nI ls2), .int (nI m2), .int (nI f2), .int (nI (alr σ + 1)), y], [], HE σ M ρ n B w W E) := by
  have ha := alr_lt O
  refine lp (alr σ + 1) ?_ ?_
  · intro ls m f y9 h
    refine ⟨ls, m, f, y9, h, ?_⟩
    have h9 : (alr σ < alr σ + 1) = True := eq_true (Nat.lt_succ_self _)
    rw [eb_296_27]
    clear hTA hK h
    simp (disch := first | assumption | omega | exact st8_a (Nat.le_of_ble_eq_true rfl)) only [h9, kl_a, kl_d, kl_f, kl_i, kl_l, kl_n, kl_r, xr_1, xr_10, xr_11, xr_110, xr_12, xr_13, xr_14, xr_15, xr_2, xr_257, xr_27, xr_3, xr_30, xr_31, xr_32, xr_33, xr_34, xr_35, xr_36, xr_37, xr_38, xr_39, xr_4, xr_44, xr_5, xr_55, xr_56, xr_57, xr_58, xr_61, xr_62, xr_64, xr_75, xr_77, xr_91, xr_92, xr_95, xr_96, af_0, af_1, xt_goto, xt_ib, xt_ic, xt_ic_ge, xt_ic_gt, xt_ic_ne, xt_if_eq, xt_if_lt, xt_if_ne, xt_ir, xt_nop, lF_12, xq_141_11_virtualc, xq_142_11_virtualc, xq_143_11_virtualc, xq_144_11_virtualc, xq_277_200_static, xq_289_12_virtualm, iN_add, iN_mul, iN_sub, iN_and, iN_or, iN_clr, iN_shl, iN_shr, tb_r1, b1_z, b1_or, b1_and, b1_or0, b1_or1, b1_0or, b1_t, b1_f, iN_lt, iN_inj, reduceIte, if_true, if_false, Nat.zero_add, Nat.add_zero, Bool.false_eq_true, Bool.true_eq_false, Nat.lt_irrefl, iN_az, not_true_eq_false, not_false_eq_true, Nat.reduceEqDiff, Nat.reduceLT, Nat.reduceAdd, Nat.reduceMul, Nat.reduceSub]
  · intro k hk ih ls m f y9 h
    have hk2 : ¬ alr σ < k := by omega
    have hk3 : k < 1024 := by omega
    have e1 := s_277 (xs := xs) (d := d + 39) (h := HE σ M ρ n B w W E) hk3
    have e2 := ck (xs := xs) (d := d + 39) (M := M) (ρ := ρ) (w := w) (E := E) O hTA (u := k) (by omega)
    have h10 := pc_le 10 k
    have hls : ls < 100 := by
      rcases h with ⟨h1, -⟩ | ⟨h1, -⟩ <;> omega
    have hm : m < 2000 := by
      rcases h with ⟨-, h1, -⟩ | ⟨-, -, -, h1, -⟩ <;> omega
    rw [eb_296_27]
    by_cases c1 : ls < pc 10 k
    · obtain ⟨l2, m2, f2, y, q1, e3⟩ := ih ls m f (.int (nI (pc 10 k))) (CL_k h (.inr c1))
      refine ⟨l2, m2, f2, y, q1, ?_⟩
      rw [← e3]
      clear hTA hK h ih q1 e3
      simp (disch := first | assumption | omega | exact st8_a (Nat.le_of_ble_eq_true rfl)) only [hk2, e1, c1, eb_296_28, eb_296_29, eb_296_39, kl_a, kl_d, kl_f, kl_i, kl_l, kl_n, kl_r, xr_1, xr_10, xr_11, xr_110, xr_12, xr_13, xr_14, xr_15, xr_2, xr_257, xr_27, xr_3, xr_30, xr_31, xr_32, xr_33, xr_34, xr_35, xr_36, xr_37, xr_38, xr_39, xr_4, xr_44, xr_5, xr_55, xr_56, xr_57, xr_58, xr_61, xr_62, xr_64, xr_75, xr_77, xr_91, xr_92, xr_95, xr_96, af_0, af_1, xt_goto, xt_ib, xt_ic, xt_ic_ge, xt_ic_gt, xt_ic_ne, xt_if_eq, xt_if_lt, xt_if_ne, xt_ir, xt_nop, lF_12, xq_141_11_virtualc, xq_142_11_virtualc, xq_143_11_virtualc, xq_144_11_virtualc, xq_277_200_static, xq_289_12_virtualm, iN_add, iN_mul, iN_sub, iN_and, iN_or, iN_clr, iN_shl, iN_shr, tb_r1, b1_z, b1_or, b1_and, b1_or0, b1_or1, b1_0or, b1_t, b1_f, iN_lt, iN_inj, reduceIte, if_true, if_false, Nat.zero_add, Nat.add_zero, Bool.false_eq_true, Bool.true_eq_false, Nat.lt_irrefl, iN_az, not_true_eq_false, not_false_eq_true, Nat.reduceEqDiff, Nat.reduceLT, Nat.reduceAdd, Nat.reduceMul, Nat.reduceSub]
    · cases c2 : KSb n B k
      · have hnk : ¬ KS σ k := fun z => by
          rw [(KSb_iff O hTA).mpr z] at c2
          cases c2
        rw [c2] at e2
        by_cases c3 : pc 10 k < ls
        · obtain ⟨l2, m2, f2, y, q1, e3⟩ := ih (pc 10 k) 1 k (.int (nI (pc 10 k))) (CL_n h hnk c3)
          refine ⟨l2, m2, f2, y, q1, ?_⟩
          rw [← e3]
          clear hTA hK h ih q1 e3 hnk
          simp (disch := first | assumption | omega | exact st8_a (Nat.le_of_ble_eq_true rfl)) only [hk2, e1, e2, c1, c3, eb_296_28, eb_296_29, eb_296_30, eb_296_31, eb_296_32, eb_296_33, eb_296_35, eb_296_36, eb_296_38, eb_296_39, kl_a, kl_d, kl_f, kl_i, kl_l, kl_n, kl_r, xr_1, xr_10, xr_11, xr_110, xr_12, xr_13, xr_14, xr_15, xr_2, xr_257, xr_27, xr_3, xr_30, xr_31, xr_32, xr_33, xr_34, xr_35, xr_36, xr_37, xr_38, xr_39, xr_4, xr_44, xr_5, xr_55, xr_56, xr_57, xr_58, xr_61, xr_62, xr_64, xr_75, xr_77, xr_91, xr_92, xr_95, xr_96, af_0, af_1, xt_goto, xt_ib, xt_ic, xt_ic_ge, xt_ic_gt, xt_ic_ne, xt_if_eq, xt_if_lt, xt_if_ne, xt_ir, xt_nop, lF_12, xq_141_11_virtualc, xq_142_11_virtualc, xq_143_11_virtualc, xq_144_11_virtualc, xq_277_200_static, xq_289_12_virtualm, iN_add, iN_mul, iN_sub, iN_and, iN_or, iN_clr, iN_shl, iN_shr, tb_r1, b1_z, b1_or, b1_and, b1_or0, b1_or1, b1_0or, b1_t, b1_f, iN_lt, iN_inj, reduceIte, if_true, if_false, Nat.zero_add, Nat.add_zero, Bool.false_eq_true, Bool.true_eq_false, Nat.lt_irrefl, iN_az, not_true_eq_false, not_false_eq_true, Nat.reduceEqDiff, Nat.reduceLT, Nat.reduceAdd, Nat.reduceMul, Nat.reduceSub]
        · obtain ⟨l2, m2, f2, y, q1, e3⟩ := ih ls (m + 1) f (.int (nI (pc 10 k))) (CL_e h hnk (by omega))
          refine ⟨l2, m2, f2, y, q1, ?_⟩
          rw [← e3]
          have c4 : pc 10 k = ls := by omega
          clear hTA hK h ih q1 e3 hnk
          simp (disch := first | assumption | omega | exact st8_a (Nat.le_of_ble_eq_true rfl)) only [hk2, e1, e2, c1, c3, c4, eb_296_28, eb_296_29, eb_296_30, eb_296_31, eb_296_32, eb_296_34, eb_296_35, eb_296_37, eb_296_38, eb_296_39, kl_a, kl_d, kl_f, kl_i, kl_l, kl_n, kl_r, xr_1, xr_10, xr_11, xr_110, xr_12, xr_13, xr_14, xr_15, xr_2, xr_257, xr_27, xr_3, xr_30, xr_31, xr_32, xr_33, xr_34, xr_35, xr_36, xr_37, xr_38, xr_39, xr_4, xr_44, xr_5, xr_55, xr_56, xr_57, xr_58, xr_61, xr_62, xr_64, xr_75, xr_77, xr_91, xr_92, xr_95, xr_96, af_0, af_1, xt_goto, xt_ib, xt_ic, xt_ic_ge, xt_ic_gt, xt_ic_ne, xt_if_eq, xt_if_lt, xt_if_ne, xt_ir, xt_nop, lF_12, xq_141_11_virtualc, xq_142_11_virtualc, xq_143_11_virtualc, xq_144_11_virtualc, xq_277_200_static, xq_289_12_virtualm, iN_add, iN_mul, iN_sub, iN_and, iN_or, iN_clr, iN_shl, iN_shr, tb_r1, b1_z, b1_or, b1_and, b1_or0, b1_or1, b1_0or, b1_t, b1_f, iN_lt, iN_inj, reduceIte, if_true, if_false, Nat.zero_add, Nat.add_zero, Bool.false_eq_true, Bool.true_eq_false, Nat.lt_irrefl, iN_az, not_true_eq_false, not_false_eq_true, Nat.reduceEqDiff, Nat.reduceLT, Nat.reduceAdd, Nat.reduceMul, Nat.reduceSub]
      · obtain ⟨l2, m2, f2, y, q1, e3⟩ := ih ls m f (.int (nI (pc 10 k))) (CL_k h (.inl ((KSb_iff O hTA).mp c2)))
        refine ⟨l2, m2, f2, y, q1, ?_⟩
        rw [← e3]
        rw [c2] at e2
        clear hTA hK h ih q1 e3
        simp (disch := first | assumption | omega | exact st8_a (Nat.le_of_ble_eq_true rfl)) only [hk2, e1, e2, c1, eb_296_28, eb_296_29, eb_296_30, eb_296_31, eb_296_39, kl_a, kl_d, kl_f, kl_i, kl_l, kl_n, kl_r, xr_1, xr_10, xr_11, xr_110, xr_12, xr_13, xr_14, xr_15, xr_2, xr_257, xr_27, xr_3, xr_30, xr_31, xr_32, xr_33, xr_34, xr_35, xr_36, xr_37, xr_38, xr_39, xr_4, xr_44, xr_5, xr_55, xr_56, xr_57, xr_58, xr_61, xr_62, xr_64, xr_75, xr_77, xr_91, xr_92, xr_95, xr_96, af_0, af_1, xt_goto, xt_ib, xt_ic, xt_ic_ge, xt_ic_gt, xt_ic_ne, xt_if_eq, xt_if_lt, xt_if_ne, xt_ir, xt_nop, lF_12, xq_141_11_virtualc, xq_142_11_virtualc, xq_143_11_virtualc, xq_144_11_virtualc, xq_277_200_static, xq_289_12_virtualm, iN_add, iN_mul, iN_sub, iN_and, iN_or, iN_clr, iN_shl, iN_shr, tb_r1, b1_z, b1_or, b1_and, b1_or0, b1_or1, b1_0or, b1_t, b1_f, iN_lt, iN_inj, reduceIte, if_true, if_false, Nat.zero_add, Nat.add_zero, Bool.false_eq_true, Bool.true_eq_false, Nat.lt_irrefl, iN_az, not_true_eq_false, not_false_eq_true, Nat.reduceEqDiff, Nat.reduceLT, Nat.reduceAdd, Nat.reduceMul, Nat.reduceSub]
set_option maxRecDepth 100000 in
theorem k_40 (O : Ok σ) (hI : IC σ M0 M) (hm : 0 < m) (hm2 : m < 2000) (hR2 : RS σ m g) (hf : g 0 = f) (hf2 : f < 2000) : ∃ N, IC σ M0 N ∧ ev xs (d + 40) 296 40 ([.ref 0, .ref 63, .int x3, .int x4, .int (nI 1), .int x5, .int (nI m), .int (nI f), y8, y9], [], HE σ M ρ n B w W E) = some (.inl (some (.int (nI (1)))), HE σ N ρ n B w W E) := by
  obtain ⟨N, e1, p1, p2, p3, p4⟩ := s_142 (xs := xs) (d := d + 17) (M := M) (R := LR ρ σ n (TSS n) B ((oI (ar (σ 1 6) w) :: RWS σ n W) ++ E)) O hI.1
  have i1 := IC_b hI p1 p2
  obtain ⟨N2, e2, q1, q2, q3, q4⟩ := s_143 (xs := xs) (d := d + 17) (u := 0) (M := N) (R := LR ρ σ n (TSS n) B ((oI (ar (σ 1 6) w) :: RWS σ n W) ++ E)) O i1.1 (by decide)
  refine ⟨N2, IC_b i1 q1 q2, ?_⟩
  have h1 := (RS_u p3 hR2).1
  obtain ⟨h2, h3⟩ := RS_u hR2 q3
  have h4 := h3 0 hm
  rw [if_pos (by omega), ← h4, hf] at e2
  rw [h1] at e1
  clear hI i1 p1 p2 p3 q1 q2 q3 hR2 h3
  simp (disch := first | assumption | omega | exact st8_a (Nat.le_of_ble_eq_true rfl)) only [e1, e2, eb_296_40, eb_296_41, eb_296_42, eb_296_43, eb_296_44, eb_296_45, eb_296_47, kl_a, kl_d, kl_f, kl_i, kl_l, kl_n, kl_r, xr_1, xr_10, xr_11, xr_110, xr_12, xr_13, xr_14, xr_15, xr_2, xr_257, xr_27, xr_3, xr_30, xr_31, xr_32, xr_33, xr_34, xr_35, xr_36, xr_37, xr_38, xr_39, xr_4, xr_44, xr_5, xr_55, xr_56, xr_57, xr_58, xr_61, xr_62, xr_64, xr_75, xr_77, xr_91, xr_92, xr_95, xr_96, af_0, af_1, xt_goto, xt_ib, xt_ic, xt_ic_ge, xt_ic_gt, xt_ic_ne, xt_if_eq, xt_if_lt, xt_if_ne, xt_ir, xt_nop, lF_12, xq_141_11_virtualc, xq_142_11_virtualc, xq_143_11_virtualc, xq_144_11_virtualc, xq_277_200_static, xq_289_12_virtualm, iN_add, iN_mul, iN_sub, iN_and, iN_or, iN_clr, iN_shl, iN_shr, tb_r1, b1_z, b1_or, b1_and, b1_or0, b1_or1, b1_0or, b1_t, b1_f, iN_lt, iN_inj, reduceIte, if_true, if_false, Nat.zero_add, Nat.add_zero, Bool.false_eq_true, Bool.true_eq_false, Nat.lt_irrefl, iN_az, not_true_eq_false, not_false_eq_true, Nat.reduceEqDiff, Nat.reduceLT, Nat.reduceAdd, Nat.reduceMul, Nat.reduceSub]
set_option maxRecDepth 100000 in
theorem p_296 (O : Ok σ) (hTA : TA σ n W B) (hI : IC σ M0 M) : ∃ N, IC σ M0 N ∧ ev xs (d + 40) 296 0 ([.ref 0, .ref 63, .retAddr 9, .retAddr 9, .retAddr 9, .retAddr 9, .retAddr 9, .retAddr 9, .retAddr 9, .retAddr 9], [], HE σ M ρ n B w W E) = some (.inl (some (.int (nI (1)))), HE σ N ρ n B w W E) := by
  obtain ⟨hD1, hD2, hH1, hH2, hS, hC, hT, hR, hL, hQ⟩ := Ok_b O
  have ha := alr_lt O
  have h1 := one_shl (σ 1 7)
  obtain ⟨N, v, e1, p1, p2, p3⟩ := s_141 (xs := xs) (d := d + 18) (M := M) (R := LR ρ σ n (TSS n) B ((oI (ar (σ 1 6) w) :: RWS σ n W) ++ E)) O hI.1
  have i1 := IC_b hI p1 p2
  have e2 := ck (xs := xs) (d := d + 39) (M := N) (ρ := ρ) (w := w) (E := E) O hTA (u := alr σ) (by omega)
  rcases p3 with ⟨c1, c2⟩ | ⟨c1, c2, c3⟩
  · have hK : KS σ (alr σ) := KS_KB.mp c1
    rw [(KSb_iff O hTA).mpr hK] at e2
    rw [c2] at e1
    obtain ⟨N2, i2, e3⟩ := k_3 (xs := xs) (d := d) (ρ := ρ) (n := n) (B := B) (w := w) (W := W) (E := E) (x2 := nI (alr σ)) O i1 hK
    refine ⟨N2, i2, ?_⟩
    rw [← e3]
    clear hTA hI p1 p2 i1 i2 c1 hK e3
    simp (disch := first | assumption | omega | exact st8_a (Nat.le_of_ble_eq_true rfl)) only [ea_r, e1, e2, eb_296_0, eb_296_1, eb_296_2, kl_a, kl_d, kl_f, kl_i, kl_l, kl_n, kl_r, xr_1, xr_10, xr_11, xr_110, xr_12, xr_13, xr_14, xr_15, xr_2, xr_257, xr_27, xr_3, xr_30, xr_31, xr_32, xr_33, xr_34, xr_35, xr_36, xr_37, xr_38, xr_39, xr_4, xr_44, xr_5, xr_55, xr_56, xr_57, xr_58, xr_61, xr_62, xr_64, xr_75, xr_77, xr_91, xr_92, xr_95, xr_96, af_0, af_1, xt_goto, xt_ib, xt_ic, xt_ic_ge, xt_ic_gt, xt_ic_ne, xt_if_eq, xt_if_lt, xt_if_ne, xt_ir, xt_nop, lF_12, xq_141_11_virtualc, xq_142_11_virtualc, xq_143_11_virtualc, xq_144_11_virtualc, xq_277_200_static, xq_289_12_virtualm, iN_add, iN_mul, iN_sub, iN_and, iN_or, iN_clr, iN_shl, iN_shr, tb_r1, b1_z, b1_or, b1_and, b1_or0, b1_or1, b1_0or, b1_t, b1_f, iN_lt, iN_inj, reduceIte, if_true, if_false, Nat.zero_add, Nat.add_zero, Bool.false_eq_true, Bool.true_eq_false, Nat.lt_irrefl, iN_az, not_true_eq_false, not_false_eq_true, Nat.reduceEqDiff, Nat.reduceLT, Nat.reduceAdd, Nat.reduceMul, Nat.reduceSub]
  · have hK : ¬ KS σ (alr σ) := fun z => c1 (KS_KB.mpr z)
    obtain ⟨m1, m2, m3⟩ := ST_min (σ 1 7) (alr σ) hK c3
    have e3 := ck (xs := xs) (d := d + 39) (M := N) (ρ := ρ) (w := w) (E := E) O hTA (u := v) (by omega)
    have hKv : KSb n B v = false := by
      cases h : KSb n B v
      · rfl
      · exact absurd ((KSb_iff O hTA).mp h) m1
    have hKa : KSb n B (alr σ) = false := by
      cases h : KSb n B (alr σ)
      · rfl
      · exact absurd ((KSb_iff O hTA).mp h) hK
    rw [hKv] at e3
    rw [hKa] at e2
    obtain ⟨N2, i2, e4⟩ := k_15 (xs := xs) (d := d) (ρ := ρ) (w := w) (E := E) (y6 := .retAddr 9) (y7 := .retAddr 9) (y8 := .retAddr 9) (y9 := .retAddr 9) O hTA hK c2 m3 0 (Nat.zero_le _) N i1
    obtain ⟨ls, m, f, y, q1, e5⟩ := k_27 (xs := xs) (d := d) (M := N2) (ρ := ρ) (w := w) (E := E) (x3 := nI v) O hTA hK 0 (Nat.zero_le _) 99 0 0 (.retAddr 9) CL_0
    obtain ⟨hm, g, hg, hf⟩ := CL_RS q1 hK
    have hm2 : m < 2000 := by
      rcases q1 with ⟨-, h, -⟩ | ⟨-, -, -, h, -⟩ <;> omega
    have hf2 : f < 2000 := by
      rcases q1 with ⟨-, -, h, -⟩ | ⟨-, -, -, -, h, -⟩ <;> omega
    obtain ⟨N3, i3, e6⟩ := k_40 (xs := xs) (d := d) (ρ := ρ) (n := n) (B := B) (w := w) (W := W) (E := E) (x3 := nI (alr σ)) (x4 := nI v) (x5 := nI ls) (y8 := .int (nI (alr σ + 1))) (y9 := y) O i2 hm hm2 hg hf hf2
    refine ⟨N3, i3, ?_⟩
    rw [← e6, ← e5, ← e4]
    clear hTA hI p1 p2 i1 i2 i3 c1 c3 hK m1 m2 m3 q1 hg e4 e5 e6 hKv hKa
    simp (disch := first | assumption | omega | exact st8_a (Nat.le_of_ble_eq_true rfl)) only [ea_r, e1, e2, e3, Nat.not_lt_zero, eb_296_0, eb_296_1, eb_296_2, eb_296_9, eb_296_10, eb_296_11, eb_296_12, eb_296_14, kl_a, kl_d, kl_f, kl_i, kl_l, kl_n, kl_r, xr_1, xr_10, xr_11, xr_110, xr_12, xr_13, xr_14, xr_15, xr_2, xr_257, xr_27, xr_3, xr_30, xr_31, xr_32, xr_33, xr_34, xr_35, xr_36, xr_37, xr_38, xr_39, xr_4, xr_44, xr_5, xr_55, xr_56, xr_57, xr_58, xr_61, xr_62, xr_64, xr_75, xr_77, xr_91, xr_92, xr_95, xr_96, af_0, af_1, xt_goto, xt_ib, xt_ic, xt_ic_ge, xt_ic_gt, xt_ic_ne, xt_if_eq, xt_if_lt, xt_if_ne, xt_ir, xt_nop, lF_12, xq_141_11_virtualc, xq_142_11_virtualc, xq_143_11_virtualc, xq_144_11_virtualc, xq_277_200_static, xq_289_12_virtualm, iN_add, iN_mul, iN_sub, iN_and, iN_or, iN_clr, iN_shl, iN_shr, tb_r1, b1_z, b1_or, b1_and, b1_or0, b1_or1, b1_0or, b1_t, b1_f, iN_lt, iN_inj, reduceIte, if_true, if_false, Nat.zero_add, Nat.add_zero, Bool.false_eq_true, Bool.true_eq_false, Nat.lt_irrefl, iN_az, not_true_eq_false, not_false_eq_true, Nat.reduceEqDiff, Nat.reduceLT, Nat.reduceAdd, Nat.reduceMul, Nat.reduceSub]
end Pg
