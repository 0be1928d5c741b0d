/-! THE LAW'S SCHOOL: shares as one number; the seed -/
/-- its digits of one share k, after n teachers -/
def shi (f : Nat → Nat) (k : Nat) : Nat → Nat → Nat
  | 0, a => a
  | n + 1, a => if f n = k then 10 * shi f k n a + k else shi f k n a
/-- the shares from 6 down, j of them -/
def sho (T : Nat) (f : Nat → Nat) : Nat → Nat
  | 0 => 0
  | j + 1 => shi f (6 - j) T (sho T f j)
set_option maxRecDepth 100000 in
theorem shi_cg {f g : Nat → Nat} {k n : Nat} (h : ∀ t, t < n → f t = g t) (a : Nat) : shi f k n a = shi g k n a := by
  induction n with
  | zero => rfl
  | succ n ih => rw [shi, shi, h n (by omega), ih fun t ht => h t (by omega)]
set_option maxRecDepth 100000 in
theorem sho_cg {f g : Nat → Nat} {T : Nat} (h : ∀ t, t < T → f t = g t) (j : Nat) : sho T f j = sho T g j := by
  induction j with
  | zero => rfl
  | succ j ih => rw [sho, sho, ih, shi_cg h]
def tri (a b c : Nat) : Nat → Nat := fun t => if t = 0 then a else if t = 1 then b else c
set_option maxRecDepth 100000 in
theorem sho_lt (T a b c : Nat) (hT : T ≤ 3) (ha : a < 5) (hb : b < 5) (hc : c < 5) (j : Nat) (hj : j ≤ 7) : sho T (tri a b c) j < 1000 := by
  have key : ∀ T, T < 4 → ∀ a, a < 5 → ∀ b, b < 5 → ∀ c, c < 5 → ∀ j, j < 8 → sho T (tri a b c) j < 1000 := by decide +kernel
  exact key T (by omega) a ha b hb c hc j (by omega)
set_option maxRecDepth 100000 in
theorem tri_of {f : Nat → Nat} {T : Nat} (hT : T ≤ 3) : ∀ t, t < T → f t = tri (f 0) (f 1) (f 2) t := by
  intro t ht
  have : t = 0 ∨ t = 1 ∨ t = 2 := by omega
  rcases this with rfl | rfl | rfl <;> rfl
def s5 (T : Nat) (f : Nat → Nat) : Nat := sm T fun t => 5 ^ f t
/-- of the sums of powers, how the digits stand: as many k as the k-th digit to base 5 says -/
def s5d (x : Nat) : Nat := shi (fun _ => 0) 0 (x % 5) (shi (fun _ => 1) 1 (x / 5 % 5) (shi (fun _ => 2) 2 (x / 25 % 5) (shi (fun _ => 3) 3 (x / 125 % 5) (shi (fun _ => 4) 4 (x / 625 % 5) 0))))
def s5l (T : Nat) : List Nat := (List.range (125 * 5)).filterMap fun x => if x / 125 < 5 then some (s5 T (tri (x % 5) (x / 5 % 5) (x / 25 % 5))) else none
set_option maxRecDepth 100000 in
theorem sho_s5 (T a b c : Nat) (hT : T ≤ 3) (ha : a < 5) (hb : b < 5) (hc : c < 5) : sho T (tri a b c) 7 = s5d (s5 T (tri a b c)) := by
  have key : ∀ T, T < 4 → ∀ a, a < 5 → ∀ b, b < 5 → ∀ c, c < 5 → sho T (tri a b c) 7 = s5d (s5 T (tri a b c)) := by decide +kernel
  exact key T (by omega) a ha b hb c hc
/-- the sums of T powers, each once -/
def s5r : Nat → List Nat
  | 0 => [0]
  | 1 => [1, 5, 25, 125, 625]
  | 2 => [2, 6, 10, 26, 30, 50, 126, 130, 150, 250, 626, 630, 650, 750, 1250]
  | _ => [3, 7, 11, 15, 27, 31, 35, 51, 55, 75, 127, 131, 135, 151, 155, 175, 251, 255, 275, 375, 627, 631, 635, 651, 655, 675, 751, 755, 775, 875, 1251, 1255, 1275, 1375, 1875]
set_option maxRecDepth 100000 in
theorem s5_in (T a b c : Nat) (hT : T ≤ 3) (ha : a < 5) (hb : b < 5) (hc : c < 5) : s5 T (tri a b c) ∈ s5r T := by
  have key : ∀ T, T < 4 → ∀ a, a < 5 → ∀ b, b < 5 → ∀ c, c < 5 → s5 T (tri a b c) ∈ s5r T := by decide +kernel
  exact key T (by omega) a ha b hb c hc
set_option maxRecDepth 100000 in
theorem s5_mon (T : Nat) (hT : T ≤ 3) : ∀ x ∈ s5r T, ∀ y ∈ s5r T, (s5d x < s5d y ↔ x < y) := by
  have key : ∀ T, T < 4 → ∀ x ∈ s5r T, ∀ y ∈ s5r T, (s5d x < s5d y ↔ x < y) := by decide +kernel
  exact key T (by omega)
-- the numbers of shares stand to each other as the sums of powers do
set_option maxRecDepth 100000 in
theorem sho_ord {f g : Nat → Nat} {T : Nat} (hT : T ≤ 3) (hf : ∀ t, f t < 5) (hg : ∀ t, g t < 5) : sho T f 7 < sho T g 7 ↔ s5 T f < s5 T g := by
  have e1 := tri_of (f := f) hT
  have e2 := tri_of (f := g) hT
  rw [sho_cg e1, sho_cg e2, sho_s5 _ _ _ _ hT (hf _) (hf _) (hf _), sho_s5 _ _ _ _ hT (hg _) (hg _) (hg _)]
  have e3 : s5 T f = s5 T (tri (f 0) (f 1) (f 2)) := sm_cg fun t ht => by rw [e1 t ht]
  have e4 : s5 T g = s5 T (tri (g 0) (g 1) (g 2)) := sm_cg fun t ht => by rw [e2 t ht]
  rw [e3, e4]
  exact s5_mon T hT _ (s5_in _ _ _ _ hT (hf _) (hf _) (hf _)) _ (s5_in _ _ _ _ hT (hg _) (hg _) (hg _))
set_option maxRecDepth 100000 in
theorem shr_le {σ : Nat → Nat → Nat} (s : Nat → Nat) (t : Nat) : shr σ s t ≤ (σ 1 6) := by
  have := sm_le (n := (σ 1 6)) (c := 1) (f := fun l => b1 (decide (σ 6 l = t) && decide (cov σ l (s l) &&& lh σ ≠ 0))) fun i _ => Nat.le_of_lt_succ (b1_lt _)
  unfold shr
  omega
-- a lesson that keeps to its day ends it just if it covers a last hour
set_option maxRecDepth 100000 in
theorem las_lh {σ : Nat → Nat → Nat} (O : Ok σ) {l s : Nat} (hl : l < (σ 1 6)) (hs : s < (σ 1 2)) (hst : sty σ l s = true) : (hou σ (las σ l s) = (σ 1 1) - 1) ↔ cov σ l s &&& lh σ ≠ 0 := by
  obtain ⟨hD1, hD2, hH1, hH2, hS, hC, hT, hR, hL, hQ⟩ := Ok_b O
  obtain ⟨-, -, h3⟩ := Ok_l O hl
  unfold sty at hst
  have key : ∀ D, D < 3 → ∀ H, H < 4 → ∀ s, s < 6 → ∀ n, n < 3 → (!(decide (1 ≤ D) && (decide (1 ≤ H) && (decide (s < D * H) && (decide (1 ≤ n) && (decide (n = 1) || decide ((if s < H then s else s - H) + 1 < H)))))) || (decide ((if (if n = 2 ∧ s + 1 < D * H then s + 1 else s) < H then (if n = 2 ∧ s + 1 < D * H then s + 1 else s) else (if n = 2 ∧ s + 1 < D * H then s + 1 else s) - H) = H - 1) == decide (((if n = 2 ∧ s + 1 < D * H then 3 else 1) <<< s) &&& (en (D * H) fun i => decide (i % H = H - 1)) ≠ 0))) = true := by decide +kernel
  have hS2 : (σ 1 2) = (σ 1 0) * (σ 1 1) := O.2.2.1
  have hs2 : s < (σ 1 0) * (σ 1 1) := by rw [← hS2]; exact hs
  have hn1 : 1 ≤ σ 7 l := by omega
  unfold hou at hst
  have h := key (σ 1 0) (by omega) (σ 1 1) (by omega) s (by omega) (σ 7 l) (by omega)
  rw [decide_eq_true hD1, decide_eq_true hH1, decide_eq_true hs2, decide_eq_true hn1, hst] at h
  have h2 : (decide ((if (if σ 7 l = 2 ∧ s + 1 < (σ 1 0) * (σ 1 1) then s + 1 else s) < (σ 1 1) then (if σ 7 l = 2 ∧ s + 1 < (σ 1 0) * (σ 1 1) then s + 1 else s) else (if σ 7 l = 2 ∧ s + 1 < (σ 1 0) * (σ 1 1) then s + 1 else s) - (σ 1 1)) = (σ 1 1) - 1) == decide (((if σ 7 l = 2 ∧ s + 1 < (σ 1 0) * (σ 1 1) then 3 else 1) <<< s) &&& (en ((σ 1 0) * (σ 1 1)) fun i => decide (i % (σ 1 1) = (σ 1 1) - 1)) ≠ 0)) = true := h
  rw [beq_iff_eq, decide_eq_decide] at h2
  unfold hou las cov lh
  rw [hS2]
  exact h2
section Pb
variable {xs : List Int32} {d : Nat} {σ M τ : Nat → Nat → Nat} {ρ : Int32} {N : Nat} {Ts : List (Option Nat)} {B : Nat → Nat} {Q : ab_H} {l o s r u v q t i n x p k : Nat} {w f : Nat → Nat} {h : ab_H}
set_option maxRecDepth 100000 in
theorem iN_ushr8 (x : Int32) : ∃ k, k < 16777216 ∧ ((x.toUInt32 >>> ((nI 8).toUInt32 &&& Int32.toUInt32 31)).toInt32) = nI k := by
  refine ⟨x.toUInt32.toNat / 256, ?_, ?_⟩
  · have := x.toUInt32.toNat_lt
    omega
  · have e : ((nI 8).toUInt32 &&& Int32.toUInt32 31) = 8 := by decide
    rw [e]
    apply Int32.toBitVec_inj.1
    rw [iN_bv]
    apply BitVec.eq_of_toNat_eq
    show (x.toUInt32 >>> 8).toNat = _
    rw [UInt32.toNat_shiftRight, BitVec.toNat_ofNat]
    have := x.toUInt32.toNat_lt
    rw [show (8 : UInt32).toNat % 32 = 8 from rfl, Nat.shiftRight_eq_div_pow]
    omega
set_option maxRecDepth 100000 in
theorem p_292 (hk : 0 < k) (hk2 : k < 1000) : ∃ v ρ', v < k ∧ ev xs d 292 0 ([.ref 62, .int (nI k)], [], hc σ M (LR ρ τ N Ts B Q)) = some (.inl (some (.int (nI (v)))), hc σ M (LR ρ' τ N Ts B Q)) := by
  obtain ⟨z, hz, ez⟩ := iN_ushr8 (ρ * nI 1103515245 + nI 12345)
  refine ⟨z % k, ρ * nI 1103515245 + nI 12345, Nat.mod_lt _ hk, ?_⟩
  simp (disch := first | assumption | omega | exact st8_a (Nat.le_of_ble_eq_true rfl)) only [ez, eb_292_0, xr_1, xr_10, xr_143, xr_2, xr_223, xr_228, xr_251, xr_252, xr_28, xr_3, xr_38, xr_4, xr_41, xr_5, xt_ib, xt_ic, xt_ir, lA_64, lA_65, lA_66, lA_67, lA_68, lA_69, lA_70, lA_71, lA_72, lA_73, lA_75, lA_62, lW_64, lW_65, lW_66, lW_67, lW_68, lW_69, lW_70, lW_71, lW_72, lW_73, lW_75, lW_62, iN_add, iN_mul, iN_sub, iN_and, iN_or, iN_clr, iN_shl, iN_shr, tb_r1, b1_z, b1_or, b1_and, b1_or0, b1_or1, b1_0or, b1_t, b1_f, iN_lt, iN_inj, reduceIte, if_true, if_false, Nat.zero_add, Nat.add_zero, Bool.false_eq_true, Bool.true_eq_false, Nat.lt_irrefl, iN_az, not_true_eq_false, not_false_eq_true, Nat.reduceEqDiff, Nat.reduceLT, Nat.reduceAdd, Nat.reduceMul, Nat.reduceSub]
set_option maxRecDepth 100000 in
theorem p_291 (O : Ok σ) (hq : (hc σ M (LR ρ σ N Ts B Q))[p]? = some (oI (ar n w))) (hn : n ≤ 6) (hln : (σ 1 6) ≤ n) (hw : WB σ (σ 1 6) w) (hst : ∀ l, l < (σ 1 6) → sty σ l (w l / 10) = true) : ∃ f, ev xs (d + 3) 291 0 ([.ref 63, .ref p, .retAddr 9, .retAddr 9, .retAddr 9, .retAddr 9], [], hc σ M (LR ρ σ N Ts B Q)) = some (.inl (some (.int (nI (sho (σ 1 4) (fun t => shr σ (tsl w) t) 7)))), hc σ M (LR ρ σ N Ts B (Q ++ [oI (ar (σ 1 4) f)]))) := by
  obtain ⟨hD1, hD2, hH1, hH2, hS, hC, hT, hR, hL, hQ⟩ := Ok_b O
  have fin : ∀ g : Nat → Nat, (∀ t, t < (σ 1 4) → g t = shr σ (tsl w) t) → ∀ j, j ≤ 7 → ∀ y, ev xs (d + 3) 291 8 ([.ref 63, .ref p, .ref (76 + Q.length), .int (nI (sho (σ 1 4) (fun t => shr σ (tsl w) t) j)), .int (nI 6 - nI j), y], [], hc σ M (LR ρ σ N Ts B (Q ++ [oI (ar (σ 1 4) g)]))) = some (.inl (some (.int (nI (sho (σ 1 4) (fun t => shr σ (tsl w) t) 7)))), hc σ M (LR ρ σ N Ts B (Q ++ [oI (ar (σ 1 4) g)]))) := by
    intro g hg
    refine lp 7 ?_ ?_
    · intro y
      rw [eb_291_8]
      clear hw hst hg
      simp (disch := first | assumption | omega | exact st8_a (Nat.le_of_ble_eq_true rfl)) only [show (nI 6 - nI 7 < nI 0) from by decide, eb_291_16, kl_a, kl_d, kl_f, kl_i, kl_l, kl_n, kl_r, xr_1, xr_10, xr_11, xr_12, xr_13, xr_135, xr_136, xr_137, xr_138, xr_139, xr_14, xr_143, xr_15, xr_16, xr_17, xr_18, xr_19, xr_2, xr_20, xr_27, xr_3, xr_32, xr_33, xr_34, xr_35, xr_36, xr_37, xr_38, xr_39, xr_4, xr_41, xr_43, xr_48, xr_5, xr_74, xr_77, xr_85, xr_86, af_0, af_1, xt_goto, xt_ib, xt_ic, xt_ic_ge, xt_ic_ne, xt_if_lt, xt_ir, xt_nop, lF_1, lF_10, lF_7, lF_8, lA_64, lA_65, lA_66, lA_67, lA_68, lA_69, lA_70, lA_71, lA_72, lA_73, lA_75, lA_62, lW_64, lW_65, lW_66, lW_67, lW_68, lW_69, lW_70, lW_71, lW_72, lW_73, lW_75, lW_62, xq_283_12_virtualm, iN_add, iN_mul, iN_and, iN_or, iN_clr, iN_shl, iN_shr, tb_r1, b1_z, b1_or, b1_and, b1_or0, b1_or1, b1_0or, b1_t, b1_f, iN_lt, iN_inj, reduceIte, if_true, if_false, Nat.zero_add, Nat.add_zero, Bool.false_eq_true, Bool.true_eq_false, Nat.lt_irrefl, iN_az, not_true_eq_false, not_false_eq_true, Nat.reduceEqDiff, Nat.reduceLT, Nat.reduceAdd, Nat.reduceMul, Nat.reduceSub]
    · intro j hj ih y
      have inn : ∀ t, t ≤ (σ 1 4) → ev xs (d + 3) 291 10 ([.ref 63, .ref p, .ref (76 + Q.length), .int (nI (shi (fun t => shr σ (tsl w) t) (6 - j) t (sho (σ 1 4) (fun t => shr σ (tsl w) t) j))), .int (nI (6 - j)), .int (nI t)], [], hc σ M (LR ρ σ N Ts B (Q ++ [oI (ar (σ 1 4) g)]))) = some (.inl (some (.int (nI (sho (σ 1 4) (fun t => shr σ (tsl w) t) 7)))), hc σ M (LR ρ σ N Ts B (Q ++ [oI (ar (σ 1 4) g)]))) := by
        refine lp (σ 1 4) ?_ ?_
        · have e := ih (.int (nI (σ 1 4)))
          rw [sho] at e
          rw [show nI 6 - nI (j + 1) = nI (6 - j) - nI 1 by
            have : j = 0 ∨ j = 1 ∨ j = 2 ∨ j = 3 ∨ j = 4 ∨ j = 5 ∨ j = 6 := by omega
            rcases this with rfl | rfl | rfl | rfl | rfl | rfl | rfl <;> decide] at e
          rw [eb_291_10]
          clear ih hw hst hg
          simp (disch := first | assumption | omega | exact st8_a (Nat.le_of_ble_eq_true rfl)) only [eb_291_15, kl_a, kl_d, kl_f, kl_i, kl_l, kl_n, kl_r, xr_1, xr_10, xr_11, xr_12, xr_13, xr_135, xr_136, xr_137, xr_138, xr_139, xr_14, xr_143, xr_15, xr_16, xr_17, xr_18, xr_19, xr_2, xr_20, xr_27, xr_3, xr_32, xr_33, xr_34, xr_35, xr_36, xr_37, xr_38, xr_39, xr_4, xr_41, xr_43, xr_48, xr_5, xr_74, xr_77, xr_85, xr_86, af_0, af_1, xt_goto, xt_ib, xt_ic, xt_ic_ge, xt_ic_ne, xt_if_lt, xt_ir, xt_nop, lF_1, lF_10, lF_7, lF_8, lA_64, lA_65, lA_66, lA_67, lA_68, lA_69, lA_70, lA_71, lA_72, lA_73, lA_75, lA_62, lW_64, lW_65, lW_66, lW_67, lW_68, lW_69, lW_70, lW_71, lW_72, lW_73, lW_75, lW_62, xq_283_12_virtualm, iN_add, iN_mul, iN_and, iN_or, iN_clr, iN_shl, iN_shr, tb_r1, b1_z, b1_or, b1_and, b1_or0, b1_or1, b1_0or, b1_t, b1_f, iN_lt, iN_inj, reduceIte, if_true, if_false, Nat.zero_add, Nat.add_zero, Bool.false_eq_true, Bool.true_eq_false, Nat.lt_irrefl, iN_az, not_true_eq_false, not_false_eq_true, Nat.reduceEqDiff, Nat.reduceLT, Nat.reduceAdd, Nat.reduceMul, Nat.reduceSub]
          exact e
        · intro t ht ih2
          have hgt := hg t ht
          have hle := shr_le (σ := σ) (tsl w) t
          rw [eb_291_10]
          rw [shi] at ih2
          clear ih hw hst hg
          by_cases h1 : shr σ (tsl w) t = 6 - j
          · rw [if_pos h1] at ih2
            simp (disch := first | assumption | omega | exact st8_a (Nat.le_of_ble_eq_true rfl)) only [ht, lA_L, hgt, eq_true h1, eb_291_11, eb_291_12, eb_291_14, kl_a, kl_d, kl_f, kl_i, kl_l, kl_n, kl_r, xr_1, xr_10, xr_11, xr_12, xr_13, xr_135, xr_136, xr_137, xr_138, xr_139, xr_14, xr_143, xr_15, xr_16, xr_17, xr_18, xr_19, xr_2, xr_20, xr_27, xr_3, xr_32, xr_33, xr_34, xr_35, xr_36, xr_37, xr_38, xr_39, xr_4, xr_41, xr_43, xr_48, xr_5, xr_74, xr_77, xr_85, xr_86, af_0, af_1, xt_goto, xt_ib, xt_ic, xt_ic_ge, xt_ic_ne, xt_if_lt, xt_ir, xt_nop, lF_1, lF_10, lF_7, lF_8, lA_64, lA_65, lA_66, lA_67, lA_68, lA_69, lA_70, lA_71, lA_72, lA_73, lA_75, lA_62, lW_64, lW_65, lW_66, lW_67, lW_68, lW_69, lW_70, lW_71, lW_72, lW_73, lW_75, lW_62, xq_283_12_virtualm, iN_add, iN_mul, iN_sub, iN_and, iN_or, iN_clr, iN_shl, iN_shr, tb_r1, b1_z, b1_or, b1_and, b1_or0, b1_or1, b1_0or, b1_t, b1_f, iN_lt, iN_inj, reduceIte, if_true, if_false, Nat.zero_add, Nat.add_zero, Bool.false_eq_true, Bool.true_eq_false, Nat.lt_irrefl, iN_az, not_true_eq_false, not_false_eq_true, Nat.reduceEqDiff, Nat.reduceLT, Nat.reduceAdd, Nat.reduceMul, Nat.reduceSub]
            exact ih2
          · rw [if_neg h1] at ih2
            simp (disch := first | assumption | omega | exact st8_a (Nat.le_of_ble_eq_true rfl)) only [ht, lA_L, hgt, h1, eb_291_11, eb_291_13, eb_291_14, kl_a, kl_d, kl_f, kl_i, kl_l, kl_n, kl_r, xr_1, xr_10, xr_11, xr_12, xr_13, xr_135, xr_136, xr_137, xr_138, xr_139, xr_14, xr_143, xr_15, xr_16, xr_17, xr_18, xr_19, xr_2, xr_20, xr_27, xr_3, xr_32, xr_33, xr_34, xr_35, xr_36, xr_37, xr_38, xr_39, xr_4, xr_41, xr_43, xr_48, xr_5, xr_74, xr_77, xr_85, xr_86, af_0, af_1, xt_goto, xt_ib, xt_ic, xt_ic_ge, xt_ic_ne, xt_if_lt, xt_ir, xt_nop, lF_1, lF_10, lF_7, lF_8, lA_64, lA_65, lA_66, lA_67, lA_68, lA_69, lA_70, lA_71, lA_72, lA_73, lA_75, lA_62, lW_64, lW_65, lW_66, lW_67, lW_68, lW_69, lW_70, lW_71, lW_72, lW_73, lW_75, lW_62, xq_283_12_virtualm, iN_add, iN_mul, iN_sub, iN_and, iN_or, iN_clr, iN_shl, iN_shr, tb_r1, b1_z, b1_or, b1_and, b1_or0, b1_or1, b1_0or, b1_t, b1_f, iN_lt, iN_inj, reduceIte, if_true, if_false, Nat.zero_add, Nat.add_zero, Bool.false_eq_true, Bool.true_eq_false, Nat.lt_irrefl, iN_az, not_true_eq_false, not_false_eq_true, Nat.reduceEqDiff, Nat.reduceLT, Nat.reduceAdd, Nat.reduceMul, Nat.reduceSub]
            exact ih2
      have e := inn 0 (Nat.zero_le _)
      rw [shi] at e
      rw [eb_291_8]
      rw [iN_sub (show j ≤ 6 by omega)]
      clear ih inn hw hst hg
      simp (disch := first | assumption | omega | exact st8_a (Nat.le_of_ble_eq_true rfl)) only [eb_291_9, kl_a, kl_d, kl_f, kl_i, kl_l, kl_n, kl_r, xr_1, xr_10, xr_11, xr_12, xr_13, xr_135, xr_136, xr_137, xr_138, xr_139, xr_14, xr_143, xr_15, xr_16, xr_17, xr_18, xr_19, xr_2, xr_20, xr_27, xr_3, xr_32, xr_33, xr_34, xr_35, xr_36, xr_37, xr_38, xr_39, xr_4, xr_41, xr_43, xr_48, xr_5, xr_74, xr_77, xr_85, xr_86, af_0, af_1, xt_goto, xt_ib, xt_ic, xt_ic_ge, xt_ic_ne, xt_if_lt, xt_ir, xt_nop, lF_1, lF_10, lF_7, lF_8, lA_64, lA_65, lA_66, lA_67, lA_68, lA_69, lA_70, lA_71, lA_72, lA_73, lA_75, lA_62, lW_64, lW_65, lW_66, lW_67, lW_68, lW_69, lW_70, lW_71, lW_72, lW_73, lW_75, lW_62, xq_283_12_virtualm, iN_add, iN_mul, iN_sub, iN_and, iN_or, iN_clr, iN_shl, iN_shr, tb_r1, b1_z, b1_or, b1_and, b1_or0, b1_or1, b1_0or, b1_t, b1_f, iN_lt, iN_inj, reduceIte, if_true, if_false, Nat.zero_add, Nat.add_zero, Bool.false_eq_true, Bool.true_eq_false, Nat.lt_irrefl, iN_az, not_true_eq_false, not_false_eq_true, Nat.reduceEqDiff, Nat.reduceLT, Nat.reduceAdd, Nat.reduceMul, Nat.reduceSub]
      exact e
  have key : ∀ k, k ≤ (σ 1 6) → ∀ g : Nat → Nat, (∀ t, t < (σ 1 4) → g t = sm k fun l => b1 (decide (σ 6 l = t) && decide (cov σ l (w l / 10) &&& lh σ ≠ 0))) → ∃ f, ev xs (d + 3) 291 1 ([.ref 63, .ref p, .ref (76 + Q.length), .int (nI k), .retAddr 9, .retAddr 9], [], hc σ M (LR ρ σ N Ts B (Q ++ [oI (ar (σ 1 4) g)]))) = some (.inl (some (.int (nI (sho (σ 1 4) (fun t => shr σ (tsl w) t) 7)))), hc σ M (LR ρ σ N Ts B (Q ++ [oI (ar (σ 1 4) f)]))) := by
    refine lp (σ 1 6) ?_ ?_
    · intro g hg
      refine ⟨g, ?_⟩
      have e := fin g hg 0 (Nat.zero_le _) (.retAddr 9)
      rw [sho, show nI 6 - nI 0 = nI 6 by decide] at e
      rw [eb_291_1]
      clear fin hg hw hst
      simp (disch := first | assumption | omega | exact st8_a (Nat.le_of_ble_eq_true rfl)) only [eb_291_7, kl_a, kl_d, kl_f, kl_i, kl_l, kl_n, kl_r, xr_1, xr_10, xr_11, xr_12, xr_13, xr_135, xr_136, xr_137, xr_138, xr_139, xr_14, xr_143, xr_15, xr_16, xr_17, xr_18, xr_19, xr_2, xr_20, xr_27, xr_3, xr_32, xr_33, xr_34, xr_35, xr_36, xr_37, xr_38, xr_39, xr_4, xr_41, xr_43, xr_48, xr_5, xr_74, xr_77, xr_85, xr_86, af_0, af_1, xt_goto, xt_ib, xt_ic, xt_ic_ge, xt_ic_ne, xt_if_lt, xt_ir, xt_nop, lF_1, lF_10, lF_7, lF_8, lA_64, lA_65, lA_66, lA_67, lA_68, lA_69, lA_70, lA_71, lA_72, lA_73, lA_75, lA_62, lW_64, lW_65, lW_66, lW_67, lW_68, lW_69, lW_70, lW_71, lW_72, lW_73, lW_75, lW_62, xq_283_12_virtualm, iN_add, iN_mul, iN_sub, iN_and, iN_or, iN_clr, iN_shl, iN_shr, tb_r1, b1_z, b1_or, b1_and, b1_or0, b1_or1, b1_0or, b1_t, b1_f, iN_lt, iN_inj, reduceIte, if_true, if_false, Nat.zero_add, Nat.add_zero, Bool.false_eq_true, Bool.true_eq_false, Nat.lt_irrefl, iN_az, not_true_eq_false, not_false_eq_true, Nat.reduceEqDiff, Nat.reduceLT, Nat.reduceAdd, Nat.reduceMul, Nat.reduceSub]
      exact e
    · intro k hk ih g hg
      obtain ⟨h1, h2, h3⟩ := Ok_l O hk
      obtain ⟨s1, r1⟩ := hw k hk
      have v1 : w k < 60 := by omega
      have h5 := las_lt (σ := σ) (l := k) s1
      have h9 := hou_lt O h5
      have c0 := las_lh O hk s1 (hst k hk)
      have m1 := p_283 (xs := xs) (d := d) (M := M) (ρ := ρ) (N := N) (Ts := Ts) (B := B) (Q := Q ++ [oI (ar (σ 1 4) g)]) O hk s1
      have hqq : (hc σ M (LR ρ σ N Ts B (Q ++ [oI (ar (σ 1 4) g)])))[p]? = some (oI (ar n w)) := LR_ga hq
      have hg0 := hg _ h2
      by_cases c1 : hou σ (las σ k (w k / 10)) = (σ 1 1) - 1
      · obtain ⟨f, e⟩ := ih (u1 g (σ 6 k) (g (σ 6 k) + 1)) fun t ht => by
          rw [sm]
          by_cases e : σ 6 k = t
          · subst e
            rw [u1_s, hg _ ht, decide_eq_true (c0.mp c1), decide_eq_true rfl]
            rfl
          · rw [u1_n (fun z => e z.symm), hg _ ht, decide_eq_false e]
            rfl
        refine ⟨f, ?_⟩
        rw [eb_291_1]
        clear ih hw hst hg fin c0
        simp (disch := first | assumption | omega | exact st8_a (Nat.le_of_ble_eq_true rfl)) only [hk, q_ia hqq, lA_L, lW_L, m1, hou_m O h5, eq_true c1, eb_291_2, eb_291_3, eb_291_4, eb_291_6, kl_a, kl_d, kl_f, kl_i, kl_l, kl_n, kl_r, xr_1, xr_10, xr_11, xr_12, xr_13, xr_135, xr_136, xr_137, xr_138, xr_139, xr_14, xr_143, xr_15, xr_16, xr_17, xr_18, xr_19, xr_2, xr_20, xr_27, xr_3, xr_32, xr_33, xr_34, xr_35, xr_36, xr_37, xr_38, xr_39, xr_4, xr_41, xr_43, xr_48, xr_5, xr_74, xr_77, xr_85, xr_86, af_0, af_1, xt_goto, xt_ib, xt_ic, xt_ic_ge, xt_ic_ne, xt_if_lt, xt_ir, xt_nop, lF_1, lF_10, lF_7, lF_8, lA_64, lA_65, lA_66, lA_67, lA_68, lA_69, lA_70, lA_71, lA_72, lA_73, lA_75, lA_62, lW_64, lW_65, lW_66, lW_67, lW_68, lW_69, lW_70, lW_71, lW_72, lW_73, lW_75, lW_62, xq_283_12_virtualm, iN_add, iN_mul, iN_sub, iN_and, iN_or, iN_clr, iN_shl, iN_shr, tb_r1, b1_z, b1_or, b1_and, b1_or0, b1_or1, b1_0or, b1_t, b1_f, iN_lt, iN_inj, reduceIte, if_true, if_false, Nat.zero_add, Nat.add_zero, Bool.false_eq_true, Bool.true_eq_false, Nat.lt_irrefl, iN_az, not_true_eq_false, not_false_eq_true, Nat.reduceEqDiff, Nat.reduceLT, Nat.reduceAdd, Nat.reduceMul, Nat.reduceSub]
        exact e
      · obtain ⟨f, e⟩ := ih (u1 g (σ 6 k) (g (σ 6 k) + 0)) fun t ht => by
          rw [sm]
          by_cases e : σ 6 k = t
          · subst e
            rw [u1_s, hg _ ht, decide_eq_false (fun z => c1 (c0.mpr z)), Bool.and_false]
            rfl
          · rw [u1_n (fun z => e z.symm), hg _ ht, decide_eq_false e]
            rfl
        refine ⟨f, ?_⟩
        rw [eb_291_1]
        clear ih hw hst hg fin c0
        simp (disch := first | assumption | omega | exact st8_a (Nat.le_of_ble_eq_true rfl)) only [hk, q_ia hqq, lA_L, lW_L, m1, hou_m O h5, c1, eb_291_2, eb_291_3, eb_291_5, eb_291_6, kl_a, kl_d, kl_f, kl_i, kl_l, kl_n, kl_r, xr_1, xr_10, xr_11, xr_12, xr_13, xr_135, xr_136, xr_137, xr_138, xr_139, xr_14, xr_143, xr_15, xr_16, xr_17, xr_18, xr_19, xr_2, xr_20, xr_27, xr_3, xr_32, xr_33, xr_34, xr_35, xr_36, xr_37, xr_38, xr_39, xr_4, xr_41, xr_43, xr_48, xr_5, xr_74, xr_77, xr_85, xr_86, af_0, af_1, xt_goto, xt_ib, xt_ic, xt_ic_ge, xt_ic_ne, xt_if_lt, xt_ir, xt_nop, lF_1, lF_10, lF_7, lF_8, lA_64, lA_65, lA_66, lA_67, lA_68, lA_69, lA_70, lA_71, lA_72, lA_73, lA_75, lA_62, lW_64, lW_65, lW_66, lW_67, lW_68, lW_69, lW_70, lW_71, lW_72, lW_73, lW_75, lW_62, xq_283_12_virtualm, iN_add, iN_mul, iN_sub, iN_and, iN_or, iN_clr, iN_shl, iN_shr, tb_r1, b1_z, b1_or, b1_and, b1_or0, b1_or1, b1_0or, b1_t, b1_f, iN_lt, iN_inj, reduceIte, if_true, if_false, Nat.zero_add, Bool.false_eq_true, Bool.true_eq_false, Nat.lt_irrefl, iN_az, not_true_eq_false, not_false_eq_true, Nat.reduceEqDiff, Nat.reduceLT, Nat.reduceAdd, Nat.reduceMul, Nat.reduceSub]
        exact e
  obtain ⟨f, e⟩ := key 0 (Nat.zero_le _) (fun _ => 0) fun t ht => rfl
  refine ⟨f, ?_⟩
  clear key fin hw hst
  simp (disch := first | assumption | omega | exact st8_a (Nat.le_of_ble_eq_true rfl)) only [xr_49, LR_len, LR_app, eb_291_0, kl_a, kl_d, kl_f, kl_i, kl_l, kl_n, kl_r, xr_1, xr_10, xr_11, xr_12, xr_13, xr_135, xr_136, xr_137, xr_138, xr_139, xr_14, xr_143, xr_15, xr_16, xr_17, xr_18, xr_19, xr_2, xr_20, xr_27, xr_3, xr_32, xr_33, xr_34, xr_35, xr_36, xr_37, xr_38, xr_39, xr_4, xr_41, xr_43, xr_48, xr_5, xr_74, xr_77, xr_85, xr_86, af_0, af_1, xt_goto, xt_ib, xt_ic, xt_ic_ge, xt_ic_ne, xt_if_lt, xt_ir, xt_nop, lF_1, lF_10, lF_7, lF_8, lA_64, lA_65, lA_66, lA_67, lA_68, lA_69, lA_70, lA_71, lA_72, lA_73, lA_75, lA_62, lW_64, lW_65, lW_66, lW_67, lW_68, lW_69, lW_70, lW_71, lW_72, lW_73, lW_75, lW_62, xq_283_12_virtualm, iN_add, iN_mul, iN_sub, iN_and, iN_or, iN_clr, iN_shl, iN_shr, tb_r1, b1_z, b1_or, b1_and, b1_or0, b1_or1, b1_0or, b1_t, b1_f, iN_lt, iN_inj, reduceIte, if_true, if_false, Nat.zero_add, Nat.add_zero, Bool.false_eq_true, Bool.true_eq_false, Nat.lt_irrefl, iN_az, not_true_eq_false, not_false_eq_true, Nat.reduceEqDiff, Nat.reduceLT, Nat.reduceAdd, Nat.reduceMul, Nat.reduceSub]
  exact e
end Pb
