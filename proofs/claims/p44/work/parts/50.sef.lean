/-! THE CLASS Search: explore runs -/
section Sh
variable {xs : List Int32} {σ M N N2 M' : Nat → Nat → Nat} {R : ab_H} {depth p v j low e : Nat}
set_option maxRecDepth 100000 in
theorem us_sub2 (hP : PS σ M depth p) {s : Nat → Nat} {t i : Nat} (hE : ∀ l, l < (σ 1 6) → p.testBit l = true → s l = M 34 l) (ht : t < (σ 1 4)) (hi : (M 36 t).testBit i = true) : ∃ l, l < (σ 1 6) ∧ σ 6 l = t ∧ (cov σ l (s l)).testBit i = true := by
  rw [hP.2.2.1 t ht] at hi
  unfold usd at hi
  obtain ⟨l, hl, h⟩ := orn_tb.mp hi
  split at h
  · rename_i h2
    refine ⟨l, hl, h2.2, ?_⟩
    rw [hE l hl h2.1]
    exact h
  · simp at h
set_option maxRecDepth 100000 in
theorem EX_A (O : Ok σ) (hP : PS σ M depth p) {s r : Nat → Nat} (hA : QA σ M s r) (hE : ∀ l, l < (σ 1 6) → p.testBit l = true → s l = M 34 l) : EX σ M depth p s := by
  refine ⟨hE, fun l hl hp => ?_⟩
  have tl := (Ok_l O hl).2.1
  refine (hP.2.2.2.2 l hl hp _).mpr ⟨(hA.1 l hl).1, fun o ho hpo => ?_, fun y hy => ?_⟩
  · have := (hA.2.1 o l ho hl (fun z => by rw [z, hp] at hpo; cases hpo)).1
    rwa [hE o ho hpo] at this
  · refine Nat.le_trans (pc_sub fun b hb => ?_) (hA.2.2 _ tl y hy)
    rw [Nat.testBit_and, Nat.testBit_or, Bool.and_eq_true, Bool.or_eq_true] at hb
    rw [Nat.testBit_and, Bool.and_eq_true]
    refine ⟨?_, hb.2⟩
    rcases hb.1 with hb | hb
    · obtain ⟨k, hk, w1, w2⟩ := us_sub2 hP hE tl hb
      exact ctc_tb.mpr ⟨k, hk, w1, w2⟩
    · exact ctc_tb.mpr ⟨l, hl, rfl, hb⟩
-- all lessons have slots and rooms: this is an allowed timetable
set_option maxRecDepth 100000 in
theorem full_QA (hW : QW σ M) (hP : PS σ M depth p) (hO : OS σ M (σ 1 6) p) {g : Nat → Nat} {sp : Nat} (hS : SO σ M 0 (σ 1 6) sp g) : QA σ M (M 34) g := by
  have hall := OS_all hO
  obtain ⟨o1, o2, o3, o4, o5, o6⟩ := hO
  refine ⟨fun l hl => ⟨hP.1 l hl (hall l hl), ?_⟩, fun l o hl ho hlo => ⟨hP.2.1 l o hl ho hlo (hall l hl) (hall o ho), fun h => ?_⟩, fun t ht => ?_⟩
  · obtain ⟨k, hk, e⟩ := o5 l hl (hall l hl)
    have := hS.2.1 k (Nat.zero_le _) hk
    rwa [e] at this
  · obtain ⟨k, hk, e⟩ := o5 l hl (hall l hl)
    obtain ⟨k2, hk2, e2⟩ := o5 o ho (hall o ho)
    by_cases hkk : k2 < k
    · have := hS.2.2.1 k2 k hkk (Nat.zero_le _) hk (by rw [e, e2]; exact h)
      rwa [e, e2] at this
    · have hne : k ≠ k2 := fun z => hlo (by rw [← e, ← e2, z])
      have := hS.2.2.1 k k2 (by omega) (Nat.zero_le _) hk2 (by rw [e, e2, Nat.and_comm]; exact h)
      rw [e, e2] at this
      exact fun z => this z.symm
  · rw [← us_all hP hall ht]
    exact hP.2.2.2.1 t ht
set_option maxRecDepth 100000 in
theorem full_mo (hO : OS σ M (σ 1 6) p) (g : Nat → Nat) : rs ((σ 1 6) - 0) 0 (fun j => mo M (M 33 j) (g (M 33 j))) = sm (σ 1 6) fun l => M 26 (vi l (M 34 l) (g l)) - M 27 (l * 6 + M 34 l) := by
  rw [Nat.sub_zero, rs_sm]
  have e1 : sm (σ 1 6) (fun i => mo M (M 33 (0 + i)) (g (M 33 (0 + i)))) = sm (σ 1 6) fun k => (fun l => mo M l (g l)) (M 33 k) := sm_cg fun i _ => by rw [Nat.zero_add]
  rw [e1, ord_sum hO fun l => mo M l (g l)]
  refine sm_cg fun l hl => ?_
  rw [if_pos (OS_all hO l hl)]
  rfl
set_option maxRecDepth 100000 in
theorem s_80x (O : Ok σ) (hW : QW σ M) (hP : PS σ M depth p) (hO : OS σ M depth p) (hdb : ∀ j, M 32 j < 64) (hr0 : ∀ l, l < (σ 1 6) → M 21 l ≠ 0) (hlim : M 28 8 ≤ 100000) (hfl : M 28 9 ≤ 700000) (hwl : M 28 11 ≤ 1)
    (ih : depth < (σ 1 6) → ∀ p2 (N : Nat → Nat → Nat), QW σ N → PS σ N (depth + 1) p2 → OS σ N (depth + 1) p2 → (∀ j, N 32 j < 64) → (∀ l, l < (σ 1 6) → N 21 l ≠ 0) → N 28 8 ≤ 100000 → N 28 9 ≤ 700000 → N 28 11 ≤ 1 → ∃ M', ∃ b : Bool, ev xs (e + 9) 80 0 ([.ref 28, .int (nI (depth + 1)), .int (nI p2), .retAddr 9, .retAddr 9, .retAddr 9, .retAddr 9, .retAddr 9, .retAddr 9, .retAddr 9, .retAddr 9], [], hc σ N R) = some (.inl (some (.int (nI (b1 b)))), hc σ M' R) ∧ XP σ N M' (depth + 1) p2 ∧ XO σ N (fun s => ∀ l, l < (σ 1 6) → p2.testBit l = true → s l = N 34 l) M' b) :
    ∃ M', ∃ b : Bool, ev xs (e + 10) 80 0 ([.ref 28, .int (nI depth), .int (nI p), .retAddr 9, .retAddr 9, .retAddr 9, .retAddr 9, .retAddr 9, .retAddr 9, .retAddr 9, .retAddr 9], [], hc σ M R) = some (.inl (some (.int (nI (b1 b)))), hc σ M' R) ∧ XP σ M M' depth p ∧ XO σ M (fun s => ∀ l, l < (σ 1 6) → p.testBit l = true → s l = M 34 l) M' b := by
  obtain ⟨hD1, hD2, hH1, hH2, hS, hC, hT, hR, hL, hQ⟩ := Ok_b O
  have hd6 : ∀ l, l < (σ 1 6) → p.testBit l = false → depth < 6 := fun l hl h => by have := OS_lt hO hl h; omega
  have hdL := hO.1
  have hp64 := hO.2.1
  obtain ⟨low, l1, l2, l3, el⟩ := s_87 (xs := xs) (d := e + 7) (R := R) O hW hP hr0 (by omega) hp64 hd6 hdb
  have lowT : ∀ s r, QA σ M s r → (∀ l, l < (σ 1 6) → p.testBit l = true → s l = M 34 l) → low + sm (σ 1 6) (fun l => M 26 (vi l (s l) (r l)) - M 27 (l * 6 + s l)) ≤ QC σ M s r := fun s r hq hE => by
    have h1 := l2 s (EX_A O hP hq hE)
    have h2 := QA_mo hW hq
    omega
  have xp0 : XP σ M M depth p := ⟨Fr_r _ _, fun _ _ => rfl, fun _ _ => rfl, fun _ _ _ => rfl, fun _ _ => rfl, hdb, rfl, rfl⟩
  by_cases hll : M 28 8 < low
  · refine ⟨M, false, ?_, xp0, .inl ⟨rfl, rfl, rfl, rfl, rfl, fun s r hq hE => ?_⟩⟩
    · simp (disch := first | assumption | omega | exact st8_a (Nat.le_of_ble_eq_true rfl)) only [el, hll, eb_80_0, eb_80_1, eb_80_2, eb_80_3, eb_80_4, eb_80_5, eb_80_6, eb_80_7, eb_80_8, eb_80_9, eb_80_11, eb_80_12, eb_80_13, eb_80_14, eb_80_15, eb_80_16, eb_80_17, eb_80_18, eb_80_19, eb_80_20, eb_80_21, kl_a, kl_d, kl_f, kl_i, kl_l, kl_n, kl_r, xr_1, xr_10, xr_2, xr_27, xr_28, xr_3, xr_31, xr_32, xr_33, xr_34, xr_35, xr_36, xr_37, xr_38, xr_4, xr_41, xr_44, xr_45, xr_48, xr_5, xr_55, xr_56, xr_57, xr_58, xr_61, xr_62, xr_77, xr_91, xr_92, xr_93, xr_94, xr_95, xr_96, xr_97, af_0, af_1, xt_goto, xt_ib, xt_ic, xt_ic_ge, xt_ic_gt, xt_ic_lt, xt_if_eq, xt_if_ne, xt_ir, xt_nop, gF_19_6, gF_1_13, gF_1_2, gF_1_6, gF_28_0, gF_28_1, gF_28_3, gF_28_4, gF_28_5, gF_28_7, gF_28_8, gA_2, gA_3, gA_4, gA_5, gA_6, gA_7, gA_8, gA_9, gA_10, gA_11, gA_13, gA_14, gA_16, gA_17, gA_20, gA_21, gA_22, gA_23, gA_24, gA_25, gA_26, gA_27, gA_30, gA_31, gA_32, gA_33, gA_34, gA_35, gA_36, gA_38, gA_39, gA_41, gA_42, gA_46, gA_47, gA_49, gA_50, gA_51, gA_53, gA_56, gA_57, gA_59, gA_60, gW_2, gW_3, gW_4, gW_5, gW_6, gW_7, gW_8, gW_9, gW_10, gW_11, gW_13, gW_14, gW_16, gW_17, gW_20, gW_21, gW_22, gW_23, gW_24, gW_25, gW_26, gW_27, gW_30, gW_31, gW_32, gW_33, gW_34, gW_35, gW_36, gW_38, gW_39, gW_41, gW_42, gW_46, gW_47, gW_49, gW_50, gW_51, gW_53, gW_56, gW_57, gW_59, gW_60, xq_80_7_virtualc, xq_81_7_virtualc, xq_83_7_virtualc, xq_84_7_virtualc, xq_86_7_virtualc, xq_87_7_virtualc, iN_add, iN_mul, iN_sub, iN_and, iN_or, iN_clr, iN_shl, iN_shr, tb_r1, b1_z, b1_or, b1_and, b1_or0, b1_or1, b1_0or, b1_t, b1_f, iN_lt, iN_inj, reduceIte, if_true, if_false, Nat.zero_add, Nat.add_zero, Bool.false_eq_true, Bool.true_eq_false, Nat.lt_irrefl, iN_az, not_true_eq_false, not_false_eq_true, Nat.reduceEqDiff, Nat.reduceLT, Nat.reduceAdd, Nat.reduceMul, Nat.reduceSub]
    · have := lowT s r hq hE
      omega
  · obtain ⟨g, bs, es, q1, q2, q3⟩ := s_84 (xs := xs) (R := R) O (dp := depth) (by omega) depth 0 (M 28 8 - low) (e + 9) M (by omega) (by omega) (by omega) (by omega) (fun j hj => (hO.2.2.1 j hj).1) hO.2.2.2.1 (fun j hj => PS_so O hW hP (hO.2.2.1 j hj).1 (hO.2.2.1 j hj).2) (fun j hj => absurd hj (Nat.not_lt_zero j)) hW
    cases bs
    · refine ⟨ur M 35 g, false, ?_, ⟨Fr_u (Fr_r _ _) rfl, fun _ _ => rfl, fun _ _ => rfl, fun _ _ _ => rfl, fun _ _ => rfl, hdb, rfl, rfl⟩, .inl ⟨rfl, rfl, rfl, rfl, rfl, fun s r hq hE => ?_⟩⟩
      · simp (disch := first | assumption | omega | exact st8_a (Nat.le_of_ble_eq_true rfl)) only [el, hll, es, eb_80_0, eb_80_1, eb_80_2, eb_80_3, eb_80_4, eb_80_5, eb_80_6, eb_80_7, eb_80_8, eb_80_9, eb_80_11, eb_80_12, eb_80_13, eb_80_14, eb_80_15, eb_80_16, eb_80_17, eb_80_18, eb_80_19, eb_80_20, eb_80_21, kl_a, kl_d, kl_f, kl_i, kl_l, kl_n, kl_r, xr_1, xr_10, xr_2, xr_27, xr_28, xr_3, xr_31, xr_32, xr_33, xr_34, xr_35, xr_36, xr_37, xr_38, xr_4, xr_41, xr_44, xr_45, xr_48, xr_5, xr_55, xr_56, xr_57, xr_58, xr_61, xr_62, xr_77, xr_91, xr_92, xr_93, xr_94, xr_95, xr_96, xr_97, af_0, af_1, xt_goto, xt_ib, xt_ic, xt_ic_ge, xt_ic_gt, xt_ic_lt, xt_if_eq, xt_if_ne, xt_ir, xt_nop, gF_19_6, gF_1_13, gF_1_2, gF_1_6, gF_28_0, gF_28_1, gF_28_3, gF_28_4, gF_28_5, gF_28_7, gF_28_8, gA_2, gA_3, gA_4, gA_5, gA_6, gA_7, gA_8, gA_9, gA_10, gA_11, gA_13, gA_14, gA_16, gA_17, gA_20, gA_21, gA_22, gA_23, gA_24, gA_25, gA_26, gA_27, gA_30, gA_31, gA_32, gA_33, gA_34, gA_35, gA_36, gA_38, gA_39, gA_41, gA_42, gA_46, gA_47, gA_49, gA_50, gA_51, gA_53, gA_56, gA_57, gA_59, gA_60, gW_2, gW_3, gW_4, gW_5, gW_6, gW_7, gW_8, gW_9, gW_10, gW_11, gW_13, gW_14, gW_16, gW_17, gW_20, gW_21, gW_22, gW_23, gW_24, gW_25, gW_26, gW_27, gW_30, gW_31, gW_32, gW_33, gW_34, gW_35, gW_36, gW_38, gW_39, gW_41, gW_42, gW_46, gW_47, gW_49, gW_50, gW_51, gW_53, gW_56, gW_57, gW_59, gW_60, xq_80_7_virtualc, xq_81_7_virtualc, xq_83_7_virtualc, xq_84_7_virtualc, xq_86_7_virtualc, xq_87_7_virtualc, iN_add, iN_mul, iN_sub, iN_and, iN_or, iN_clr, iN_shl, iN_shr, tb_r1, b1_z, b1_or, b1_and, b1_or0, b1_or1, b1_0or, b1_t, b1_f, iN_lt, iN_inj, reduceIte, if_true, if_false, Nat.zero_add, Nat.add_zero, Bool.false_eq_true, Bool.true_eq_false, Nat.lt_irrefl, iN_az, not_true_eq_false, not_false_eq_true, Nat.reduceEqDiff, Nat.reduceLT, Nat.reduceAdd, Nat.reduceMul, Nat.reduceSub]
      · have h1 := lowT s r hq hE
        by_cases h2 : QC σ M s r ≤ M 28 8
        · exact absurd (QA_SO O hW hO hq hE (sp := M 28 8 - low) (by omega)) (q3 rfl r)
        · omega
    · by_cases hd : depth < (σ 1 6)
      · obtain ⟨v, v1, v2, ev1⟩ := s_83 (xs := xs) (d := e + 8) (M := ur M 35 g) (R := R) O (depth := depth) (p := p) (by omega) hp64 (OS_some hO hd) hdb
        obtain ⟨k1, k2, k3⟩ := Ok_l O v1
        have hd5 : depth * 6 + v < 42 := by omega
        have husb := PS_us O hW hP k2
        have hdv := hdb (depth * 6 + v)
        -- the end of the row
        have stop : ∀ (N : Nat → Nat → Nat) (b0 : Bool) y, (Fr FS M N ∧ (∀ k, k < depth → N 33 k = M 33 k) ∧ (∀ l, l < (σ 1 6) → p.testBit l = true → N 34 l = M 34 l) ∧ (∀ j, j < (depth + 1) * 6 → N 32 j = M 32 j) ∧ (∀ j, N 32 j < 64) ∧ (∀ t, t < (σ 1 4) → t ≠ σ 6 v → N 36 t = M 36 t) ∧ N 28 9 = M 28 9 ∧ N 28 11 = M 28 11) → XO σ M (fun s => ∀ l, l < (σ 1 6) → p.testBit l = true → s l = M 34 l) N b0 → ∃ M', ∃ b : Bool, ev xs (e + 10) 80 21 ([.ref 28, .int (nI depth), .int (nI p), .int (nI low), .int (nI v), .int (nI (p ||| 1 <<< v)), .int (nI (M 32 (depth * 6 + v))), .int (nI (σ 6 v)), .int (nI (M 36 (σ 6 v))), .int (nI (b1 b0)), y], [], hc σ N R) = some (.inl (some (.int (nI (b1 b)))), hc σ M' R) ∧ XP σ M M' depth p ∧ XO σ M (fun s => ∀ l, l < (σ 1 6) → p.testBit l = true → s l = M 34 l) M' b := by
          rintro N b y ⟨f1, f2, f3, f4, f5, f6, f7, f8⟩ hX
          refine ⟨up N 36 (σ 6 v) (M 36 (σ 6 v)), b, ?_, ⟨Fr_p f1 rfl, fun t ht => ?_, fun k hk => ?_, fun l hl h => ?_, fun j hj => ?_, fun j => ?_, ?_, ?_⟩, XO_u hX⟩
          · rw [eb_80_21]
            simp (disch := first | assumption | omega | exact st8_a (Nat.le_of_ble_eq_true rfl)) only [eb_80_21, kl_a, kl_d, kl_f, kl_i, kl_l, kl_n, kl_r, xr_1, xr_10, xr_2, xr_27, xr_28, xr_3, xr_31, xr_32, xr_33, xr_34, xr_35, xr_36, xr_37, xr_38, xr_4, xr_41, xr_44, xr_45, xr_48, xr_5, xr_55, xr_56, xr_57, xr_58, xr_61, xr_62, xr_77, xr_91, xr_92, xr_93, xr_94, xr_95, xr_96, xr_97, af_0, af_1, xt_goto, xt_ib, xt_ic, xt_ic_ge, xt_ic_gt, xt_ic_lt, xt_if_eq, xt_if_ne, xt_ir, xt_nop, gF_19_6, gF_1_13, gF_1_2, gF_1_6, gF_28_0, gF_28_1, gF_28_3, gF_28_4, gF_28_5, gF_28_7, gF_28_8, gA_2, gA_3, gA_4, gA_5, gA_6, gA_7, gA_8, gA_9, gA_10, gA_11, gA_13, gA_14, gA_16, gA_17, gA_20, gA_21, gA_22, gA_23, gA_24, gA_25, gA_26, gA_27, gA_30, gA_31, gA_32, gA_33, gA_34, gA_35, gA_36, gA_38, gA_39, gA_41, gA_42, gA_46, gA_47, gA_49, gA_50, gA_51, gA_53, gA_56, gA_57, gA_59, gA_60, gW_2, gW_3, gW_4, gW_5, gW_6, gW_7, gW_8, gW_9, gW_10, gW_11, gW_13, gW_14, gW_16, gW_17, gW_20, gW_21, gW_22, gW_23, gW_24, gW_25, gW_26, gW_27, gW_30, gW_31, gW_32, gW_33, gW_34, gW_35, gW_36, gW_38, gW_39, gW_41, gW_42, gW_46, gW_47, gW_49, gW_50, gW_51, gW_53, gW_56, gW_57, gW_59, gW_60, xq_80_7_virtualc, xq_81_7_virtualc, xq_83_7_virtualc, xq_84_7_virtualc, xq_86_7_virtualc, xq_87_7_virtualc, iN_add, iN_mul, iN_sub, iN_and, iN_or, iN_clr, iN_shl, iN_shr, tb_r1, b1_z, b1_or, b1_and, b1_or0, b1_or1, b1_0or, b1_t, b1_f, iN_lt, iN_inj, reduceIte, if_true, if_false, Nat.zero_add, Nat.add_zero, Bool.false_eq_true, Bool.true_eq_false, Nat.lt_irrefl, iN_az, not_true_eq_false, not_false_eq_true, Nat.reduceEqDiff, Nat.reduceLT, Nat.reduceAdd, Nat.reduceMul, Nat.reduceSub]
          · rw [up_s]
            by_cases h : t = σ 6 v
            · rw [h, u1_s]
            · rw [u1_n h]
              exact f6 t ht h
          · rw [up_n (by decide)]; exact f2 k hk
          · rw [up_n (by decide)]; exact f3 l hl h
          · rw [up_n (by decide)]; exact f4 j hj
          · rw [up_n (by decide)]; exact f5 j
          · rw [up_n (by decide)]; exact f7
          · rw [up_n (by decide)]; exact f8
        have loop : ∀ j, j ≤ (σ 1 2) → ∀ N, (Fr FS M N ∧ (∀ k, k < depth → N 33 k = M 33 k) ∧ (∀ l, l < (σ 1 6) → p.testBit l = true → N 34 l = M 34 l) ∧ (∀ j, j < (depth + 1) * 6 → N 32 j = M 32 j) ∧ (∀ j, N 32 j < 64) ∧ (∀ t, t < (σ 1 4) → t ≠ σ 6 v → N 36 t = M 36 t) ∧ N 28 9 = M 28 9 ∧ N 28 11 = M 28 11) → N 33 depth = v → XO σ M (fun s => (∀ l, l < (σ 1 6) → p.testBit l = true → s l = M 34 l) ∧ s v < j) N false → ∃ M', ∃ b : Bool, ev xs (e + 10) 80 10 ([.ref 28, .int (nI depth), .int (nI p), .int (nI low), .int (nI v), .int (nI (p ||| 1 <<< v)), .int (nI (M 32 (depth * 6 + v))), .int (nI (σ 6 v)), .int (nI (M 36 (σ 6 v))), .int (nI 0), .int (nI j)], [], hc σ N R) = some (.inl (some (.int (nI (b1 b)))), hc σ M' R) ∧ XP σ M M' depth p ∧ XO σ M (fun s => ∀ l, l < (σ 1 6) → p.testBit l = true → s l = M 34 l) M' b := by
          refine lp (σ 1 2) ?_ ?_
          · intro N hI hv33 hX
            obtain ⟨M', b, e1, q⟩ := stop N false (.int (nI (σ 1 2))) hI (XO_c hX fun s r hq hA => ⟨hA, (hW.1 v v1 _ (hq.1 v v1).1).1⟩)
            refine ⟨M', b, ?_, q⟩
            rw [eb_80_10]
            simp (disch := first | assumption | omega | exact st8_a (Nat.le_of_ble_eq_true rfl)) only [eb_80_0, eb_80_1, eb_80_2, eb_80_3, eb_80_4, eb_80_5, eb_80_6, eb_80_7, eb_80_8, eb_80_9, eb_80_11, eb_80_12, eb_80_13, eb_80_14, eb_80_15, eb_80_16, eb_80_17, eb_80_18, eb_80_19, eb_80_20, kl_a, kl_d, kl_f, kl_i, kl_l, kl_n, kl_r, xr_1, xr_10, xr_2, xr_27, xr_28, xr_3, xr_31, xr_32, xr_33, xr_34, xr_35, xr_36, xr_37, xr_38, xr_4, xr_41, xr_44, xr_45, xr_48, xr_5, xr_55, xr_56, xr_57, xr_58, xr_61, xr_62, xr_77, xr_91, xr_92, xr_93, xr_94, xr_95, xr_96, xr_97, af_0, af_1, xt_goto, xt_ib, xt_ic, xt_ic_ge, xt_ic_gt, xt_ic_lt, xt_if_eq, xt_if_ne, xt_ir, xt_nop, gF_19_6, gF_1_13, gF_1_2, gF_1_6, gF_28_0, gF_28_1, gF_28_3, gF_28_4, gF_28_5, gF_28_7, gF_28_8, gA_2, gA_3, gA_4, gA_5, gA_6, gA_7, gA_8, gA_9, gA_10, gA_11, gA_13, gA_14, gA_16, gA_17, gA_20, gA_21, gA_22, gA_23, gA_24, gA_25, gA_26, gA_27, gA_30, gA_31, gA_32, gA_33, gA_34, gA_35, gA_36, gA_38, gA_39, gA_41, gA_42, gA_46, gA_47, gA_49, gA_50, gA_51, gA_53, gA_56, gA_57, gA_59, gA_60, gW_2, gW_3, gW_4, gW_5, gW_6, gW_7, gW_8, gW_9, gW_10, gW_11, gW_13, gW_14, gW_16, gW_17, gW_20, gW_21, gW_22, gW_23, gW_24, gW_25, gW_26, gW_27, gW_30, gW_31, gW_32, gW_33, gW_34, gW_35, gW_36, gW_38, gW_39, gW_41, gW_42, gW_46, gW_47, gW_49, gW_50, gW_51, gW_53, gW_56, gW_57, gW_59, gW_60, xq_80_7_virtualc, xq_81_7_virtualc, xq_83_7_virtualc, xq_84_7_virtualc, xq_86_7_virtualc, xq_87_7_virtualc, iN_add, iN_mul, iN_sub, iN_and, iN_or, iN_clr, iN_shl, iN_shr, tb_r1, b1_z, b1_or, b1_and, b1_or0, b1_or1, b1_0or, b1_t, b1_f, iN_lt, iN_inj, reduceIte, if_true, if_false, Nat.zero_add, Nat.add_zero, Bool.false_eq_true, Bool.true_eq_false, Nat.lt_irrefl, iN_az, not_true_eq_false, not_false_eq_true, Nat.reduceEqDiff, Nat.reduceLT, Nat.reduceAdd, Nat.reduceMul, Nat.reduceSub]
            exact e1
          · intro j hj ih2 N hI hv33 hX
            obtain ⟨f1, f2, f3, f4, f5, f6, f7, f8⟩ := hI
            rw [eb_80_10]
            cases hbit : (M 32 (depth * 6 + v)).testBit j
            · obtain ⟨M', b, e1, q⟩ := ih2 N ⟨f1, f2, f3, f4, f5, f6, f7, f8⟩ hv33 (XO_c hX fun s r hq hA => ⟨hA.1, by
                have h1 := (EX_A O hP hq hA.1).2 v v1 v2
                have h2 : s v ≠ j := fun z => by rw [z, hbit] at h1; cases h1
                have := hA.2
                omega⟩)
              refine ⟨M', b, ?_, q⟩
              simp (disch := first | assumption | omega | exact st8_a (Nat.le_of_ble_eq_true rfl)) only [hj, hbit, eb_80_0, eb_80_1, eb_80_2, eb_80_3, eb_80_4, eb_80_5, eb_80_6, eb_80_7, eb_80_8, eb_80_9, eb_80_11, eb_80_12, eb_80_13, eb_80_14, eb_80_15, eb_80_16, eb_80_17, eb_80_18, eb_80_19, eb_80_20, eb_80_21, kl_a, kl_d, kl_f, kl_i, kl_l, kl_n, kl_r, xr_1, xr_10, xr_2, xr_27, xr_28, xr_3, xr_31, xr_32, xr_33, xr_34, xr_35, xr_36, xr_37, xr_38, xr_4, xr_41, xr_44, xr_45, xr_48, xr_5, xr_55, xr_56, xr_57, xr_58, xr_61, xr_62, xr_77, xr_91, xr_92, xr_93, xr_94, xr_95, xr_96, xr_97, af_0, af_1, xt_goto, xt_ib, xt_ic, xt_ic_ge, xt_ic_gt, xt_ic_lt, xt_if_eq, xt_if_ne, xt_ir, xt_nop, gF_19_6, gF_1_13, gF_1_2, gF_1_6, gF_28_0, gF_28_1, gF_28_3, gF_28_4, gF_28_5, gF_28_7, gF_28_8, gA_2, gA_3, gA_4, gA_5, gA_6, gA_7, gA_8, gA_9, gA_10, gA_11, gA_13, gA_14, gA_16, gA_17, gA_20, gA_21, gA_22, gA_23, gA_24, gA_25, gA_26, gA_27, gA_30, gA_31, gA_32, gA_33, gA_34, gA_35, gA_36, gA_38, gA_39, gA_41, gA_42, gA_46, gA_47, gA_49, gA_50, gA_51, gA_53, gA_56, gA_57, gA_59, gA_60, gW_2, gW_3, gW_4, gW_5, gW_6, gW_7, gW_8, gW_9, gW_10, gW_11, gW_13, gW_14, gW_16, gW_17, gW_20, gW_21, gW_22, gW_23, gW_24, gW_25, gW_26, gW_27, gW_30, gW_31, gW_32, gW_33, gW_34, gW_35, gW_36, gW_38, gW_39, gW_41, gW_42, gW_46, gW_47, gW_49, gW_50, gW_51, gW_53, gW_56, gW_57, gW_59, gW_60, xq_80_7_virtualc, xq_81_7_virtualc, xq_83_7_virtualc, xq_84_7_virtualc, xq_86_7_virtualc, xq_87_7_virtualc, iN_add, iN_mul, iN_sub, iN_and, iN_or, iN_clr, iN_shl, iN_shr, tb_r1, b1_z, b1_or, b1_and, b1_or0, b1_or1, b1_0or, b1_t, b1_f, iN_lt, iN_inj, reduceIte, if_true, if_false, Nat.zero_add, Nat.add_zero, Bool.false_eq_true, Bool.true_eq_false, Nat.lt_irrefl, iN_az, not_true_eq_false, not_false_eq_true, Nat.reduceEqDiff, Nat.reduceLT, Nat.reduceAdd, Nat.reduceMul, Nat.reduceSub]
              exact e1
            · have hp2 : (p ||| 1 <<< v) < 64 := or_lt (n := 6) hp64 (s1_lt (by omega))
              have cvj := cov_lt O (l := v) hj
              have e25 : up N 34 v j 25 (v * 6 + j) = cov σ v j := by
                rw [up_n (by decide), f1 25 rfl]
                exact hW.2.2.2.2.1 v v1 j hj
              have hvj : v * 6 + j < 36 := by omega
              have g1 : Fr FS M (up (up N 34 v j) 36 (σ 6 v) (M 36 (σ 6 v) ||| cov σ v j)) := Fr_p (Fr_p f1 rfl) rfl
              have hor : (M 36 (σ 6 v) ||| cov σ v j) < 64 := or_lt (n := 6) husb cvj
              have us1 : ∀ t, t < (σ 1 4) → up (up N 34 v j) 36 (σ 6 v) (M 36 (σ 6 v) ||| cov σ v j) 36 t < 64 := fun t ht => by
                rw [up_s]
                by_cases h : t = σ 6 v
                · rw [h, u1_s]; exact hor
                · rw [u1_n h, up_n (by decide), f6 t ht h]; exact PS_us O hW hP ht
              have hOS : ∀ N', (∀ k, k < depth → N' 33 k = M 33 k) → N' 33 depth = v → OS σ N' (depth + 1) (p ||| 1 <<< v) := fun N' h1 h2 => OS_s O hO v1 v2 h1 h2
              have hO1 := hOS N f2 hv33
              obtain ⟨g2, b2, en, n1, n2, n3, n4⟩ := s_81 (xs := xs) (d := e + 7) (M := up (up N 34 v j) 36 (σ 6 v) (M 36 (σ 6 v) ||| cov σ v j)) (R := R) (depth := depth) (p := p ||| 1 <<< v) (l := v) (s := j) O (by rw [QW_fr g1]; exact hW) (by omega) (fun ⟨o, ho, h⟩ => by have := OS_lt hO1 ho h; omega) hp2 v1 (p_bit.mpr (.inr rfl)) hj f5 us1
              have hs81 : ∀ o, o < (σ 1 6) → (up (up N 34 v j) 36 (σ 6 v) (M 36 (σ 6 v) ||| cov σ v j)) 32 (depth * 6 + o) = M 32 (depth * 6 + o) := fun o ho => f4 _ (by omega)
              have h23 : (up (up N 34 v j) 36 (σ 6 v) (M 36 (σ 6 v) ||| cov σ v j)) 23 = M 23 := g1 23 rfl
              have g2f : Fr FS M (ur (up (up N 34 v j) 36 (σ 6 v) (M 36 (σ 6 v) ||| cov σ v j)) 32 g2) := Fr_u g1 rfl
              have n1' : ∀ j, j < (depth + 1) * 6 → g2 j = M 32 j := fun j hj => (n1 j hj).trans (f4 j hj)
              have s34 : ∀ l, l < (σ 1 6) → p.testBit l = true → ur (up (up N 34 v j) 36 (σ 6 v) (M 36 (σ 6 v) ||| cov σ v j)) 32 g2 34 l = M 34 l := fun l hl h => by
                have hlv : l ≠ v := fun z => by rw [z, v2] at h; cases h
                show u1 (N 34) v j l = M 34 l
                rw [u1_n hlv]
                exact f3 l hl h
              have s34v : ur (up (up N 34 v j) 36 (σ 6 v) (M 36 (σ 6 v) ||| cov σ v j)) 32 g2 34 v = j := u1_s _ _ _
              have s36 : ∀ t, t < (σ 1 4) → t ≠ σ 6 v → ur (up (up N 34 v j) 36 (σ 6 v) (M 36 (σ 6 v) ||| cov σ v j)) 32 g2 36 t = M 36 t := fun t ht h => (u1_n h).trans (f6 t ht h)
              have s36v : ur (up (up N 34 v j) 36 (σ 6 v) (M 36 (σ 6 v) ||| cov σ v j)) 32 g2 36 (σ 6 v) = M 36 (σ 6 v) ||| cov σ v j := u1_s _ _ _
              cases b2
              · obtain ⟨o, ho, hpo, hno⟩ := n4 rfl
                obtain ⟨M', b, e1, q⟩ := ih2 (ur (up (up N 34 v j) 36 (σ 6 v) (M 36 (σ 6 v) ||| cov σ v j)) 32 g2) ⟨g2f, f2, s34, n1', n2, s36, f7, f8⟩ hv33 (XO_c (A1 := fun s => (∀ l, l < (σ 1 6) → p.testBit l = true → s l = M 34 l) ∧ s v < j) hX fun s r hq hA => ⟨hA.1, by
                  have h2 : s v ≠ j := fun z => by
                    obtain ⟨hpo1, hov⟩ := p_bit0.mp hpo
                    refine hno (s o) ⟨?_, ?_, fun hst => ?_⟩
                    · rw [hs81 o ho]
                      exact (EX_A O hP hq hA.1).2 o ho hpo1
                    · rw [h23, ← z]
                      exact (hq.2.1 v o v1 ho (fun w => hov w.symm)).1
                    · rintro ⟨-, w2, w3⟩
                      have hst : σ 6 v = σ 6 o := by unfold stc at hst; exact of_decide_eq_true hst
                      have hdy : dy σ (s o) < (σ 1 0) := by unfold dy; split <;> omega
                      have e22 : (up (up N 34 v j) 36 (σ 6 v) (M 36 (σ 6 v) ||| cov σ v j)) 22 = M 22 := g1 22 rfl
                      have e36 : (up (up N 34 v j) 36 (σ 6 v) (M 36 (σ 6 v) ||| cov σ v j)) 36 (σ 6 o) = M 36 (σ 6 v) ||| cov σ v j := by rw [← hst]; exact s36v
                      rw [e22, e36] at w3
                      have h5 : pc 10 ((M 36 (σ 6 v) ||| cov σ v j ||| cov σ o (s o)) &&& dm σ (dy σ (s o))) ≤ M 22 (σ 6 o) := by
                        refine Nat.le_trans (pc_sub fun b hb => ?_) (hq.2.2 _ (Ok_l O ho).2.1 _ hdy)
                        rw [Nat.testBit_and, Nat.testBit_or, Nat.testBit_or, Bool.and_eq_true, Bool.or_eq_true, Bool.or_eq_true] at hb
                        rw [Nat.testBit_and, Bool.and_eq_true]
                        refine ⟨?_, hb.2⟩
                        rcases hb.1 with (hb | hb) | hb
                        · obtain ⟨k, hk, x1, x2⟩ := us_sub2 hP hA.1 k2 hb
                          exact ctc_tb.mpr ⟨k, hk, x1.trans hst, x2⟩
                        · exact ctc_tb.mpr ⟨v, v1, hst, by rw [z]; exact hb⟩
                        · exact ctc_tb.mpr ⟨o, ho, rfl, hb⟩
                      omega
                  have := hA.2
                  omega⟩)
                refine ⟨M', b, ?_, q⟩
                simp (disch := first | assumption | omega | exact st8_a (Nat.le_of_ble_eq_true rfl)) only [hj, hbit, e25, en, eb_80_0, eb_80_1, eb_80_2, eb_80_3, eb_80_4, eb_80_5, eb_80_6, eb_80_7, eb_80_8, eb_80_9, eb_80_11, eb_80_12, eb_80_13, eb_80_14, eb_80_15, eb_80_16, eb_80_17, eb_80_18, eb_80_19, eb_80_20, eb_80_21, kl_a, kl_d, kl_f, kl_i, kl_l, kl_n, kl_r, xr_1, xr_10, xr_2, xr_27, xr_28, xr_3, xr_31, xr_32, xr_33, xr_34, xr_35, xr_36, xr_37, xr_38, xr_4, xr_41, xr_44, xr_45, xr_48, xr_5, xr_55, xr_56, xr_57, xr_58, xr_61, xr_62, xr_77, xr_91, xr_92, xr_93, xr_94, xr_95, xr_96, xr_97, af_0, af_1, xt_goto, xt_ib, xt_ic, xt_ic_ge, xt_ic_gt, xt_ic_lt, xt_if_eq, xt_if_ne, xt_ir, xt_nop, gF_19_6, gF_1_13, gF_1_2, gF_1_6, gF_28_0, gF_28_1, gF_28_3, gF_28_4, gF_28_5, gF_28_7, gF_28_8, gA_2, gA_3, gA_4, gA_5, gA_6, gA_7, gA_8, gA_9, gA_10, gA_11, gA_13, gA_14, gA_16, gA_17, gA_20, gA_21, gA_22, gA_23, gA_24, gA_25, gA_26, gA_27, gA_30, gA_31, gA_32, gA_33, gA_34, gA_35, gA_36, gA_38, gA_39, gA_41, gA_42, gA_46, gA_47, gA_49, gA_50, gA_51, gA_53, gA_56, gA_57, gA_59, gA_60, gW_2, gW_3, gW_4, gW_5, gW_6, gW_7, gW_8, gW_9, gW_10, gW_11, gW_13, gW_14, gW_16, gW_17, gW_20, gW_21, gW_22, gW_23, gW_24, gW_25, gW_26, gW_27, gW_30, gW_31, gW_32, gW_33, gW_34, gW_35, gW_36, gW_38, gW_39, gW_41, gW_42, gW_46, gW_47, gW_49, gW_50, gW_51, gW_53, gW_56, gW_57, gW_59, gW_60, xq_80_7_virtualc, xq_81_7_virtualc, xq_83_7_virtualc, xq_84_7_virtualc, xq_86_7_virtualc, xq_87_7_virtualc, iN_add, iN_mul, iN_sub, iN_and, iN_or, iN_clr, iN_shl, iN_shr, tb_r1, b1_z, b1_or, b1_and, b1_or0, b1_or1, b1_0or, b1_t, b1_f, iN_lt, iN_inj, reduceIte, if_true, if_false, Nat.zero_add, Nat.add_zero, Bool.false_eq_true, Bool.true_eq_false, Nat.lt_irrefl, iN_az, not_true_eq_false, not_false_eq_true, Nat.reduceEqDiff, Nat.reduceLT, Nat.reduceAdd, Nat.reduceMul, Nat.reduceSub]
                exact e1
              · have hP2 := PS_s (N2 := ur (up (up N 34 v j) 36 (σ 6 v) (M 36 (σ 6 v) ||| cov σ v j)) 32 g2) O hW hP v1 v2 hbit g2f s34 s34v s36 s36v (fun o ho hpo i => by
                  have h1 := n3 rfl o ho hpo i
                  rw [hs81 o ho, h23] at h1
                  exact h1)
                have hN8 : N 28 8 ≤ M 28 8 := by
                  rcases hX with ⟨-, x1, -⟩ | ⟨c, x1, -, -, -, -, -, x7, x8⟩
                  · rw [x1]
                    exact Nat.le_refl _
                  · have hw1 : M 28 11 = 1 := by
                      have : M 28 11 ≠ 0 := fun z => by cases x7 z
                      omega
                    rcases x8 hw1 with ⟨z, -⟩ | ⟨-, -, z, -⟩
                    · cases z
                    · omega
                obtain ⟨M2, bc, ec, ⟨c1, c2, c3, c4, c5, c6, c7, c8⟩, hXc⟩ := ih hd (p ||| 1 <<< v) (ur (up (up N 34 v j) 36 (σ 6 v) (M 36 (σ 6 v) ||| cov σ v j)) 32 g2) (by rw [QW_fr g2f]; exact hW) hP2 (hOS _ f2 hv33) n2 (fun l hl => by rw [g2f 21 rfl]; exact hr0 l hl) (Nat.le_trans hN8 hlim) (by show N 28 9 ≤ _; rw [f7]; exact hfl) (by show N 28 11 ≤ _; rw [f8]; exact hwl)
                have hXj := XO_j (N := N) (N2 := ur (up (up N 34 v j) 36 (σ 6 v) (M 36 (σ 6 v) ||| cov σ v j)) 32 g2) g2f rfl rfl rfl rfl f7 f8 hwl hX hXc
                have inv2 : Fr FS M M2 ∧ (∀ k, k < depth → M2 33 k = M 33 k) ∧ (∀ l, l < (σ 1 6) → p.testBit l = true → M2 34 l = M 34 l) ∧ (∀ j, j < (depth + 1) * 6 → M2 32 j = M 32 j) ∧ (∀ j, M2 32 j < 64) ∧ (∀ t, t < (σ 1 4) → t ≠ σ 6 v → M2 36 t = M 36 t) ∧ M2 28 9 = M 28 9 ∧ M2 28 11 = M 28 11 := ⟨Fr_t g2f c1, fun k hk => (c3 k (by omega)).trans (f2 k hk), fun l hl h => (c4 l hl (p_bit.mpr (.inl h))).trans (s34 l hl h), fun j hj => (c5 j (by omega)).trans (n1' j hj), c6, fun t ht h => (c2 t ht).trans (s36 t ht h), c7.trans f7, c8.trans f8⟩
                have c33 : M2 33 depth = v := (c3 depth (by omega)).trans hv33
                cases bc
                · obtain ⟨M', b, e1, q⟩ := ih2 M2 inv2 c33 (XO_c hXj fun s r hq hA => by
                    by_cases h : s v < j
                    · exact .inl ⟨hA.1, h⟩
                    · have hsv : s v = j := by have := hA.2; omega
                      refine .inr fun l hl hpl => ?_
                      rcases p_bit.mp hpl with hpl | hpl
                      · rw [s34 l hl hpl]
                        exact hA.1 l hl hpl
                      · rw [hpl, s34v]
                        exact hsv)
                  refine ⟨M', b, ?_, q⟩
                  simp (disch := first | assumption | omega | exact st8_a (Nat.le_of_ble_eq_true rfl)) only [hj, hbit, e25, en, ec, eb_80_0, eb_80_1, eb_80_2, eb_80_3, eb_80_4, eb_80_5, eb_80_6, eb_80_7, eb_80_8, eb_80_9, eb_80_11, eb_80_12, eb_80_13, eb_80_14, eb_80_15, eb_80_16, eb_80_17, eb_80_18, eb_80_19, eb_80_20, eb_80_21, kl_a, kl_d, kl_f, kl_i, kl_l, kl_n, kl_r, xr_1, xr_10, xr_2, xr_27, xr_28, xr_3, xr_31, xr_32, xr_33, xr_34, xr_35, xr_36, xr_37, xr_38, xr_4, xr_41, xr_44, xr_45, xr_48, xr_5, xr_55, xr_56, xr_57, xr_58, xr_61, xr_62, xr_77, xr_91, xr_92, xr_93, xr_94, xr_95, xr_96, xr_97, af_0, af_1, xt_goto, xt_ib, xt_ic, xt_ic_ge, xt_ic_gt, xt_ic_lt, xt_if_eq, xt_if_ne, xt_ir, xt_nop, gF_19_6, gF_1_13, gF_1_2, gF_1_6, gF_28_0, gF_28_1, gF_28_3, gF_28_4, gF_28_5, gF_28_7, gF_28_8, gA_2, gA_3, gA_4, gA_5, gA_6, gA_7, gA_8, gA_9, gA_10, gA_11, gA_13, gA_14, gA_16, gA_17, gA_20, gA_21, gA_22, gA_23, gA_24, gA_25, gA_26, gA_27, gA_30, gA_31, gA_32, gA_33, gA_34, gA_35, gA_36, gA_38, gA_39, gA_41, gA_42, gA_46, gA_47, gA_49, gA_50, gA_51, gA_53, gA_56, gA_57, gA_59, gA_60, gW_2, gW_3, gW_4, gW_5, gW_6, gW_7, gW_8, gW_9, gW_10, gW_11, gW_13, gW_14, gW_16, gW_17, gW_20, gW_21, gW_22, gW_23, gW_24, gW_25, gW_26, gW_27, gW_30, gW_31, gW_32, gW_33, gW_34, gW_35, gW_36, gW_38, gW_39, gW_41, gW_42, gW_46, gW_47, gW_49, gW_50, gW_51, gW_53, gW_56, gW_57, gW_59, gW_60, xq_80_7_virtualc, xq_81_7_virtualc, xq_83_7_virtualc, xq_84_7_virtualc, xq_86_7_virtualc, xq_87_7_virtualc, iN_add, iN_mul, iN_sub, iN_and, iN_or, iN_clr, iN_shl, iN_shr, tb_r1, b1_z, b1_or, b1_and, b1_or0, b1_or1, b1_0or, b1_t, b1_f, iN_lt, iN_inj, reduceIte, if_true, if_false, Nat.zero_add, Nat.add_zero, Bool.false_eq_true, Bool.true_eq_false, Nat.lt_irrefl, iN_az, not_true_eq_false, not_false_eq_true, Nat.reduceEqDiff, Nat.reduceLT, Nat.reduceAdd, Nat.reduceMul, Nat.reduceSub]
                  exact e1
                · have hXt : XO σ M (fun s => ∀ l, l < (σ 1 6) → p.testBit l = true → s l = M 34 l) M2 true := by
                    rcases hXj with ⟨z, -⟩ | ⟨c, x1, x2, x3, x4, x5, x6, x7, x8⟩
                    · cases z
                    · refine .inr ⟨c, x1, x2, x3, x4, x5, x6, x7, fun hw => ?_⟩
                      rcases x8 hw with h | ⟨z, -⟩
                      · exact .inl h
                      · cases z
                  obtain ⟨M', b, e1, q⟩ := stop M2 true (.int (nI (j + 1))) inv2 hXt
                  refine ⟨M', b, ?_, q⟩
                  simp (disch := first | assumption | omega | exact st8_a (Nat.le_of_ble_eq_true rfl)) only [hj, hbit, e25, en, ec, eb_80_0, eb_80_1, eb_80_2, eb_80_3, eb_80_4, eb_80_5, eb_80_6, eb_80_7, eb_80_8, eb_80_9, eb_80_11, eb_80_12, eb_80_13, eb_80_14, eb_80_15, eb_80_16, eb_80_17, eb_80_18, eb_80_19, eb_80_20, kl_a, kl_d, kl_f, kl_i, kl_l, kl_n, kl_r, xr_1, xr_10, xr_2, xr_27, xr_28, xr_3, xr_31, xr_32, xr_33, xr_34, xr_35, xr_36, xr_37, xr_38, xr_4, xr_41, xr_44, xr_45, xr_48, xr_5, xr_55, xr_56, xr_57, xr_58, xr_61, xr_62, xr_77, xr_91, xr_92, xr_93, xr_94, xr_95, xr_96, xr_97, af_0, af_1, xt_goto, xt_ib, xt_ic, xt_ic_ge, xt_ic_gt, xt_ic_lt, xt_if_eq, xt_if_ne, xt_ir, xt_nop, gF_19_6, gF_1_13, gF_1_2, gF_1_6, gF_28_0, gF_28_1, gF_28_3, gF_28_4, gF_28_5, gF_28_7, gF_28_8, gA_2, gA_3, gA_4, gA_5, gA_6, gA_7, gA_8, gA_9, gA_10, gA_11, gA_13, gA_14, gA_16, gA_17, gA_20, gA_21, gA_22, gA_23, gA_24, gA_25, gA_26, gA_27, gA_30, gA_31, gA_32, gA_33, gA_34, gA_35, gA_36, gA_38, gA_39, gA_41, gA_42, gA_46, gA_47, gA_49, gA_50, gA_51, gA_53, gA_56, gA_57, gA_59, gA_60, gW_2, gW_3, gW_4, gW_5, gW_6, gW_7, gW_8, gW_9, gW_10, gW_11, gW_13, gW_14, gW_16, gW_17, gW_20, gW_21, gW_22, gW_23, gW_24, gW_25, gW_26, gW_27, gW_30, gW_31, gW_32, gW_33, gW_34, gW_35, gW_36, gW_38, gW_39, gW_41, gW_42, gW_46, gW_47, gW_49, gW_50, gW_51, gW_53, gW_56, gW_57, gW_59, gW_60, xq_80_7_virtualc, xq_81_7_virtualc, xq_83_7_virtualc, xq_84_7_virtualc, xq_86_7_virtualc, xq_87_7_virtualc, iN_add, iN_mul, iN_sub, iN_and, iN_or, iN_clr, iN_shl, iN_shr, tb_r1, b1_z, b1_or, b1_and, b1_or0, b1_or1, b1_0or, b1_t, b1_f, iN_lt, iN_inj, reduceIte, if_true, if_false, Nat.zero_add, Nat.add_zero, Bool.false_eq_true, Bool.true_eq_false, Nat.lt_irrefl, iN_az, not_true_eq_false, not_false_eq_true, Nat.reduceEqDiff, Nat.reduceLT, Nat.reduceAdd, Nat.reduceMul, Nat.reduceSub]
                  rw [eb_80_10]
                  by_cases hjS : j + 1 < (σ 1 2)
                  · simp (disch := first | assumption | omega | exact st8_a (Nat.le_of_ble_eq_true rfl)) only [hjS, eb_80_11, kl_a, kl_d, kl_f, kl_i, kl_l, kl_n, kl_r, xr_1, xr_10, xr_2, xr_27, xr_28, xr_3, xr_31, xr_32, xr_33, xr_34, xr_35, xr_36, xr_37, xr_38, xr_4, xr_41, xr_44, xr_45, xr_48, xr_5, xr_55, xr_56, xr_57, xr_58, xr_61, xr_62, xr_77, xr_91, xr_92, xr_93, xr_94, xr_95, xr_96, xr_97, af_0, af_1, xt_goto, xt_ib, xt_ic, xt_ic_ge, xt_ic_gt, xt_ic_lt, xt_if_eq, xt_if_ne, xt_ir, xt_nop, gF_19_6, gF_1_13, gF_1_2, gF_1_6, gF_28_0, gF_28_1, gF_28_3, gF_28_4, gF_28_5, gF_28_7, gF_28_8, gA_2, gA_3, gA_4, gA_5, gA_6, gA_7, gA_8, gA_9, gA_10, gA_11, gA_13, gA_14, gA_16, gA_17, gA_20, gA_21, gA_22, gA_23, gA_24, gA_25, gA_26, gA_27, gA_30, gA_31, gA_32, gA_33, gA_34, gA_35, gA_36, gA_38, gA_39, gA_41, gA_42, gA_46, gA_47, gA_49, gA_50, gA_51, gA_53, gA_56, gA_57, gA_59, gA_60, gW_2, gW_3, gW_4, gW_5, gW_6, gW_7, gW_8, gW_9, gW_10, gW_11, gW_13, gW_14, gW_16, gW_17, gW_20, gW_21, gW_22, gW_23, gW_24, gW_25, gW_26, gW_27, gW_30, gW_31, gW_32, gW_33, gW_34, gW_35, gW_36, gW_38, gW_39, gW_41, gW_42, gW_46, gW_47, gW_49, gW_50, gW_51, gW_53, gW_56, gW_57, gW_59, gW_60, xq_80_7_virtualc, xq_81_7_virtualc, xq_83_7_virtualc, xq_84_7_virtualc, xq_86_7_virtualc, xq_87_7_virtualc, iN_add, iN_mul, iN_sub, iN_and, iN_or, iN_clr, iN_shl, iN_shr, tb_r1, b1_z, b1_or, b1_and, b1_or0, b1_or1, b1_0or, b1_t, b1_f, iN_lt, iN_inj, reduceIte, if_true, if_false, Nat.zero_add, Nat.add_zero, Bool.false_eq_true, Bool.true_eq_false, Nat.lt_irrefl, iN_az, not_true_eq_false, not_false_eq_true, Nat.reduceEqDiff, Nat.reduceLT, Nat.reduceAdd, Nat.reduceMul, Nat.reduceSub]
                    exact e1
                  · simp (disch := first | assumption | omega | exact st8_a (Nat.le_of_ble_eq_true rfl)) only [hjS, eb_80_11, kl_a, kl_d, kl_f, kl_i, kl_l, kl_n, kl_r, xr_1, xr_10, xr_2, xr_27, xr_28, xr_3, xr_31, xr_32, xr_33, xr_34, xr_35, xr_36, xr_37, xr_38, xr_4, xr_41, xr_44, xr_45, xr_48, xr_5, xr_55, xr_56, xr_57, xr_58, xr_61, xr_62, xr_77, xr_91, xr_92, xr_93, xr_94, xr_95, xr_96, xr_97, af_0, af_1, xt_goto, xt_ib, xt_ic, xt_ic_ge, xt_ic_gt, xt_ic_lt, xt_if_eq, xt_if_ne, xt_ir, xt_nop, gF_19_6, gF_1_13, gF_1_2, gF_1_6, gF_28_0, gF_28_1, gF_28_3, gF_28_4, gF_28_5, gF_28_7, gF_28_8, gA_2, gA_3, gA_4, gA_5, gA_6, gA_7, gA_8, gA_9, gA_10, gA_11, gA_13, gA_14, gA_16, gA_17, gA_20, gA_21, gA_22, gA_23, gA_24, gA_25, gA_26, gA_27, gA_30, gA_31, gA_32, gA_33, gA_34, gA_35, gA_36, gA_38, gA_39, gA_41, gA_42, gA_46, gA_47, gA_49, gA_50, gA_51, gA_53, gA_56, gA_57, gA_59, gA_60, gW_2, gW_3, gW_4, gW_5, gW_6, gW_7, gW_8, gW_9, gW_10, gW_11, gW_13, gW_14, gW_16, gW_17, gW_20, gW_21, gW_22, gW_23, gW_24, gW_25, gW_26, gW_27, gW_30, gW_31, gW_32, gW_33, gW_34, gW_35, gW_36, gW_38, gW_39, gW_41, gW_42, gW_46, gW_47, gW_49, gW_50, gW_51, gW_53, gW_56, gW_57, gW_59, gW_60, xq_80_7_virtualc, xq_81_7_virtualc, xq_83_7_virtualc, xq_84_7_virtualc, xq_86_7_virtualc, xq_87_7_virtualc, iN_add, iN_mul, iN_sub, iN_and, iN_or, iN_clr, iN_shl, iN_shr, tb_r1, b1_z, b1_or, b1_and, b1_or0, b1_or1, b1_0or, b1_t, b1_f, iN_lt, iN_inj, reduceIte, if_true, if_false, Nat.zero_add, Nat.add_zero, Bool.false_eq_true, Bool.true_eq_false, Nat.lt_irrefl, iN_az, not_true_eq_false, not_false_eq_true, Nat.reduceEqDiff, Nat.reduceLT, Nat.reduceAdd, Nat.reduceMul, Nat.reduceSub]
                    exact e1
        obtain ⟨M', b, e1, q⟩ := loop 0 (Nat.zero_le _) (up (ur M 35 g) 33 depth v) ⟨Fr_p (Fr_u (Fr_r _ _) rfl) rfl, fun k hk => by
          show u1 (M 33) depth v k = M 33 k
          exact u1_n (by omega), fun _ _ _ => rfl, fun _ _ => rfl, hdb, fun _ _ _ => rfl, rfl, rfl⟩ (u1_s _ _ _) (.inl ⟨rfl, rfl, rfl, rfl, rfl, fun s r hq hA => absurd hA.2 (Nat.not_lt_zero _)⟩)
        refine ⟨M', b, ?_, q⟩
        have e32 : ur M 35 g 32 (depth * 6 + v) = M 32 (depth * 6 + v) := rfl
        have e36 : ur M 35 g 36 (σ 6 v) = M 36 (σ 6 v) := rfl
        simp (disch := first | assumption | omega | exact st8_a (Nat.le_of_ble_eq_true rfl)) only [el, hll, es, hd, ev1, e32, e36, eb_80_0, eb_80_1, eb_80_2, eb_80_3, eb_80_4, eb_80_5, eb_80_6, eb_80_7, eb_80_8, eb_80_9, eb_80_11, eb_80_12, eb_80_13, eb_80_14, eb_80_15, eb_80_16, eb_80_17, eb_80_18, eb_80_19, eb_80_20, eb_80_21, kl_a, kl_d, kl_f, kl_i, kl_l, kl_n, kl_r, xr_1, xr_10, xr_2, xr_27, xr_28, xr_3, xr_31, xr_32, xr_33, xr_34, xr_35, xr_36, xr_37, xr_38, xr_4, xr_41, xr_44, xr_45, xr_48, xr_5, xr_55, xr_56, xr_57, xr_58, xr_61, xr_62, xr_77, xr_91, xr_92, xr_93, xr_94, xr_95, xr_96, xr_97, af_0, af_1, xt_goto, xt_ib, xt_ic, xt_ic_ge, xt_ic_gt, xt_ic_lt, xt_if_eq, xt_if_ne, xt_ir, xt_nop, gF_19_6, gF_1_13, gF_1_2, gF_1_6, gF_28_0, gF_28_1, gF_28_3, gF_28_4, gF_28_5, gF_28_7, gF_28_8, gA_2, gA_3, gA_4, gA_5, gA_6, gA_7, gA_8, gA_9, gA_10, gA_11, gA_13, gA_14, gA_16, gA_17, gA_20, gA_21, gA_22, gA_23, gA_24, gA_25, gA_26, gA_27, gA_30, gA_31, gA_32, gA_33, gA_34, gA_35, gA_36, gA_38, gA_39, gA_41, gA_42, gA_46, gA_47, gA_49, gA_50, gA_51, gA_53, gA_56, gA_57, gA_59, gA_60, gW_2, gW_3, gW_4, gW_5, gW_6, gW_7, gW_8, gW_9, gW_10, gW_11, gW_13, gW_14, gW_16, gW_17, gW_20, gW_21, gW_22, gW_23, gW_24, gW_25, gW_26, gW_27, gW_30, gW_31, gW_32, gW_33, gW_34, gW_35, gW_36, gW_38, gW_39, gW_41, gW_42, gW_46, gW_47, gW_49, gW_50, gW_51, gW_53, gW_56, gW_57, gW_59, gW_60, xq_80_7_virtualc, xq_81_7_virtualc, xq_83_7_virtualc, xq_84_7_virtualc, xq_86_7_virtualc, xq_87_7_virtualc, iN_add, iN_mul, iN_sub, iN_and, iN_or, iN_clr, iN_shl, iN_shr, tb_r1, b1_z, b1_or, b1_and, b1_or0, b1_or1, b1_0or, b1_t, b1_f, iN_lt, iN_inj, reduceIte, if_true, if_false, Nat.zero_add, Nat.add_zero, Bool.false_eq_true, Bool.true_eq_false, Nat.lt_irrefl, iN_az, not_true_eq_false, not_false_eq_true, Nat.reduceEqDiff, Nat.reduceLT, Nat.reduceAdd, Nat.reduceMul, Nat.reduceSub]
        exact e1
      · have hdep : depth = (σ 1 6) := by omega
        subst hdep
        have hall := OS_all hO
        have hlow := l3 hall
        obtain ⟨c, b, M', er, r1, r2, r3, r4, r5, r6, r7, r8, r9, r10, r11, r12, r13⟩ := s_86 (xs := xs) (M := ur M 35 g) (R := R) (low := low) (d := e + 9) O (by omega) (fun j hj => (hO.2.2.1 j hj).1) hO.2.2.2.1 (fun j hj => PS_so O hW hP (hO.2.2.1 j hj).1 (hO.2.2.1 j hj).2) hW hlim (by show low ≤ M 28 8; omega) hfl hwl ⟨g, SO_0.mpr (q2 rfl)⟩
        have r10' : SO σ M 0 (σ 1 6) (c - low) (M' 31) := SO_0.mp r10
        have hQA : QA σ M (M 34) (M' 31) := full_QA hW hP hO r10'
        have hsum := full_mo (M := M) hO (M' 31)
        have hm1 : c - low ≤ sm (σ 1 6) fun l => M 26 (vi l (M 34 l) (M' 31 l)) - M 27 (l * 6 + M 34 l) := by
          rw [← hsum]
          exact r11 _ _ (SO_0.mpr (SO_le r10' (Nat.le_refl _)))
        have hm2 : (sm (σ 1 6) fun l => M 26 (vi l (M 34 l) (M' 31 l)) - M 27 (l * 6 + M 34 l)) ≤ c - low := by
          rw [← hsum]
          exact r10'.2.2.2
        have hQC := QA_mo hW hQA
        have hr7 : M' 30 = M 34 := r7
        have hfr : Fr FS M M' := Fr_t (Fr_u (Fr_r _ _) rfl) (Fr_w r1 fun a ha => by simp at ha ⊢; omega)
        have r4' : c ≤ M 28 8 := r3
        refine ⟨M', b, ?_, ⟨hfr, fun t _ => by rw [r1 36 rfl]; rfl, fun k _ => by rw [r1 33 rfl]; rfl, fun l _ _ => by rw [r1 34 rfl]; rfl, fun j _ => by rw [r1 32 rfl]; rfl, fun j => by rw [r1 32 rfl]; exact hdb j, r5, r6⟩, .inr ⟨c, r4', r4, by rw [hr7]; exact hQA, by rw [hr7]; omega, r8, r9, r12, fun hw => ?_⟩⟩
        · simp (disch := first | assumption | omega | exact st8_a (Nat.le_of_ble_eq_true rfl)) only [el, hll, es, er, eb_80_0, eb_80_1, eb_80_2, eb_80_3, eb_80_4, eb_80_5, eb_80_6, eb_80_7, eb_80_8, eb_80_9, eb_80_11, eb_80_12, eb_80_13, eb_80_14, eb_80_15, eb_80_16, eb_80_17, eb_80_18, eb_80_19, eb_80_20, eb_80_21, kl_a, kl_d, kl_f, kl_i, kl_l, kl_n, kl_r, xr_1, xr_10, xr_2, xr_27, xr_28, xr_3, xr_31, xr_32, xr_33, xr_34, xr_35, xr_36, xr_37, xr_38, xr_4, xr_41, xr_44, xr_45, xr_48, xr_5, xr_55, xr_56, xr_57, xr_58, xr_61, xr_62, xr_77, xr_91, xr_92, xr_93, xr_94, xr_95, xr_96, xr_97, af_0, af_1, xt_goto, xt_ib, xt_ic, xt_ic_ge, xt_ic_gt, xt_ic_lt, xt_if_eq, xt_if_ne, xt_ir, xt_nop, gF_19_6, gF_1_13, gF_1_2, gF_1_6, gF_28_0, gF_28_1, gF_28_3, gF_28_4, gF_28_5, gF_28_7, gF_28_8, gA_2, gA_3, gA_4, gA_5, gA_6, gA_7, gA_8, gA_9, gA_10, gA_11, gA_13, gA_14, gA_16, gA_17, gA_20, gA_21, gA_22, gA_23, gA_24, gA_25, gA_26, gA_27, gA_30, gA_31, gA_32, gA_33, gA_34, gA_35, gA_36, gA_38, gA_39, gA_41, gA_42, gA_46, gA_47, gA_49, gA_50, gA_51, gA_53, gA_56, gA_57, gA_59, gA_60, gW_2, gW_3, gW_4, gW_5, gW_6, gW_7, gW_8, gW_9, gW_10, gW_11, gW_13, gW_14, gW_16, gW_17, gW_20, gW_21, gW_22, gW_23, gW_24, gW_25, gW_26, gW_27, gW_30, gW_31, gW_32, gW_33, gW_34, gW_35, gW_36, gW_38, gW_39, gW_41, gW_42, gW_46, gW_47, gW_49, gW_50, gW_51, gW_53, gW_56, gW_57, gW_59, gW_60, xq_80_7_virtualc, xq_81_7_virtualc, xq_83_7_virtualc, xq_84_7_virtualc, xq_86_7_virtualc, xq_87_7_virtualc, iN_add, iN_mul, iN_sub, iN_and, iN_or, iN_clr, iN_shl, iN_shr, tb_r1, b1_z, b1_or, b1_and, b1_or0, b1_or1, b1_0or, b1_t, b1_f, iN_lt, iN_inj, reduceIte, if_true, if_false, Nat.zero_add, Nat.add_zero, Bool.false_eq_true, Bool.true_eq_false, Nat.lt_irrefl, iN_az, not_true_eq_false, not_false_eq_true, Nat.reduceEqDiff, Nat.reduceLT, Nat.reduceAdd, Nat.reduceMul, Nat.reduceSub]
        · rcases r13 hw with h | ⟨z1, z2, z3⟩
          · exact .inl h
          · refine .inr ⟨z1, z2, z3, fun s r hq hE => ?_⟩
            have h1 := lowT s r hq hE
            have h2 := r11 _ _ (SO_0.mpr (QA_SO O hW hO hq hE (Nat.le_refl _)))
            omega
set_option maxRecDepth 100000 in
theorem s_80 (O : Ok σ) : ∀ n depth p e (M : Nat → Nat → Nat), (σ 1 6) - depth = n → n ≤ e → QW σ M → PS σ M depth p → OS σ M depth p → (∀ j, M 32 j < 64) → (∀ l, l < (σ 1 6) → M 21 l ≠ 0) → M 28 8 ≤ 100000 → M 28 9 ≤ 700000 → M 28 11 ≤ 1 → ∃ M', ∃ b : Bool, ev xs (e + 10) 80 0 ([.ref 28, .int (nI depth), .int (nI p), .retAddr 9, .retAddr 9, .retAddr 9, .retAddr 9, .retAddr 9, .retAddr 9, .retAddr 9, .retAddr 9], [], hc σ M R) = some (.inl (some (.int (nI (b1 b)))), hc σ M' R) ∧ XP σ M M' depth p ∧ XO σ M (fun s => ∀ l, l < (σ 1 6) → p.testBit l = true → s l = M 34 l) M' b := by
  intro n
  induction n with
  | zero =>
    intro depth p e M hn he hW hP hO hdb hr0 hlim hfl hwl
    exact s_80x O hW hP hO hdb hr0 hlim hfl hwl fun hd => by omega
  | succ n ih =>
    intro depth p e M hn he hW hP hO hdb hr0 hlim hfl hwl
    refine s_80x O hW hP hO hdb hr0 hlim hfl hwl fun hd p2 N hW hP hO hdb hr0 hlim hfl hwl => ?_
    obtain ⟨e', rfl⟩ : ∃ e', e = e' + 1 := ⟨e - 1, by omega⟩
    exact ih (depth + 1) p2 e' N (by omega) (by omega) hW hP hO hdb hr0 hlim hfl hwl
end Sh
