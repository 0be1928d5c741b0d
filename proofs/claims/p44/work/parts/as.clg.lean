/-! THE CLASS ITSELF: count, sums, errors -/
def cnt (σ : Nat → Nat → Nat) (u : Nat) : Nat := if u = 0 then (σ 1 3) else if u = 1 then (σ 1 4) else if u = 2 then (σ 1 5) else if u = 3 then (σ 1 6) else if u = 4 then (σ 1 7) else (σ 1 2)
/-- n steps from k on, over a long -/
def lfo (F : Nat → Int64 → Int64) : Nat → Nat → Int64 → Int64
  | 0, _, c => c
  | n + 1, k, c => lfo F n (k + 1) (F k c)
def ckr (σ : Nat → Nat → Nat) (q : Nat) (c : Int64) : Int64 := lN 31 * (lN 31 * (lN 31 * c + (nI (σ 8 q)).toInt64) + (nI (σ 9 q)).toInt64) + (nI (σ 10 q)).toInt64
def ckl (f : Nat → Nat) (l : Nat) (c : Int64) : Int64 := lN 31 * c + (nI (f l)).toInt64
def cks (σ : Nat → Nat → Nat) (f : Nat → Nat) : Int64 := lfo (ckl f) (σ 1 6) 0 (lfo (ckr σ) (σ 1 7) 0 (Int64.ofNat 0))
set_option maxRecDepth 100000 in
theorem fp_d : ∀ a, a < 13 → ∀ b, b < 7 → (b = 0 ∨ (FP.ddiv (FP.i2d (nI a)) (FP.i2d (nI b)) &&& 0x7fffffffffffffff ≤ 0x7ff0000000000000 ∧ FP.dcmp (FP.ddiv (FP.i2d (nI a)) (FP.i2d (nI b))) (FP.ddiv (FP.i2d (nI a)) (FP.i2d (nI b))) = some .eq)) := by decide +kernel
set_option maxRecDepth 100000 in
theorem fp_f : ∀ a, a < 19 → ∀ b, b < 19 → (b = 0 ∨ (FP.fdiv (FP.i2f (nI a)) (FP.i2f (nI b)) &&& 0x7fffffff ≤ 0x7f800000 ∧ FP.f2d (FP.fdiv (FP.i2f (nI a)) (FP.i2f (nI b))) &&& 0x7fffffffffffffff ≤ 0x7ff0000000000000 ∧ FP.dcmp (FP.f2d (FP.fdiv (FP.i2f (nI a)) (FP.i2f (nI b)))) (FP.f2d (FP.fdiv (FP.i2f (nI a)) (FP.i2f (nI b)))) = some .eq)) := by decide +kernel
section Clg
variable {xs : List Int32} {σ M N K M' : Nat → Nat → Nat} {R : ab_H} {d e k a b c u i n m l x y v set g t kd : Nat} {s r s0 r0 f : Nat → Nat} {p : Nat → Prop}
set_option maxRecDepth 100000 in
theorem xt_tn {m2 : Nat} {hs : List (Nat × Nat)} {n2 : Nat} {cc : Nat × Nat × Nat} {L st : List Value} {h : ab_H} {df hi : Int} {of : _} {tg : List Nat} (h1 : 2147483648 ≤ x) (h2 : x < 4294967296) : rt xs d m2 hs (.tableswitch df 0 hi of, n2, cc, tg) [] (L, .int (nI x) :: st, h) = ev xs d m2 (tg.getD (tg.length - 1) 0) (L, st, h) := by
  show (if (nI x).toInt < (0 : Int) ∨ (0 : Int) + (tg.length - 1 : Nat) ≤ (nI x).toInt then ev xs d m2 (tg.getD (tg.length - 1) 0) (L, st, h) else ev xs d m2 (tg.getD ((nI x).toInt - 0).toNat 0) (L, st, h)) = _
  have e1 : (nI x).toInt = (x : Int).bmod 4294967296 := Int32.toInt_ofNat'
  rw [if_pos]
  left
  rw [e1, Int.bmod_def]
  omega
def mnh (σ : Nat → Nat → Nat) (s : Nat → Nat) : UInt64 := if (σ 1 6) = 0 then FP.dconst0 else FP.ddiv (FP.i2d (nI (sm (σ 1 6) fun l => hou σ (s l)))) (FP.i2d (nI (σ 1 6)))
def ush (σ : Nat → Nat → Nat) (s r : Nat → Nat) : UInt32 := if (σ 1 5) = 0 then FP.fconst0 else FP.fdiv (FP.i2f (nI (sm (σ 1 5) fun y => pc 10 (crm σ s r y)))) (FP.i2f (nI ((σ 1 5) * (σ 1 2))))
set_option maxRecDepth 100000 in
theorem hsum_12 (O : Ok σ) (hs : ∀ l, l < (σ 1 6) → s l < (σ 1 2)) : (sm (σ 1 6) fun l => hou σ (s l)) < 13 := by
  obtain ⟨hD1, hD2, hH1, hH2, hS, hC, hT, hR, hL, hQ⟩ := Ok_b O
  have := sm_le (n := (σ 1 6)) (c := 2) (f := fun l => hou σ (s l)) fun l hl => by
    have := hou_lt O (hs l hl)
    show hou σ (s l) ≤ 2
    omega
  omega
set_option maxRecDepth 100000 in
theorem crm_lt (O : Ok σ) (hs : ∀ l, l < (σ 1 6) → s l < (σ 1 2)) : crm σ s r y < 64 := by
  refine orn_lt (e := 6) fun i hi => ?_
  split
  · exact cov_lt O (hs i hi)
  · decide
set_option maxRecDepth 100000 in
theorem usum (O : Ok σ) (hs : ∀ l, l < (σ 1 6) → s l < (σ 1 2)) (k : Nat) (hk : k ≤ (σ 1 5)) : (sm k fun y => pc 10 (crm σ s r y)) ≤ 6 * k := by
  have := sm_le (n := k) (c := 6) (f := fun y => pc 10 (crm σ s r y)) fun y _ => by
    show pc 10 (crm σ s r y) ≤ 6
    rw [pc_ge (n := 6) (m := 10) (crm_lt O hs) (by decide)]
    exact pc_le 6 _
  omega
set_option maxRecDepth 100000 in
theorem ST_no {t y : Nat} : ∀ k u v, ST σ t y k u v → ¬ KB σ t y u → ¬ KB σ t y v := by
  intro k
  induction k with
  | zero =>
    intro u v h hu
    rw [show v = u from h]
    exact hu
  | succ k ih =>
    intro u v h hu
    by_cases h1 : KB σ t y (clr u (1 <<< k))
    · exact ih _ _ (h.1 h1) hu
    · exact ih _ _ (h.2 h1) h1
set_option maxRecDepth 100000 in
theorem dif_0 (h : AG n s r s0 r0) : dif n s r s0 r0 = 0 := sm_z.mpr fun l hl => by
  rw [decide_eq_false (fun z => z (h l hl).1), decide_eq_false (fun z => z (h l hl).2)]
  rfl
set_option maxRecDepth 100000 in
theorem s_162 (O : Ok σ) (hC' : CIv σ M) : ∃ M', ev xs (d + 22) 162 0 ([.ref 0, .retAddr 9, .retAddr 9], [], hc σ M R) = some (.inl (some (.int (nI (0)))), hc σ M' R) ∧ PB M M' ∧ CIv σ M' := by
  obtain ⟨hD1, hD2, hH1, hH2, hS, hC, hT, hR, hL, hQ⟩ := Ok_b O
  obtain ⟨v1, v2, v3, v4⟩ := hC'
  obtain ⟨N, b, e1, f1, f2, f3, f4⟩ := s_1 (xs := xs) (d := d + 8) (R := R) O v1 v3
  have cN : CIv σ N := by
    unfold CIv RV at *
    rw [f1 1 rfl, f1 40 rfl, f1 41 rfl, f1 53 rfl]
    exact ⟨f2, ⟨f2.1, v2.2⟩, f3, v4⟩
  cases b
  · refine ⟨N, ?_, Fr_PB f1 rfl, cN⟩
    clear f1 f2 f3 f4 v1 v2 v3 v4 cN
    simp (disch := first | assumption | omega | exact st8_a (Nat.le_of_ble_eq_true rfl)) only [e1, eb_162_0, eb_162_1, eb_162_2, kl_a, kl_d, kl_f, kl_i, kl_l, kl_n, kl_r, xr_1, xr_10, xr_128, xr_2, xr_27, xr_28, xr_29, xr_3, xr_30, xr_31, xr_4, xr_5, xr_64, xr_73, af_0, af_1, xt_goto, xt_ib, xt_ic, xt_ic_eq, xt_ic_ge, xt_if_eq, xt_if_le, xt_if_ne, xt_ir, xt_nop, gF_54_4, gF_54_5, gF_54_6, gF_54_7, gF_0_0, gF_0_11, gF_0_4, gF_0_5, gF_0_7, gF_28_2, xq_1_0_virtualc, xq_26_3_virtualc, xq_2_0_virtualc, xq_40_3_virtualc, xq_51_5_virtualc, xq_56_6_virtualc, xq_74_7_virtualc, xq_75_7_virtualc, iN_add, iN_mul, iN_sub, iN_and, iN_or, iN_clr, iN_shl, iN_shr, tb_r1, b1_z, b1_or, b1_and, b1_or0, b1_or1, b1_0or, b1_t, b1_f, iN_lt, iN_inj, reduceIte, if_true, if_false, Nat.zero_add, Nat.add_zero, Bool.false_eq_true, Bool.true_eq_false, Nat.lt_irrefl, iN_az, not_true_eq_false, not_false_eq_true, Nat.reduceEqDiff, Nat.reduceLT, Nat.reduceAdd, Nat.reduceMul, Nat.reduceSub]
  · obtain ⟨g1, g2, g3⟩ := f4 rfl
    obtain ⟨i1, i2, -, i4⟩ := g3
    rcases i4 with ⟨h5, h6⟩ | ⟨h5, h6, h7, -, h9, h10, s', r', h11, h12⟩
    · obtain ⟨K, v, e2, q1, q2, q3⟩ := s_51 (xs := xs) (e := d + 1) (R := R) (t := 4294967295) (y := 0) O f2.1 (.inl rfl)
      have hno : ¬ KB σ 4294967295 0 (alr σ) := fun ⟨s, r, hg, _⟩ => h6 s r hg trivial
      rcases q3 with ⟨z, -⟩ | ⟨-, q4, q5⟩
      · exact absurd z hno
      · have hnv := ST_no _ _ _ q5 hno
        have k54 : K 54 = N 54 := q1 54 rfl
        have vK : VI σ K := by
          unfold VI at f2 ⊢
          rw [q1 1 rfl, q1 37 rfl, q1 38 rfl]
          exact ⟨q2, f2.2⟩
        obtain ⟨M', b, e3, r1, r2, r3, r4⟩ := s_2 (xs := xs) (d := d + 8) (R := R) (u := v) (M := K) O vK (by rw [q1 38 rfl]; exact g1) (by rw [k54]; exact g2) (by rw [k54]; exact h5) (by rw [k54]; exact i1) fun s r hg => h6 s r hg trivial
        have hbf : b = false := by
          cases b
          · rfl
          · obtain ⟨s, r, hg⟩ := r4 rfl
            exact absurd ⟨s, r, hg, .inl rfl⟩ hnv
        subst hbf
        have hne : ¬ v = 4294967295 := by omega
        refine ⟨M', ?_, Fr_PB (Fr_t (Fr_w (B := CE ++ QS) f1 fun a ha => by simp at ha ⊢; omega) (Fr_t (Fr_w q1 fun a ha => by simp at ha ⊢; omega) (Fr_w r1 fun a ha => by simp at ha ⊢; omega))) rfl, ?_⟩
        · clear f1 f2 f4 v1 v2 v3 v4 cN g1 g2 h6 hno hnv q1 q2 q5 vK r1 r2 r4 f3 r3 i2
          simp (disch := first | assumption | omega | exact st8_a (Nat.le_of_ble_eq_true rfl)) only [e1, i1, h5, e2, hne, e3, eb_162_0, eb_162_1, eb_162_3, eb_162_5, eb_162_6, eb_162_22, eb_162_23, eb_162_24, eb_162_25, eb_162_27, kl_a, kl_d, kl_f, kl_i, kl_l, kl_n, kl_r, xr_1, xr_10, xr_128, xr_2, xr_27, xr_28, xr_29, xr_3, xr_30, xr_31, xr_4, xr_5, xr_64, xr_73, af_0, af_1, xt_goto, xt_ib, xt_ic, xt_ic_eq, xt_ic_ge, xt_if_eq, xt_if_le, xt_if_ne, xt_ir, xt_nop, gF_54_4, gF_54_5, gF_54_6, gF_54_7, gF_0_0, gF_0_11, gF_0_4, gF_0_5, gF_0_7, gF_28_2, xq_1_0_virtualc, xq_26_3_virtualc, xq_2_0_virtualc, xq_40_3_virtualc, xq_51_5_virtualc, xq_56_6_virtualc, xq_74_7_virtualc, xq_75_7_virtualc, iN_add, iN_mul, iN_sub, iN_and, iN_or, iN_clr, iN_shl, iN_shr, tb_r1, b1_z, b1_or, b1_and, b1_or0, b1_or1, b1_0or, b1_t, b1_f, iN_lt, iN_inj, reduceIte, if_true, if_false, Nat.zero_add, Nat.add_zero, Bool.false_eq_true, Bool.true_eq_false, Nat.lt_irrefl, iN_az, not_true_eq_false, not_false_eq_true, Nat.reduceEqDiff, Nat.reduceLT, Nat.reduceAdd, Nat.reduceMul, Nat.reduceSub]
        · unfold CIv RV at *
          rw [r1 1 rfl, r1 40 rfl, r1 41 rfl, r1 53 rfl, q1 1 rfl, q1 40 rfl, q1 41 rfl, q1 53 rfl, f1 1 rfl, f1 40 rfl, f1 41 rfl, f1 53 rfl]
          exact ⟨r2, ⟨r2.1, v2.2⟩, r3, v4⟩
    · have e9 := s_56 (xs := xs) (d := d + 21) (M := N) (R := R) O
      rw [ea_r] at e9
      obtain ⟨N1, e2, p1, p2, p3, p4, p5, p6, -⟩ := ask_ok (xs := xs) (e := d + 17) (R := R) O (alr_lt O) f2.1
      obtain ⟨K1, w1, e3, q1, q2, q3⟩ := s_75 (xs := xs) (e := d) (M := N1) (R := R) O p3 p2.2.2.2 fun s r _ => by rw [QC_0 p5 p6]; exact Nat.zero_le _
      rcases q3 with ⟨-, -, -, -, q3⟩ | ⟨z1, z2, z3, z4, z5, z6, z7⟩
      · exact absurd ((p4 _ _).mpr h9) (q3 _ _)
      · have kg := (p4 _ _).mp z2
        have n58 : ∀ b, (LSS.contains b = false ∧ QQ.contains b = false) → K1 b = N b := fun b hb => (q1 b hb.1).trans (p1 b hb.2)
        have k58 := n58 58 ⟨rfl, rfl⟩
        have k59 := n58 59 ⟨rfl, rfl⟩
        have k60 := n58 60 ⟨rfl, rfl⟩
        have k54 := n58 54 ⟨rfl, rfl⟩
        have hag : AG (σ 1 6) (K1 30) (K1 31) (N 59) (N 60) := LX_tri (h10 _ _ kg trivial) (z7 _ _ ((p4 _ _).mpr h9) (by rw [QC_0 p5 p6, ← z3, QC_0 p5 p6]))
        have t29 : TT 29 := by decide
        have t58 : TT 58 := by decide
        have e4 := s_101 (xs := xs) (d := d + 21) (σ := σ) (M := K1) (R := R) (n := (σ 1 6)) t29 t58 z5 hL fun l hl => by
          have b1' := kg.1 l hl
          have b2 := h9.1 l hl
          show K1 30 l < _ ∧ K1 31 l < _ ∧ K1 59 l < _ ∧ K1 60 l < _
          rw [k59, k60]
          omega
        rw [show (29 : Nat) + 1 = 30 from rfl, show (29 : Nat) + 2 = 31 from rfl, show (58 : Nat) + 1 = 59 from rfl, show (58 : Nat) + 2 = 60 from rfl, k59, k60, dif_0 hag] at e4
        have kK := KI_l q1 q2 p2
        have e9b := s_56 (xs := xs) (d := d + 21) (M := K1) (R := R) O
        rw [ea_r] at e9b
        obtain ⟨N2, e5, r1, r2, r3, r4, r5, r6, -⟩ := ask_ok (xs := xs) (e := d + 17) (R := R) O (alr_lt O) kK
        obtain ⟨P, ec, c1, c2, c3, c4⟩ := s_40 (xs := xs) (d := d + 19) (M := N2) (R := R) O (fun l hl => QW_21 O r3 hl) fun j => by rw [r6 j]; decide
        have qw := QW_cost r3 c1 c2 (.inl rfl) c3 c4
        have p10 : P 19 10 = 1 := by rw [c2, u1_s]
        have kp : KI σ P := ⟨by rw [c1 1 rfl]; exact r2.1, by rw [c2, u1_n (by decide), c1 1 rfl]; exact r2.2.1, fun z => by
          have := r2.2.2.1 (by rw [c2, u1_n (by decide), c1 1 rfl] at z; exact z)
          unfold GO at this ⊢
          rw [c2, u1_n (by decide), c1 24 rfl, c1 25 rfl]
          exact this, by rw [c1 32 rfl]; exact r2.2.2.2⟩
        obtain ⟨K2, v, e6, t1, t2, t3⟩ := s_74 (xs := xs) (e := d + 3) (M := P) (R := R) O qw kp.2.2.2 (Nat.le_refl 100000) true
        rw [b1_t] at e6
        have k2K := KI_q t1 t2 kp
        have fr : Fr TQS N K2 := Fr_t (Fr_w p1 fun a ha => by simp at ha ⊢; omega) (Fr_t (Fr_w q1 fun a ha => by simp at ha ⊢; omega) (Fr_t (Fr_w r1 fun a ha => by simp at ha ⊢; omega) (Fr_t (Fr_w c1 fun a ha => by simp at ha ⊢; omega) (Fr_w t1 fun a ha => by simp at ha ⊢; omega))))
        have fr2 : Fr QS N K2 := Fr_t (Fr_w p1 fun a ha => by simp at ha ⊢; omega) (Fr_t (Fr_w q1 fun a ha => by simp at ha ⊢; omega) (Fr_t (Fr_w r1 fun a ha => by simp at ha ⊢; omega) (Fr_t (Fr_w c1 fun a ha => by simp at ha ⊢; omega) (Fr_w t1 fun a ha => by simp at ha ⊢; omega))))
        refine ⟨K2, ?_, Fr_PB (Fr_t (Fr_w (B := CE ++ QS) f1 fun a ha => by simp at ha ⊢; omega) (Fr_w fr2 fun a ha => by simp at ha ⊢; omega)) rfl, CIv_f cN k2K fr⟩
        have hwt := wt_lt O (r := r') fun l hl => (h11.1 l hl).1
        have hw1 : ¬ w1 = 4294967295 := by omega
        have k2_54 : K2 54 7 = wt σ s' r' := by rw [fr2 54 rfl]; exact h12
        have hv : (v = 4294967295) ∨ (v ≤ 100000 ∧ ¬ wt σ s' r' < v) := by
          rcases t3 with ⟨y1, -⟩ | ⟨y1, y2, y3, -, -, y4⟩
          · exact .inl y1
          · refine .inr ⟨y1, ?_⟩
            have := y4 rfl s' r' ((QA_c2 (c1 20 rfl) (c1 21 rfl) (c1 22 rfl) (c1 23 rfl)).mpr ((r4 _ _).mpr h11))
            rw [QC_cost p10 (.inl rfl) c4 h11.1, if_pos rfl, ← wt_ml] at this
            omega
        clear f1 f2 f3 f4 v1 v2 v3 v4 cN g1 g2 h9 h10 h11 h12 p1 p2 p3 p4 p5 p6 q1 q2 z2 z3 z6 z7 kg n58 k58 k59 k60 k54 hag kK r1 r2 r3 r4 r5 r6 c1 c2 c3 c4 qw kp t1 t2 t3 k2K fr fr2 h6 h7
        rcases hv with hv | ⟨hv, hv2⟩
        · subst hv
          simp (disch := first | assumption | omega | exact st8_a (Nat.le_of_ble_eq_true rfl)) only [e1, i1, h5, e9, e2, e3, hw1, e4, e9b, e5, ec, e6, eb_162_0, eb_162_1, eb_162_3, eb_162_5, eb_162_6, eb_162_7, eb_162_8, eb_162_9, eb_162_10, eb_162_11, eb_162_12, eb_162_14, eb_162_15, eb_162_16, eb_162_17, eb_162_18, eb_162_21, eb_162_27, kl_a, kl_d, kl_f, kl_i, kl_l, kl_n, kl_r, xr_1, xr_10, xr_128, xr_2, xr_27, xr_28, xr_29, xr_3, xr_30, xr_31, xr_4, xr_5, xr_64, xr_73, af_0, af_1, xt_goto, xt_ib, xt_ic, xt_ic_eq, xt_ic_ge, xt_if_eq, xt_if_le, xt_if_ne, xt_ir, xt_nop, gF_54_4, gF_54_5, gF_54_6, gF_54_7, gF_0_0, gF_0_11, gF_0_4, gF_0_5, gF_0_7, gF_28_2, xq_101_9_virtualt t29, xq_101_9_virtualt t58, xq_1_0_virtualc, xq_26_3_virtualc, xq_2_0_virtualc, xq_40_3_virtualc, xq_51_5_virtualc, xq_56_6_virtualc, xq_74_7_virtualc, xq_75_7_virtualc, iN_add, iN_mul, iN_sub, iN_and, iN_or, iN_clr, iN_shl, iN_shr, tb_r1, b1_z, b1_or, b1_and, b1_or0, b1_or1, b1_0or, b1_t, b1_f, iN_lt, iN_inj, reduceIte, if_true, if_false, Nat.zero_add, Nat.add_zero, Bool.false_eq_true, Bool.true_eq_false, Nat.lt_irrefl, iN_az, not_true_eq_false, not_false_eq_true, Nat.reduceEqDiff, Nat.reduceLT, Nat.reduceAdd, Nat.reduceMul, Nat.reduceSub]
        · have hv3 : ¬ v = 4294967295 := by omega
          simp (disch := first | assumption | omega | exact st8_a (Nat.le_of_ble_eq_true rfl)) only [e1, i1, h5, e9, e2, e3, hw1, e4, e9b, e5, ec, e6, k2_54, hv3, hv2, eb_162_0, eb_162_1, eb_162_3, eb_162_5, eb_162_6, eb_162_7, eb_162_8, eb_162_9, eb_162_10, eb_162_11, eb_162_12, eb_162_14, eb_162_15, eb_162_16, eb_162_17, eb_162_18, eb_162_19, eb_162_21, eb_162_27, kl_a, kl_d, kl_f, kl_i, kl_l, kl_n, kl_r, xr_1, xr_10, xr_128, xr_2, xr_27, xr_28, xr_29, xr_3, xr_30, xr_31, xr_4, xr_5, xr_64, xr_73, af_0, af_1, xt_goto, xt_ib, xt_ic, xt_ic_eq, xt_ic_ge, xt_if_eq, xt_if_le, xt_if_ne, xt_ir, xt_nop, gF_54_4, gF_54_5, gF_54_6, gF_54_7, gF_0_0, gF_0_11, gF_0_4, gF_0_5, gF_0_7, gF_28_2, xq_101_9_virtualt t29, xq_101_9_virtualt t58, xq_1_0_virtualc, xq_26_3_virtualc, xq_2_0_virtualc, xq_40_3_virtualc, xq_51_5_virtualc, xq_56_6_virtualc, xq_74_7_virtualc, xq_75_7_virtualc, iN_add, iN_mul, iN_sub, iN_and, iN_or, iN_clr, iN_shl, iN_shr, tb_r1, b1_z, b1_or, b1_and, b1_or0, b1_or1, b1_0or, b1_t, b1_f, iN_lt, iN_inj, reduceIte, if_true, if_false, Nat.zero_add, Nat.add_zero, Bool.false_eq_true, Bool.true_eq_false, Nat.lt_irrefl, iN_az, not_true_eq_false, not_false_eq_true, Nat.reduceEqDiff, Nat.reduceLT, Nat.reduceAdd, Nat.reduceMul, Nat.reduceSub]
end Clg
