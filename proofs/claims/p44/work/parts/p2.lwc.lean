/-! THE LAW'S SCHOOL: all timetables that keep the ground rules, listed -/
set_option maxRecDepth 100000 in
theorem ar_cg {n : Nat} {f g : Nat → Nat} (h : ∀ j, j < n → f j = g j) : ar n f = ar n g := by
  unfold ar
  apply List.map_congr_left
  intro a ha
  show nI (f a) = nI (g a)
  rw [h a (List.mem_range.mp ha)]
/-- the rows of the first n tables -/
def RWS (σ : Nat → Nat → Nat) (n : Nat) (W : Nat → Nat → Nat) : ab_H := (List.range n).map fun k => oI (ar (σ 1 6) (W k))
def TSS (n : Nat) : List (Option Nat) := (List.range 2000).map fun k => if k < n then some (77 + k) else none
def wset (W : Nat → Nat → Nat) (n : Nat) (w : Nat → Nat) : Nat → Nat → Nat := fun k => if k = n then w else W k
set_option maxRecDepth 100000 in
theorem RWS_len (σ : Nat → Nat → Nat) (n : Nat) (W : Nat → Nat → Nat) : (RWS σ n W).length = n := by simp [RWS]
set_option maxRecDepth 100000 in
theorem RWS_get {σ W : Nat → Nat → Nat} {n k : Nat} (h : k < n) : (RWS σ n W)[k]? = some (oI (ar (σ 1 6) (W k))) := by simp [RWS, h]
set_option maxRecDepth 100000 in
theorem RWS_s (σ : Nat → Nat → Nat) (n : Nat) (W : Nat → Nat → Nat) (w : Nat → Nat) : RWS σ (n + 1) (wset W n w) = RWS σ n W ++ [oI (ar (σ 1 6) w)] := by
  unfold RWS
  rw [List.range_succ, List.map_append]
  congr 1
  · apply List.map_congr_left
    intro a ha
    have := List.mem_range.mp ha
    show oI (ar (σ 1 6) (if a = n then w else W a)) = _
    rw [if_neg (by omega)]
  · show [oI (ar (σ 1 6) (if n = n then w else W n))] = _
    rw [if_pos rfl]
set_option maxRecDepth 100000 in
theorem TSS_len (n : Nat) : (TSS n).length = 2000 := by simp [TSS]
set_option maxRecDepth 100000 in
theorem TSS_get {n k : Nat} (h : k < n) (h2 : k < 2000) : (TSS n)[k]? = some (some (77 + k)) := by simp [TSS, h, h2]
set_option maxRecDepth 100000 in
theorem TSS_0 : List.replicate 2000 none = TSS 0 := by
  apply List.ext_getElem?
  intro i
  unfold TSS
  rw [List.getElem?_replicate, List.getElem?_map]
  by_cases h : i < 2000
  · rw [if_pos h, List.getElem?_range h]
    rfl
  · rw [if_neg h, List.getElem?_eq_none (by simp; omega)]
    rfl
set_option maxRecDepth 100000 in
theorem TSS_set {n : Nat} (h : n < 2000) : (TSS n).set n (some (77 + n)) = TSS (n + 1) := by
  apply List.ext_getElem?
  intro i
  by_cases hi : i < 2000
  · by_cases e : i = n
    · subst e
      rw [List.getElem?_set_self (by rw [TSS_len]; exact hi), TSS_get (Nat.lt_succ_self _) hi]
    · rw [List.getElem?_set_ne (fun z => e z.symm)]
      unfold TSS
      rw [List.getElem?_map, List.getElem?_map, List.getElem?_range hi]
      show some (if i < n then _ else _) = some (if i < n + 1 then _ else _)
      by_cases h2 : i < n
      · rw [if_pos h2, if_pos (by omega)]
      · rw [if_neg h2, if_neg (by omega)]
  · rw [List.getElem?_eq_none (by rw [List.length_set, TSS_len]; omega), List.getElem?_eq_none (by rw [TSS_len]; omega)]
/-- n tables W, in ascending order, all that keep the ground rules and have P -/
def TL (σ : Nat → Nat → Nat) (P : (Nat → Nat) → (Nat → Nat) → Prop) (n : Nat) (W : Nat → Nat → Nat) : Prop :=
  (∀ k, k < n → Gd σ 0 (tsl (W k)) (trm (W k)) ∧ P (tsl (W k)) (trm (W k))) ∧ (∀ j k, j < k → k < n → LX (σ 1 6) (tsl (W j)) (trm (W j)) (tsl (W k)) (trm (W k))) ∧ ∀ t v, Gd σ 0 t v → P t v → ∃ k, k < n ∧ AG (σ 1 6) t v (tsl (W k)) (trm (W k))
def LI (σ : Nat → Nat → Nat) (P : (Nat → Nat) → (Nat → Nat) → Prop) (n : Nat) (W : Nat → Nat → Nat) (B : Nat → Nat) : Prop :=
  TL σ P n W ∧ n ≤ 2000 ∧ (∀ k, k < n → B k = brk σ (tsl (W k)) (trm (W k))) ∧ ∀ k, n ≤ k → B k = 0
def VB (l x y : Nat) (w t v : Nat → Nat) : Prop := LX l t v (tsl w) (trm w) ∨ (AG l t v (tsl w) (trm w) ∧ (t l < x ∨ (t l = x ∧ v l < y)))
def VZ (l : Nat) (w t v : Nat → Nat) : Prop := LX l t v (tsl w) (trm w) ∨ AG l t v (tsl w) (trm w)
set_option maxRecDepth 100000 in
theorem TL_c {σ W : Nat → Nat → Nat} {P P2 : (Nat → Nat) → (Nat → Nat) → Prop} {n : Nat} (h : TL σ P n W) (hP : ∀ t v, Gd σ 0 t v → (P t v ↔ P2 t v)) : TL σ P2 n W :=
  ⟨fun k hk => ⟨(h.1 k hk).1, (hP _ _ (h.1 k hk).1).mp (h.1 k hk).2⟩, h.2.1, fun t v hg hp => h.2.2 t v hg ((hP t v hg).mpr hp)⟩
set_option maxRecDepth 100000 in
theorem LI_c {σ W : Nat → Nat → Nat} {P P2 : (Nat → Nat) → (Nat → Nat) → Prop} {n : Nat} {B : Nat → Nat} (h : LI σ P n W B) (hP : ∀ t v, Gd σ 0 t v → (P t v ↔ P2 t v)) : LI σ P2 n W B := ⟨TL_c h.1 hP, h.2⟩
/-- the room that the law's own cells take -/
def RM4 (R : ab_H) : Prop := R.length ≤ 2200 ∧ ab_hsz R ≤ 30000
abbrev HS (σ M : Nat → Nat → Nat) (ρ : Int32) (n : Nat) (B w : Nat → Nat) (W : Nat → Nat → Nat) : ab_H := hc σ M (LR ρ σ n (TSS n) B (oI (ar (σ 1 6) w) :: RWS σ n W))
set_option maxRecDepth 100000 in
theorem hsz_c (o : ab_O) (h : ab_H) : ab_hsz (o :: h) = ab_osz o + ab_hsz h := by simp [ab_hsz]
set_option maxRecDepth 100000 in
theorem hsz_I (n : Nat) (f : Nat → Nat) : ab_osz (oI (ar n f)) = n := by
  show (ar n f).length = n
  exact ar_len n f
set_option maxRecDepth 100000 in
theorem LR_sz {ρ : Int32} {τ : Nat → Nat → Nat} {N : Nat} {Ts : List (Option Nat)} {B : Nat → Nat} {Q : ab_H} : (LR ρ τ N Ts B Q).length = Q.length + 14 ∧ ab_hsz (LR ρ τ N Ts B Q) = Ts.length + 2083 + ab_hsz Q := by
  refine ⟨rfl, ?_⟩
  unfold LR
  simp only [hsz_c, hsz_I]
  have e1 : ab_osz (oI [ρ]) = 1 := rfl
  have e3 : ab_osz (oR Ts) = Ts.length := rfl
  rw [e1, e3]
  show 1 + (20 + _) = _
  omega
set_option maxRecDepth 100000 in
theorem RWS_sz {σ : Nat → Nat → Nat} (O : Ok σ) (n : Nat) (W : Nat → Nat → Nat) : ab_hsz (RWS σ n W) ≤ 6 * n := by
  obtain ⟨hD1, hD2, hH1, hH2, hS, hC, hT, hR, hL, hQ⟩ := Ok_b O
  induction n with
  | zero => exact Nat.le_refl _
  | succ n ih =>
    have e : RWS σ (n + 1) W = RWS σ n W ++ [oI (ar (σ 1 6) (W n))] := by
      unfold RWS
      rw [List.range_succ, List.map_append]
      rfl
    rw [e, ab_hsz_app, hsz_c, hsz_I]
    show _ + ((σ 1 6) + 0) ≤ _
    omega
set_option maxRecDepth 100000 in
theorem RM4_h {σ : Nat → Nat → Nat} (O : Ok σ) {ρ : Int32} {n : Nat} {B w : Nat → Nat} {W : Nat → Nat → Nat} (hn : n ≤ 2000) : RM4 (LR ρ σ n (TSS n) B (oI (ar (σ 1 6) w) :: RWS σ n W)) := by
  obtain ⟨hD1, hD2, hH1, hH2, hS, hC, hT, hR, hL, hQ⟩ := Ok_b O
  obtain ⟨h1, h2⟩ := LR_sz (ρ := ρ) (τ := σ) (N := n) (Ts := TSS n) (B := B) (Q := oI (ar (σ 1 6) w) :: RWS σ n W)
  have h3 := RWS_sz O n W
  unfold RM4
  rw [h1, h2, TSS_len, hsz_c, hsz_I, List.length_cons, RWS_len]
  omega
set_option maxRecDepth 100000 in
theorem u1_u1 (f : Nat → Nat) (i v v2 : Nat) : u1 (u1 f i v) i v2 = u1 f i v2 := by
  funext j
  unfold u1
  split <;> rfl
section Pc
variable {xs : List Int32} {d m2 : Nat} {hs : List (Nat × Nat)} {tt : ab_T} {rr : List ab_I} {qq : Nat × Nat × Nat} {Lc st : List Value} {σ M W : Nat → Nat → Nat} {ρ : Int32} {N : Nat} {Ts : List (Option Nat)} {B : Nat → Nat} {Q : ab_H} {l o s r u v q t i n x p k nn : Nat} {w f : Nat → Nat} {h : ab_H} {c : ab_O}
set_option maxRecDepth 100000 in
theorem LR_len2 : (hc σ M (LR ρ σ N Ts B (c :: RWS σ n W))).length = 77 + n := by
  rw [LR_len, List.length_cons, RWS_len]
  omega
set_option maxRecDepth 100000 in
theorem LR_n : (hc σ M (LR ρ σ N Ts B ((c :: RWS σ n W) ++ [oI (ar nn f)])))[77 + n]? = some (oI (ar nn f)) := by
  have := LR_last (σ := σ) (M := M) (ρ := ρ) (τ := σ) (N := N) (Ts := Ts) (B := B) (Q := c :: RWS σ n W) (c := oI (ar nn f))
  rw [List.length_cons, RWS_len, show 76 + (n + 1) = 77 + n by omega] at this
  exact this
set_option maxRecDepth 100000 in
theorem t_aast {rw : List Int32} (hn : n < 2000) : rt xs d m2 hs tt ((.aastore, qq) :: rr) (Lc, .ref (77 + n) :: .int (nI n) :: .ref 74 :: st, hc σ M (LR ρ σ N (TSS n) B ((c :: RWS σ n W) ++ [oI rw]))) = rt xs d m2 hs tt rr (Lc, st, hc σ M (LR ρ σ N (TSS (n + 1)) B ((c :: RWS σ n W) ++ [oI rw]))) := by
  have := lW_74 (xs := xs) (d := d) (m := m2) (hs := hs) (t := tt) (r := rr) (q := qq) (L := Lc) (st := st) (σ := σ) (M := M) (τ := σ) (ρ := ρ) (N := N) (B := B) (k := n) (i := n + 1) (Q := (c :: RWS σ n W) ++ [oI rw]) (rw := rw) (TSS_len n) hn (by
    rw [List.getElem?_append_right (by rw [List.length_cons, RWS_len]; exact Nat.le_refl _), List.length_cons, RWS_len, Nat.sub_self]
    rfl)
  rw [show 76 + (n + 1) = 77 + n by omega, TSS_set hn] at this
  exact this
set_option maxRecDepth 100000 in
theorem t_ist (hk : k < nn) (hn : nn ≤ 100000) : rt xs d m2 hs tt ((.iastore, qq) :: rr) (Lc, .int (nI v) :: .int (nI k) :: .ref (77 + n) :: st, hc σ M (LR ρ σ N Ts B ((c :: RWS σ n W) ++ [oI (ar nn f)]))) = rt xs d m2 hs tt rr (Lc, st, hc σ M (LR ρ σ N Ts B ((c :: RWS σ n W) ++ [oI (ar nn (u1 f k v))]))) := by
  have := lW_L (xs := xs) (d := d) (m := m2) (hs := hs) (t := tt) (r := rr) (q := qq) (L := Lc) (st := st) (σ := σ) (M := M) (τ := σ) (ρ := ρ) (N := N) (Ts := Ts) (B := B) (Q := c :: RWS σ n W) (f := f) (v := v) hk hn
  rw [List.length_cons, RWS_len, show 76 + (n + 1) = 77 + n by omega] at this
  exact this
-- a whole table is listed
set_option maxRecDepth 100000 in
theorem p_288z (O : Ok σ) (hw : WB σ (σ 1 6) w) (hn : n < 2000) (hB : B n = 0) : ev xs (d + 4) 288 0 ([.ref 63, .ref 76, .int (nI (σ 1 6)), .retAddr 9, .retAddr 9], [], HS σ M ρ n B w W) = some (.inl (some (.int (nI (1)))), HS σ M ρ (n + 1) (u1 B n (brk σ (tsl w) (trm w))) w (wset W n w)) := by
  obtain ⟨hD1, hD2, hH1, hH2, hS, hC, hT, hR, hL, hQ⟩ := Ok_b O
  have hbl := brk_lt O (tsl w) (trm w)
  have fin : ev xs (d + 4) 288 13 ([.ref 63, .ref 76, .int (nI (σ 1 6)), .int (nI (σ 1 7)), .retAddr 9], [], hc σ M (LR ρ σ n (TSS (n + 1)) (u1 B n (brk σ (tsl w) (trm w))) ((oI (ar (σ 1 6) w) :: RWS σ n W) ++ [oI (ar (σ 1 6) w)]))) = some (.inl (some (.int (nI (1)))), HS σ M ρ (n + 1) (u1 B n (brk σ (tsl w) (trm w))) w (wset W n w)) := by
    clear hw
    rw [HS, RWS_s]
    simp (disch := first | assumption | omega | exact st8_a (Nat.le_of_ble_eq_true rfl)) only [eb_288_13, kl_a, kl_d, kl_f, kl_i, kl_l, kl_n, kl_r, xr_1, xr_10, xr_11, xr_12, xr_13, xr_14, xr_15, xr_2, xr_27, xr_3, xr_31, xr_32, xr_33, xr_34, xr_37, xr_38, xr_4, xr_40, xr_41, xr_43, xr_45, xr_5, xr_58, xr_74, xr_8, xr_86, xr_9, af_0, af_1, xt_goto, xt_ib, xt_ic, xt_ic_ge, xt_ic_ne, xt_if_eq, xt_if_ne, xt_ir, xt_nop, lA_74, lL_74, lF_12, lF_17, lF_18, lF_19, lF_2, lF_8, lA_64, lA_65, lA_66, lA_67, lA_68, lA_69, lA_70, lA_71, lA_72, lA_73, lA_75, lA_62, lW_64, lW_65, lW_66, lW_67, lW_68, lW_69, lW_70, lW_71, lW_72, lW_73, lW_75, lW_62, lP_19, xq_281_12_virtualm, xq_284_12_virtualm, xq_286_12_virtualm, xq_287_12_virtualm, xq_288_12_virtualm, iN_add, iN_mul, iN_sub, iN_and, iN_or, iN_clr, iN_shl, iN_shr, tb_r1, b1_z, b1_or, b1_and, b1_or0, b1_or1, b1_0or, b1_t, b1_f, iN_lt, iN_inj, reduceIte, if_true, if_false, Nat.zero_add, Nat.add_zero, Bool.false_eq_true, Bool.true_eq_false, Nat.lt_irrefl, iN_az, not_true_eq_false, not_false_eq_true, Nat.reduceEqDiff, Nat.reduceLT, Nat.reduceAdd, Nat.reduceMul, Nat.reduceSub]
    rfl
  have bro : ∀ k, k ≤ (σ 1 7) → ev xs (d + 4) 288 7 ([.ref 63, .ref 76, .int (nI (σ 1 6)), .int (nI k), .retAddr 9], [], hc σ M (LR ρ σ n (TSS (n + 1)) (u1 B n (en k fun q => !kpq σ (tsl w) (trm w) q)) ((oI (ar (σ 1 6) w) :: RWS σ n W) ++ [oI (ar (σ 1 6) w)]))) = some (.inl (some (.int (nI (1)))), HS σ M ρ (n + 1) (u1 B n (brk σ (tsl w) (trm w))) w (wset W n w)) := by
    refine lp (σ 1 7) ?_ ?_
    · rw [eb_288_7]
      clear hw
      simp (disch := first | assumption | omega | exact st8_a (Nat.le_of_ble_eq_true rfl)) only [kl_a, kl_d, kl_f, kl_i, kl_l, kl_n, kl_r, xr_1, xr_10, xr_11, xr_12, xr_13, xr_14, xr_15, xr_2, xr_27, xr_3, xr_31, xr_32, xr_33, xr_34, xr_37, xr_38, xr_4, xr_40, xr_41, xr_43, xr_45, xr_5, xr_58, xr_74, xr_8, xr_86, xr_9, af_0, af_1, xt_goto, xt_ib, xt_ic, xt_ic_ge, xt_ic_ne, xt_if_eq, xt_if_ne, xt_ir, xt_nop, lA_74, lL_74, lF_12, lF_17, lF_18, lF_19, lF_2, lF_8, lA_64, lA_65, lA_66, lA_67, lA_68, lA_69, lA_70, lA_71, lA_72, lA_73, lA_75, lA_62, lW_64, lW_65, lW_66, lW_67, lW_68, lW_69, lW_70, lW_71, lW_72, lW_73, lW_75, lW_62, lP_19, xq_281_12_virtualm, xq_284_12_virtualm, xq_286_12_virtualm, xq_287_12_virtualm, xq_288_12_virtualm, iN_add, iN_mul, iN_sub, iN_and, iN_or, iN_clr, iN_shl, iN_shr, tb_r1, b1_z, b1_or, b1_and, b1_or0, b1_or1, b1_0or, b1_t, b1_f, iN_lt, iN_inj, reduceIte, if_true, if_false, Nat.zero_add, Nat.add_zero, Bool.false_eq_true, Bool.true_eq_false, Nat.lt_irrefl, iN_az, not_true_eq_false, not_false_eq_true, Nat.reduceEqDiff, Nat.reduceLT, Nat.reduceAdd, Nat.reduceMul, Nat.reduceSub]
      exact fin
    · intro k hk ih
      have e1 := p_286 (xs := xs) (d := d) (σ := σ) (M := M) (ρ := ρ) (N := n) (Ts := TSS (n + 1)) (B := u1 B n (en k fun q => !kpq σ (tsl w) (trm w) q)) (Q := (oI (ar (σ 1 6) w) :: RWS σ n W) ++ [oI (ar (σ 1 6) w)]) (p := 76) (n := (σ 1 6)) (w := w) O rfl hL (Nat.le_refl _) hw hk
      rw [eb_288_7]
      rw [en_st] at ih
      clear hw fin
      cases h1 : kpq σ (tsl w) (trm w) k
      · rw [h1] at ih e1
        rw [if_pos (by rfl)] at ih
        simp (disch := first | assumption | omega | exact st8_a (Nat.le_of_ble_eq_true rfl)) only [hk, e1, u1_s, u1_u1, eb_288_8, eb_288_9, eb_288_11, eb_288_12, kl_a, kl_d, kl_f, kl_i, kl_l, kl_n, kl_r, xr_1, xr_10, xr_11, xr_12, xr_13, xr_14, xr_15, xr_2, xr_27, xr_3, xr_31, xr_32, xr_33, xr_34, xr_37, xr_38, xr_4, xr_40, xr_41, xr_43, xr_45, xr_5, xr_58, xr_74, xr_8, xr_86, xr_9, af_0, af_1, xt_goto, xt_ib, xt_ic, xt_ic_ge, xt_ic_ne, xt_if_eq, xt_if_ne, xt_ir, xt_nop, lA_74, lL_74, lF_12, lF_17, lF_18, lF_19, lF_2, lF_8, lA_64, lA_65, lA_66, lA_67, lA_68, lA_69, lA_70, lA_71, lA_72, lA_73, lA_75, lA_62, lW_64, lW_65, lW_66, lW_67, lW_68, lW_69, lW_70, lW_71, lW_72, lW_73, lW_75, lW_62, lP_19, xq_281_12_virtualm, xq_284_12_virtualm, xq_286_12_virtualm, xq_287_12_virtualm, xq_288_12_virtualm, iN_add, iN_mul, iN_sub, iN_and, iN_or, iN_clr, iN_shl, iN_shr, tb_r1, b1_z, b1_or, b1_and, b1_or0, b1_or1, b1_0or, b1_t, b1_f, iN_lt, iN_inj, reduceIte, if_true, if_false, Nat.zero_add, Nat.add_zero, Bool.false_eq_true, Bool.true_eq_false, Nat.lt_irrefl, iN_az, not_true_eq_false, not_false_eq_true, Nat.reduceEqDiff, Nat.reduceLT, Nat.reduceAdd, Nat.reduceMul, Nat.reduceSub]
        exact ih
      · rw [h1] at ih e1
        rw [if_neg (by decide)] at ih
        simp (disch := first | assumption | omega | exact st8_a (Nat.le_of_ble_eq_true rfl)) only [hk, e1, u1_s, u1_u1, Nat.or_zero, eb_288_8, eb_288_9, eb_288_10, eb_288_12, kl_a, kl_d, kl_f, kl_i, kl_l, kl_n, kl_r, xr_1, xr_10, xr_11, xr_12, xr_13, xr_14, xr_15, xr_2, xr_27, xr_3, xr_31, xr_32, xr_33, xr_34, xr_37, xr_38, xr_4, xr_40, xr_41, xr_43, xr_45, xr_5, xr_58, xr_74, xr_8, xr_86, xr_9, af_0, af_1, xt_goto, xt_ib, xt_ic, xt_ic_ge, xt_ic_ne, xt_if_eq, xt_if_ne, xt_ir, xt_nop, lA_74, lL_74, lF_12, lF_17, lF_18, lF_19, lF_2, lF_8, lA_64, lA_65, lA_66, lA_67, lA_68, lA_69, lA_70, lA_71, lA_72, lA_73, lA_75, lA_62, lW_64, lW_65, lW_66, lW_67, lW_68, lW_69, lW_70, lW_71, lW_72, lW_73, lW_75, lW_62, lP_19, xq_281_12_virtualm, xq_284_12_virtualm, xq_286_12_virtualm, xq_287_12_virtualm, xq_288_12_virtualm, iN_add, iN_mul, iN_sub, iN_and, iN_or, iN_clr, iN_shl, iN_shr, tb_r1, b1_z, b1_or, b1_and, b1_or0, b1_or1, b1_0or, b1_t, b1_f, iN_lt, iN_inj, reduceIte, if_true, if_false, Nat.zero_add, Nat.add_zero, Bool.false_eq_true, Bool.true_eq_false, Nat.lt_irrefl, iN_az, not_true_eq_false, not_false_eq_true, Nat.reduceEqDiff, Nat.reduceLT, Nat.reduceAdd, Nat.reduceMul, Nat.reduceSub]
        exact ih
  have cop : ∀ k, k ≤ (σ 1 6) → ∀ f : Nat → Nat, (∀ j, j < k → f j = w j) → ev xs (d + 4) 288 4 ([.ref 63, .ref 76, .int (nI (σ 1 6)), .int (nI k), .retAddr 9], [], hc σ M (LR ρ σ n (TSS (n + 1)) B ((oI (ar (σ 1 6) w) :: RWS σ n W) ++ [oI (ar (σ 1 6) f)]))) = some (.inl (some (.int (nI (1)))), HS σ M ρ (n + 1) (u1 B n (brk σ (tsl w) (trm w))) w (wset W n w)) := by
    refine lp (σ 1 6) ?_ ?_
    · intro f hf
      have e := bro 0 (Nat.zero_le _)
      have e0 : u1 B n (en 0 fun q => !kpq σ (tsl w) (trm w) q) = B := by
        funext j
        unfold u1
        split
        · rename_i z
          rw [z, hB]
          rfl
        · rfl
      rw [e0] at e
      rw [ar_cg hf, eb_288_4]
      clear hw fin bro hf
      simp (disch := first | assumption | omega | exact st8_a (Nat.le_of_ble_eq_true rfl)) only [eb_288_6, kl_a, kl_d, kl_f, kl_i, kl_l, kl_n, kl_r, xr_1, xr_10, xr_11, xr_12, xr_13, xr_14, xr_15, xr_2, xr_27, xr_3, xr_31, xr_32, xr_33, xr_34, xr_37, xr_38, xr_4, xr_40, xr_41, xr_43, xr_45, xr_5, xr_58, xr_74, xr_8, xr_86, xr_9, af_0, af_1, xt_goto, xt_ib, xt_ic, xt_ic_ge, xt_ic_ne, xt_if_eq, xt_if_ne, xt_ir, xt_nop, lA_74, lL_74, lF_12, lF_17, lF_18, lF_19, lF_2, lF_8, lA_64, lA_65, lA_66, lA_67, lA_68, lA_69, lA_70, lA_71, lA_72, lA_73, lA_75, lA_62, lW_64, lW_65, lW_66, lW_67, lW_68, lW_69, lW_70, lW_71, lW_72, lW_73, lW_75, lW_62, lP_19, xq_281_12_virtualm, xq_284_12_virtualm, xq_286_12_virtualm, xq_287_12_virtualm, xq_288_12_virtualm, iN_add, iN_mul, iN_sub, iN_and, iN_or, iN_clr, iN_shl, iN_shr, tb_r1, b1_z, b1_or, b1_and, b1_or0, b1_or1, b1_0or, b1_t, b1_f, iN_lt, iN_inj, reduceIte, if_true, if_false, Nat.zero_add, Nat.add_zero, Bool.false_eq_true, Bool.true_eq_false, Nat.lt_irrefl, iN_az, not_true_eq_false, not_false_eq_true, Nat.reduceEqDiff, Nat.reduceLT, Nat.reduceAdd, Nat.reduceMul, Nat.reduceSub]
      exact e
    · intro k hk ih f hf
      have e := ih (u1 f k (w k)) fun j hj => by
        by_cases z : j = k
        · rw [z, u1_s]
        · rw [u1_n z]
          exact hf j (by omega)
      have ht : (hc σ M (LR ρ σ n (TSS (n + 1)) B ((oI (ar (σ 1 6) w) :: RWS σ n W) ++ [oI (ar (σ 1 6) f)])))[76]? = some (oI (ar (σ 1 6) w)) := rfl
      rw [eb_288_4]
      clear hw fin bro hf ih
      simp (disch := first | assumption | omega | exact st8_a (Nat.le_of_ble_eq_true rfl)) only [hk, lA_74 (TSS_get (Nat.lt_succ_self n) hn), q_ia ht, t_ist, eb_288_5, kl_a, kl_d, kl_f, kl_i, kl_l, kl_n, kl_r, xr_1, xr_10, xr_11, xr_12, xr_13, xr_14, xr_15, xr_2, xr_27, xr_3, xr_31, xr_32, xr_33, xr_34, xr_37, xr_38, xr_4, xr_40, xr_41, xr_43, xr_45, xr_5, xr_58, xr_74, xr_8, xr_86, xr_9, af_0, af_1, xt_goto, xt_ib, xt_ic, xt_ic_ge, xt_ic_ne, xt_if_eq, xt_if_ne, xt_ir, xt_nop, lA_74, lL_74, lF_12, lF_17, lF_18, lF_19, lF_2, lF_8, lA_64, lA_65, lA_66, lA_67, lA_68, lA_69, lA_70, lA_71, lA_72, lA_73, lA_75, lA_62, lW_64, lW_65, lW_66, lW_67, lW_68, lW_69, lW_70, lW_71, lW_72, lW_73, lW_75, lW_62, lP_19, xq_281_12_virtualm, xq_284_12_virtualm, xq_286_12_virtualm, xq_287_12_virtualm, xq_288_12_virtualm, iN_add, iN_mul, iN_sub, iN_and, iN_or, iN_clr, iN_shl, iN_shr, tb_r1, b1_z, b1_or, b1_and, b1_or0, b1_or1, b1_0or, b1_t, b1_f, iN_lt, iN_inj, reduceIte, if_true, if_false, Nat.zero_add, Nat.add_zero, Bool.false_eq_true, Bool.true_eq_false, Nat.lt_irrefl, iN_az, not_true_eq_false, not_false_eq_true, Nat.reduceEqDiff, Nat.reduceLT, Nat.reduceAdd, Nat.reduceMul, Nat.reduceSub]
      exact e
  have e := cop 0 (Nat.zero_le _) (fun _ => 0) fun j hj => absurd hj (Nat.not_lt_zero _)
  have hne : ¬ n = 2000 := by omega
  clear cop bro fin hw
  simp (disch := first | assumption | omega | exact st8_a (Nat.le_of_ble_eq_true rfl)) only [hne, lL_74 (TSS_len n), xr_49, LR_len2, LR_app, t_aast, eb_288_0, eb_288_1, eb_288_3, kl_a, kl_d, kl_f, kl_i, kl_l, kl_n, kl_r, xr_1, xr_10, xr_11, xr_12, xr_13, xr_14, xr_15, xr_2, xr_27, xr_3, xr_31, xr_32, xr_33, xr_34, xr_37, xr_38, xr_4, xr_40, xr_41, xr_43, xr_45, xr_5, xr_58, xr_74, xr_8, xr_86, xr_9, af_0, af_1, xt_goto, xt_ib, xt_ic, xt_ic_ge, xt_ic_ne, xt_if_eq, xt_if_ne, xt_ir, xt_nop, lA_74, lL_74, lF_12, lF_17, lF_18, lF_19, lF_2, lF_8, lA_64, lA_65, lA_66, lA_67, lA_68, lA_69, lA_70, lA_71, lA_72, lA_73, lA_75, lA_62, lW_64, lW_65, lW_66, lW_67, lW_68, lW_69, lW_70, lW_71, lW_72, lW_73, lW_75, lW_62, lP_19, xq_281_12_virtualm, xq_284_12_virtualm, xq_286_12_virtualm, xq_287_12_virtualm, xq_288_12_virtualm, iN_add, iN_mul, iN_sub, iN_and, iN_or, iN_clr, iN_shl, iN_shr, tb_r1, b1_z, b1_or, b1_and, b1_or0, b1_or1, b1_0or, b1_t, b1_f, iN_lt, iN_inj, reduceIte, if_true, if_false, Nat.zero_add, Nat.add_zero, Bool.false_eq_true, Bool.true_eq_false, Nat.lt_irrefl, iN_az, not_true_eq_false, not_false_eq_true, Nat.reduceEqDiff, Nat.reduceLT, Nat.reduceAdd, Nat.reduceMul, Nat.reduceSub]
  exact e
set_option maxRecDepth 100000 in
theorem al_CC (w : Nat → Nat) (hl : l < (σ 1 6)) : (sty σ l (w l / 10) && sts σ l (w l % 10)) = true → (al l fun o => decide (pf σ (tsl w) (trm w) l o = 0)) = true → CC σ l (tsl w) (trm w) := by
  intro h1 h2
  refine ⟨?_, fun o ho => ?_⟩
  · unfold std
    exact h1
  · exact of_decide_eq_true (al_t.mp h2 o ho)
set_option maxRecDepth 100000 in
theorem p_288 (O : Ok σ) : ∀ k l, l + k = (σ 1 6) → ∀ (w : Nat → Nat) (n : Nat) (W : Nat → Nat → Nat) (B : Nat → Nat), WB σ l w → (∀ j, j < l → CC σ j (tsl w) (trm w)) → LI σ (fun t v => LX l t v (tsl w) (trm w)) n W B →
    (∃ n' W' B' w', LI σ (VZ l w) n' W' B' ∧ (∀ j, j < l → w' j = w j) ∧ ev xs (d + k + 5) 288 0 ([.ref 63, .ref 76, .int (nI l), .retAddr 9, .retAddr 9], [], HS σ M ρ n B w W) = some (.inl (some (.int (nI (1)))), HS σ M ρ n' B' w' W')) ∨ (∃ R, RM4 R ∧ ev xs (d + k + 5) 288 0 ([.ref 63, .ref 76, .int (nI l), .retAddr 9, .retAddr 9], [], HS σ M ρ n B w W) = some (.inl (some (.int (nI (0)))), hc σ M R)) := by
  obtain ⟨hD1, hD2, hH1, hH2, hS, hC, hT, hR, hL, hQ⟩ := Ok_b O
  intro k
  induction k with
  | zero =>
    intro l hl w n W B hw hC hI
    obtain rfl : l = (σ 1 6) := by omega
    obtain ⟨⟨t1, t2, t3⟩, i2, i3, i4⟩ := hI
    by_cases hn : n = 2000
    · refine .inr ⟨_, RM4_h (ρ := ρ) (B := B) (w := w) (W := W) O i2, ?_⟩
      clear hw hC t1 t2 t3 i3 i4
      simp (disch := first | assumption | omega | exact st8_a (Nat.le_of_ble_eq_true rfl)) only [eq_true hn, lL_74 (TSS_len n), eb_288_0, eb_288_1, eb_288_2, kl_a, kl_d, kl_f, kl_i, kl_l, kl_n, kl_r, xr_1, xr_10, xr_11, xr_12, xr_13, xr_14, xr_15, xr_2, xr_27, xr_3, xr_31, xr_32, xr_33, xr_34, xr_37, xr_38, xr_4, xr_40, xr_41, xr_43, xr_45, xr_5, xr_58, xr_74, xr_8, xr_86, xr_9, af_0, af_1, xt_goto, xt_ib, xt_ic, xt_ic_ge, xt_ic_ne, xt_if_eq, xt_if_ne, xt_ir, xt_nop, lA_74, lL_74, lF_12, lF_17, lF_18, lF_19, lF_2, lF_8, lA_64, lA_65, lA_66, lA_67, lA_68, lA_69, lA_70, lA_71, lA_72, lA_73, lA_75, lA_62, lW_64, lW_65, lW_66, lW_67, lW_68, lW_69, lW_70, lW_71, lW_72, lW_73, lW_75, lW_62, lP_19, xq_281_12_virtualm, xq_284_12_virtualm, xq_286_12_virtualm, xq_287_12_virtualm, xq_288_12_virtualm, iN_add, iN_mul, iN_sub, iN_and, iN_or, iN_clr, iN_shl, iN_shr, tb_r1, b1_z, b1_or, b1_and, b1_or0, b1_or1, b1_0or, b1_t, b1_f, iN_lt, iN_inj, reduceIte, if_true, if_false, Nat.zero_add, Nat.add_zero, Bool.false_eq_true, Bool.true_eq_false, Nat.lt_irrefl, iN_az, not_true_eq_false, not_false_eq_true, Nat.reduceEqDiff, Nat.reduceLT, Nat.reduceAdd, Nat.reduceMul, Nat.reduceSub]
    · have hn2 : n < 2000 := by omega
      have hG : Gd σ 0 (tsl w) (trm w) := ⟨hw, (flt_CC _ _).mpr hC, fun q _ h => by simp at h⟩
      refine .inl ⟨n + 1, wset W n w, u1 B n (brk σ (tsl w) (trm w)), w, ⟨⟨fun j hj => ?_, fun i j hij hj => ?_, fun t v hg hp => ?_⟩, by omega, fun j hj => ?_, fun j hj => ?_⟩, fun _ _ => rfl, p_288z O hw hn2 (i4 n (Nat.le_refl _))⟩
      · unfold wset
        by_cases e : j = n
        · rw [if_pos e]
          exact ⟨hG, .inr fun _ _ => ⟨rfl, rfl⟩⟩
        · rw [if_neg e]
          exact ⟨(t1 j (by omega)).1, .inl (t1 j (by omega)).2⟩
      · unfold wset
        rw [if_neg (show ¬ i = n by omega)]
        by_cases e : j = n
        · rw [if_pos e]
          exact (t1 i (by omega)).2
        · rw [if_neg e]
          exact t2 i j hij (by omega)
      · rcases hp with hp | hp
        · obtain ⟨j, hj, ha⟩ := t3 t v hg hp
          refine ⟨j, by omega, ?_⟩
          unfold wset
          rw [if_neg (by omega)]
          exact ha
        · refine ⟨n, Nat.lt_succ_self n, ?_⟩
          unfold wset
          rw [if_pos rfl]
          exact hp
      · unfold wset
        by_cases e : j = n
        · rw [e, u1_s, if_pos rfl]
        · rw [u1_n e, if_neg e]
          exact i3 j (by omega)
      · rw [u1_n (by omega)]
        exact i4 j (by omega)
  | succ k ih =>
    intro l hl w0 n0 W0 B0 hw0 hC0 hI0
    have hlL : l < (σ 1 6) := by omega
    have hne : ¬ l = (σ 1 6) := by omega
    have hout : ∀ x, x ≤ (σ 1 2) → ∀ (w : Nat → Nat) (n : Nat) (W : Nat → Nat → Nat) (B : Nat → Nat) y, (∀ j, j < l → w j = w0 j) → LI σ (VB l x 0 w0) n W B →
        (∃ n' W' B' w', LI σ (VZ l w0) n' W' B' ∧ (∀ j, j < l → w' j = w0 j) ∧ ev xs (d + (k + 1) + 5) 288 15 ([.ref 63, .ref 76, .int (nI l), .int (nI x), y], [], HS σ M ρ n B w W) = some (.inl (some (.int (nI (1)))), HS σ M ρ n' B' w' W')) ∨ (∃ R, RM4 R ∧ ev xs (d + (k + 1) + 5) 288 15 ([.ref 63, .ref 76, .int (nI l), .int (nI x), y], [], HS σ M ρ n B w W) = some (.inl (some (.int (nI (0)))), hc σ M R)) := by
      refine lp (σ 1 2) ?_ ?_
      · intro w n W B y ha hI
        refine .inl ⟨n, W, B, w, LI_c hI fun t v hg => ?_, ha, ?_⟩
        · have := (hg.1 l hlL).1
          unfold VB VZ
          constructor
          · rintro (h | h)
            · exact .inl h
            · exact .inr h.1
          · rintro (h | h)
            · exact .inl h
            · exact .inr ⟨h, .inl this⟩
        · rw [eb_288_15]
          clear hw0 hC0 hI0 ih ha hI
          simp (disch := first | assumption | omega | exact st8_a (Nat.le_of_ble_eq_true rfl)) only [p_281 O, eb_288_16, eb_288_28, kl_a, kl_d, kl_f, kl_i, kl_l, kl_n, kl_r, xr_1, xr_10, xr_11, xr_12, xr_13, xr_14, xr_15, xr_2, xr_27, xr_3, xr_31, xr_32, xr_33, xr_34, xr_37, xr_38, xr_4, xr_40, xr_41, xr_43, xr_45, xr_5, xr_58, xr_74, xr_8, xr_86, xr_9, af_0, af_1, xt_goto, xt_ib, xt_ic, xt_ic_ge, xt_ic_ne, xt_if_eq, xt_if_ne, xt_ir, xt_nop, lA_74, lL_74, lF_12, lF_17, lF_18, lF_19, lF_2, lF_8, lA_64, lA_65, lA_66, lA_67, lA_68, lA_69, lA_70, lA_71, lA_72, lA_73, lA_75, lA_62, lW_64, lW_65, lW_66, lW_67, lW_68, lW_69, lW_70, lW_71, lW_72, lW_73, lW_75, lW_62, lP_19, xq_281_12_virtualm, xq_284_12_virtualm, xq_286_12_virtualm, xq_287_12_virtualm, xq_288_12_virtualm, iN_add, iN_mul, iN_sub, iN_and, iN_or, iN_clr, iN_shl, iN_shr, tb_r1, b1_z, b1_or, b1_and, b1_or0, b1_or1, b1_0or, b1_t, b1_f, iN_lt, iN_inj, reduceIte, if_true, if_false, Nat.zero_add, Nat.add_zero, Bool.false_eq_true, Bool.true_eq_false, Nat.lt_irrefl, iN_az, not_true_eq_false, not_false_eq_true, Nat.reduceEqDiff, Nat.reduceLT, Nat.reduceAdd, Nat.reduceMul, Nat.reduceSub]
      · intro x hx ihx w n W B y ha hI
        have hin : ∀ y, y ≤ (σ 1 5) → ∀ (w : Nat → Nat) (n : Nat) (W : Nat → Nat → Nat) (B : Nat → Nat), (∀ j, j < l → w j = w0 j) → LI σ (VB l x y w0) n W B →
            (∃ n' W' B' w', LI σ (VZ l w0) n' W' B' ∧ (∀ j, j < l → w' j = w0 j) ∧ ev xs (d + (k + 1) + 5) 288 18 ([.ref 63, .ref 76, .int (nI l), .int (nI x), .int (nI y)], [], HS σ M ρ n B w W) = some (.inl (some (.int (nI (1)))), HS σ M ρ n' B' w' W')) ∨ (∃ R, RM4 R ∧ ev xs (d + (k + 1) + 5) 288 18 ([.ref 63, .ref 76, .int (nI l), .int (nI x), .int (nI y)], [], HS σ M ρ n B w W) = some (.inl (some (.int (nI (0)))), hc σ M R)) := by
          refine lp (σ 1 5) ?_ ?_
          · intro w n W B ha hI
            have e0 : ev xs (d + (k + 1) + 5) 288 18 ([.ref 63, .ref 76, .int (nI l), .int (nI x), .int (nI (σ 1 5))], [], HS σ M ρ n B w W) = ev xs (d + (k + 1) + 5) 288 15 ([.ref 63, .ref 76, .int (nI l), .int (nI (x + 1)), .int (nI (σ 1 5))], [], HS σ M ρ n B w W) := by
              rw [eb_288_18]
              clear hw0 hC0 hI0 ih ha hI ihx
              simp (disch := first | assumption | omega | exact st8_a (Nat.le_of_ble_eq_true rfl)) only [eb_288_27, kl_a, kl_d, kl_f, kl_i, kl_l, kl_n, kl_r, xr_1, xr_10, xr_11, xr_12, xr_13, xr_14, xr_15, xr_2, xr_27, xr_3, xr_31, xr_32, xr_33, xr_34, xr_37, xr_38, xr_4, xr_40, xr_41, xr_43, xr_45, xr_5, xr_58, xr_74, xr_8, xr_86, xr_9, af_0, af_1, xt_goto, xt_ib, xt_ic, xt_ic_ge, xt_ic_ne, xt_if_eq, xt_if_ne, xt_ir, xt_nop, lA_74, lL_74, lF_12, lF_17, lF_18, lF_19, lF_2, lF_8, lA_64, lA_65, lA_66, lA_67, lA_68, lA_69, lA_70, lA_71, lA_72, lA_73, lA_75, lA_62, lW_64, lW_65, lW_66, lW_67, lW_68, lW_69, lW_70, lW_71, lW_72, lW_73, lW_75, lW_62, lP_19, xq_281_12_virtualm, xq_284_12_virtualm, xq_286_12_virtualm, xq_287_12_virtualm, xq_288_12_virtualm, iN_add, iN_mul, iN_sub, iN_and, iN_or, iN_clr, iN_shl, iN_shr, tb_r1, b1_z, b1_or, b1_and, b1_or0, b1_or1, b1_0or, b1_t, b1_f, iN_lt, iN_inj, reduceIte, if_true, if_false, Nat.zero_add, Nat.add_zero, Bool.false_eq_true, Bool.true_eq_false, Nat.lt_irrefl, iN_az, not_true_eq_false, not_false_eq_true, Nat.reduceEqDiff, Nat.reduceLT, Nat.reduceAdd, Nat.reduceMul, Nat.reduceSub]
            rw [e0]
            exact ihx w n W B (.int (nI (σ 1 5))) ha (LI_c hI fun t v hg => by
              have := (hg.1 l hlL).2
              unfold VB
              constructor
              · rintro (h | ⟨h1, h2⟩)
                · exact .inl h
                · exact .inr ⟨h1, by omega⟩
              · rintro (h | ⟨h1, h2⟩)
                · exact .inl h
                · exact .inr ⟨h1, by omega⟩)
          · intro y hy ihy w n W B ha hI
            obtain ⟨w1, hw1⟩ : ∃ w1, u1 w l (10 * x + y) = w1 := ⟨_, rfl⟩
            have a1 : ∀ j, j < l → w1 j = w0 j := fun j hj => by
              rw [← hw1, u1_n (by omega)]
              exact ha j hj
            have al1 : w1 l = 10 * x + y := by rw [← hw1, u1_s]
            have ax : w1 l / 10 = x := by rw [al1]; omega
            have ay : w1 l % 10 = y := by rw [al1]; omega
            have hwb : WB σ (l + 1) w1 := fun j hj => by
              by_cases e : j = l
              · rw [e, ax, ay]
                exact ⟨hx, hy⟩
              · rw [a1 j (by omega)]
                exact hw0 j (by omega)
            have hag : AG l (tsl w1) (trm w1) (tsl w0) (trm w0) := fun j hj => by
              show w1 j / 10 = w0 j / 10 ∧ w1 j % 10 = w0 j % 10
              rw [a1 j hj]
              exact ⟨rfl, rfl⟩
            -- the store, the two questions
            have q1 := p_284 (xs := xs) (d := d + (k + 1) + 4) (M := M) (ρ := ρ) (N := n) (Ts := TSS n) (B := B) (Q := oI (ar (σ 1 6) w1) :: RWS σ n W) (v := w1 l) O hlL (by rw [ax]; exact hx) (by rw [ay]; exact hy)
            have q2 := p_287 (xs := xs) (d := d + (k + 1) + 2) (M := M) (ρ := ρ) (N := n) (Ts := TSS n) (B := B) (Q := oI (ar (σ 1 6) w1) :: RWS σ n W) (p := 76) (n := (σ 1 6)) (w := w1) O rfl hL hlL (Nat.le_refl _) hwb
            have ht : (hc σ M (LR ρ σ n (TSS n) B (oI (ar (σ 1 6) w1) :: RWS σ n W)))[76]? = some (oI (ar (σ 1 6) w1)) := rfl
            -- no table goes on so
            have skip : ¬ CC σ l (tsl w1) (trm w1) → _ := fun hno => ihy w1 n W B a1 (LI_c hI fun t v hg => by
              unfold VB
              constructor
              · rintro (h | ⟨h1, h2⟩)
                · exact .inl h
                · exact .inr ⟨h1, by omega⟩
              · rintro (h | ⟨h1, h2⟩)
                · exact .inl h
                · by_cases e : t l = x ∧ v l = y
                  · refine absurd ?_ hno
                    have h3 : AG (l + 1) t v (tsl w1) (trm w1) := fun j hj => by
                      by_cases ej : j = l
                      · rw [ej]
                        exact ⟨e.1.trans ax.symm, e.2.trans ay.symm⟩
                      · exact ⟨(h1 j (by omega)).1.trans (hag j (by omega)).1.symm, (h1 j (by omega)).2.trans (hag j (by omega)).2.symm⟩
                    exact (CC_cg h3 (Nat.lt_succ_self l)).mp ((flt_CC _ _).mp hg.2.1 l hlL)
                  · exact .inr ⟨h1, by omega⟩)
            cases hs : (sty σ l (w1 l / 10) && sts σ l (w1 l % 10))
            · have e0 : ev xs (d + (k + 1) + 5) 288 18 ([.ref 63, .ref 76, .int (nI l), .int (nI x), .int (nI y)], [], HS σ M ρ n B w W) = ev xs (d + (k + 1) + 5) 288 18 ([.ref 63, .ref 76, .int (nI l), .int (nI x), .int (nI (y + 1))], [], HS σ M ρ n B w1 W) := by
                rw [hs] at q1
                rw [eb_288_18]
                clear hw0 hC0 hI0 ih ha hI ihx ihy skip hag hwb a1 q2
                simp (disch := first | assumption | omega | exact st8_a (Nat.le_of_ble_eq_true rfl)) only [hy, lA_t, lW_t, hw1, q_ia ht, q1, eb_288_19, eb_288_20, eb_288_26, kl_a, kl_d, kl_f, kl_i, kl_l, kl_n, kl_r, xr_1, xr_10, xr_11, xr_12, xr_13, xr_14, xr_15, xr_2, xr_27, xr_3, xr_31, xr_32, xr_33, xr_34, xr_37, xr_38, xr_4, xr_40, xr_41, xr_43, xr_45, xr_5, xr_58, xr_74, xr_8, xr_86, xr_9, af_0, af_1, xt_goto, xt_ib, xt_ic, xt_ic_ge, xt_ic_ne, xt_if_eq, xt_if_ne, xt_ir, xt_nop, lA_74, lL_74, lF_12, lF_17, lF_18, lF_19, lF_2, lF_8, lA_64, lA_65, lA_66, lA_67, lA_68, lA_69, lA_70, lA_71, lA_72, lA_73, lA_75, lA_62, lW_64, lW_65, lW_66, lW_67, lW_68, lW_69, lW_70, lW_71, lW_72, lW_73, lW_75, lW_62, lP_19, xq_281_12_virtualm, xq_284_12_virtualm, xq_286_12_virtualm, xq_287_12_virtualm, xq_288_12_virtualm, iN_add, iN_mul, iN_sub, iN_and, iN_or, iN_clr, iN_shl, iN_shr, tb_r1, b1_z, b1_or, b1_and, b1_or0, b1_or1, b1_0or, b1_t, b1_f, iN_lt, iN_inj, reduceIte, if_true, if_false, Nat.zero_add, Nat.add_zero, Bool.false_eq_true, Bool.true_eq_false, Nat.lt_irrefl, iN_az, not_true_eq_false, not_false_eq_true, Nat.reduceEqDiff, Nat.reduceLT, Nat.reduceAdd, Nat.reduceMul, Nat.reduceSub]
              rw [e0]
              exact skip fun h => by
                have := h.1
                unfold std at this
                rw [show sty σ l (tsl w1 l) = sty σ l (w1 l / 10) from rfl, show sts σ l (trm w1 l) = sts σ l (w1 l % 10) from rfl, hs] at this
                cases this
            · cases hg : (al l fun o => decide (pf σ (tsl w1) (trm w1) l o = 0))
              · have e0 : ev xs (d + (k + 1) + 5) 288 18 ([.ref 63, .ref 76, .int (nI l), .int (nI x), .int (nI y)], [], HS σ M ρ n B w W) = ev xs (d + (k + 1) + 5) 288 18 ([.ref 63, .ref 76, .int (nI l), .int (nI x), .int (nI (y + 1))], [], HS σ M ρ n B w1 W) := by
                  rw [hs] at q1
                  rw [hg] at q2
                  rw [eb_288_18]
                  clear hw0 hC0 hI0 ih ha hI ihx ihy skip hag hwb a1
                  simp (disch := first | assumption | omega | exact st8_a (Nat.le_of_ble_eq_true rfl)) only [hy, lA_t, lW_t, hw1, q_ia ht, q1, q2, eb_288_19, eb_288_20, eb_288_21, eb_288_22, eb_288_26, kl_a, kl_d, kl_f, kl_i, kl_l, kl_n, kl_r, xr_1, xr_10, xr_11, xr_12, xr_13, xr_14, xr_15, xr_2, xr_27, xr_3, xr_31, xr_32, xr_33, xr_34, xr_37, xr_38, xr_4, xr_40, xr_41, xr_43, xr_45, xr_5, xr_58, xr_74, xr_8, xr_86, xr_9, af_0, af_1, xt_goto, xt_ib, xt_ic, xt_ic_ge, xt_ic_ne, xt_if_eq, xt_if_ne, xt_ir, xt_nop, lA_74, lL_74, lF_12, lF_17, lF_18, lF_19, lF_2, lF_8, lA_64, lA_65, lA_66, lA_67, lA_68, lA_69, lA_70, lA_71, lA_72, lA_73, lA_75, lA_62, lW_64, lW_65, lW_66, lW_67, lW_68, lW_69, lW_70, lW_71, lW_72, lW_73, lW_75, lW_62, lP_19, xq_281_12_virtualm, xq_284_12_virtualm, xq_286_12_virtualm, xq_287_12_virtualm, xq_288_12_virtualm, iN_add, iN_mul, iN_sub, iN_and, iN_or, iN_clr, iN_shl, iN_shr, tb_r1, b1_z, b1_or, b1_and, b1_or0, b1_or1, b1_0or, b1_t, b1_f, iN_lt, iN_inj, reduceIte, if_true, if_false, Nat.zero_add, Nat.add_zero, Bool.false_eq_true, Bool.true_eq_false, Nat.lt_irrefl, iN_az, not_true_eq_false, not_false_eq_true, Nat.reduceEqDiff, Nat.reduceLT, Nat.reduceAdd, Nat.reduceMul, Nat.reduceSub]
                rw [e0]
                exact skip fun h => by
                  have h2 : (al l fun o => decide (pf σ (tsl w1) (trm w1) l o = 0)) = true := al_t.mpr fun o ho => decide_eq_true (h.2 o ho)
                  rw [hg] at h2
                  cases h2
              · have hCC := al_CC (σ := σ) w1 hlL hs hg
                have hC1 : ∀ j, j < l + 1 → CC σ j (tsl w1) (trm w1) := fun j hj => by
                  by_cases e : j = l
                  · rw [e]
                    exact hCC
                  · exact (CC_cg hag (show j < l by omega)).mpr (hC0 j (by omega))
                have hI1 : LI σ (fun t v => LX (l + 1) t v (tsl w1) (trm w1)) n W B := LI_c hI fun t v hg => by
                  unfold VB
                  rw [LX_s]
                  show _ ↔ _ ∨ (_ ∧ (t l < w1 l / 10 ∨ (t l = w1 l / 10 ∧ v l < w1 l % 10)))
                  rw [ax, ay]
                  constructor
                  · rintro (h | ⟨h1, h2⟩)
                    · exact .inl (LX_c2 (AG_s hag) h)
                    · exact .inr ⟨AG_t h1 (AG_s hag), h2⟩
                  · rintro (h | ⟨h1, h2⟩)
                    · exact .inl (LX_c2 hag h)
                    · exact .inr ⟨AG_t h1 hag, h2⟩
                rcases ih (l + 1) (by omega) w1 n W B hwb hC1 hI1 with ⟨n', W', B', w', hI2, ha2, e2⟩ | ⟨R, hR4, e2⟩
                · have e0 : ev xs (d + (k + 1) + 5) 288 18 ([.ref 63, .ref 76, .int (nI l), .int (nI x), .int (nI y)], [], HS σ M ρ n B w W) = ev xs (d + (k + 1) + 5) 288 18 ([.ref 63, .ref 76, .int (nI l), .int (nI x), .int (nI (y + 1))], [], HS σ M ρ n' B' w' W') := by
                    rw [hs] at q1
                    rw [hg] at q2
                    rw [show d + k + 5 = d + (k + 1) + 4 by omega] at e2
                    rw [show d + (k + 1) + 5 = d + (k + 1) + 4 + 1 from rfl]
                    rw [eb_288_18]
                    clear hw0 hC0 hI0 ih ha hI ihx ihy skip hag hwb a1 hC1 hI1 hI2 ha2 hCC
                    simp (disch := first | assumption | omega | exact st8_a (Nat.le_of_ble_eq_true rfl)) only [hy, lA_t, lW_t, hw1, q_ia ht, q1, q2, e2, eb_288_19, eb_288_20, eb_288_21, eb_288_22, eb_288_23, eb_288_24, eb_288_26, kl_a, kl_d, kl_f, kl_i, kl_l, kl_n, kl_r, xr_1, xr_10, xr_11, xr_12, xr_13, xr_14, xr_15, xr_2, xr_27, xr_3, xr_31, xr_32, xr_33, xr_34, xr_37, xr_38, xr_4, xr_40, xr_41, xr_43, xr_45, xr_5, xr_58, xr_74, xr_8, xr_86, xr_9, af_0, af_1, xt_goto, xt_ib, xt_ic, xt_ic_ge, xt_ic_ne, xt_if_eq, xt_if_ne, xt_ir, xt_nop, lA_74, lL_74, lF_12, lF_17, lF_18, lF_19, lF_2, lF_8, lA_64, lA_65, lA_66, lA_67, lA_68, lA_69, lA_70, lA_71, lA_72, lA_73, lA_75, lA_62, lW_64, lW_65, lW_66, lW_67, lW_68, lW_69, lW_70, lW_71, lW_72, lW_73, lW_75, lW_62, lP_19, xq_281_12_virtualm, xq_284_12_virtualm, xq_286_12_virtualm, xq_287_12_virtualm, xq_288_12_virtualm, iN_add, iN_mul, iN_sub, iN_and, iN_or, iN_clr, iN_shl, iN_shr, tb_r1, b1_z, b1_or, b1_and, b1_or0, b1_or1, b1_0or, b1_t, b1_f, iN_lt, iN_inj, reduceIte, if_true, if_false, Nat.zero_add, Nat.add_zero, Bool.false_eq_true, Bool.true_eq_false, Nat.lt_irrefl, iN_az, not_true_eq_false, not_false_eq_true, Nat.reduceEqDiff, Nat.reduceLT, Nat.reduceAdd, Nat.reduceMul, Nat.reduceSub]
                  rw [e0]
                  refine ihy w' n' W' B' (fun j hj => by rw [ha2 j (by omega)]; exact a1 j hj) (LI_c hI2 fun t v hg => ?_)
                  unfold VZ VB
                  rw [LX_s]
                  show (_ ∨ (_ ∧ (t l < w1 l / 10 ∨ (t l = w1 l / 10 ∧ v l < w1 l % 10)))) ∨ _ ↔ _
                  rw [ax, ay]
                  constructor
                  · rintro ((h | ⟨h1, h2⟩) | h)
                    · exact .inl (LX_c2 hag h)
                    · exact .inr ⟨AG_t h1 hag, by omega⟩
                    · refine .inr ⟨fun j hj => ⟨(h j (by omega)).1.trans (hag j hj).1, (h j (by omega)).2.trans (hag j hj).2⟩, ?_⟩
                      have h4 := h l (Nat.lt_succ_self l)
                      have h5 : t l = w1 l / 10 := h4.1
                      have h6 : v l = w1 l % 10 := h4.2
                      rw [ax] at h5
                      rw [ay] at h6
                      omega
                  · rintro (h | ⟨h1, h2⟩)
                    · exact .inl (.inl (LX_c2 (AG_s hag) h))
                    · by_cases e : t l = x ∧ v l = y
                      · refine .inr fun j hj => ?_
                        by_cases ej : j = l
                        · rw [ej]
                          exact ⟨e.1.trans ax.symm, e.2.trans ay.symm⟩
                        · exact ⟨(h1 j (by omega)).1.trans (hag j (by omega)).1.symm, (h1 j (by omega)).2.trans (hag j (by omega)).2.symm⟩
                      · exact .inl (.inr ⟨AG_t h1 (AG_s hag), by omega⟩)
                · refine .inr ⟨R, hR4, ?_⟩
                  rw [hs] at q1
                  rw [hg] at q2
                  rw [show d + k + 5 = d + (k + 1) + 4 by omega] at e2
                  rw [show d + (k + 1) + 5 = d + (k + 1) + 4 + 1 from rfl]
                  rw [eb_288_18]
                  clear hw0 hC0 hI0 ih ha hI ihx ihy skip hag hwb a1 hC1 hI1 hCC
                  simp (disch := first | assumption | omega | exact st8_a (Nat.le_of_ble_eq_true rfl)) only [hy, lA_t, lW_t, hw1, q_ia ht, q1, q2, e2, eb_288_19, eb_288_20, eb_288_21, eb_288_22, eb_288_23, eb_288_24, eb_288_25, kl_a, kl_d, kl_f, kl_i, kl_l, kl_n, kl_r, xr_1, xr_10, xr_11, xr_12, xr_13, xr_14, xr_15, xr_2, xr_27, xr_3, xr_31, xr_32, xr_33, xr_34, xr_37, xr_38, xr_4, xr_40, xr_41, xr_43, xr_45, xr_5, xr_58, xr_74, xr_8, xr_86, xr_9, af_0, af_1, xt_goto, xt_ib, xt_ic, xt_ic_ge, xt_ic_ne, xt_if_eq, xt_if_ne, xt_ir, xt_nop, lA_74, lL_74, lF_12, lF_17, lF_18, lF_19, lF_2, lF_8, lA_64, lA_65, lA_66, lA_67, lA_68, lA_69, lA_70, lA_71, lA_72, lA_73, lA_75, lA_62, lW_64, lW_65, lW_66, lW_67, lW_68, lW_69, lW_70, lW_71, lW_72, lW_73, lW_75, lW_62, lP_19, xq_281_12_virtualm, xq_284_12_virtualm, xq_286_12_virtualm, xq_287_12_virtualm, xq_288_12_virtualm, iN_add, iN_mul, iN_sub, iN_and, iN_or, iN_clr, iN_shl, iN_shr, tb_r1, b1_z, b1_or, b1_and, b1_or0, b1_or1, b1_0or, b1_t, b1_f, iN_lt, iN_inj, reduceIte, if_true, if_false, Nat.zero_add, Nat.add_zero, Bool.false_eq_true, Bool.true_eq_false, Nat.lt_irrefl, iN_az, not_true_eq_false, not_false_eq_true, Nat.reduceEqDiff, Nat.reduceLT, Nat.reduceAdd, Nat.reduceMul, Nat.reduceSub]
        have e0 : ev xs (d + (k + 1) + 5) 288 15 ([.ref 63, .ref 76, .int (nI l), .int (nI x), y], [], HS σ M ρ n B w W) = ev xs (d + (k + 1) + 5) 288 18 ([.ref 63, .ref 76, .int (nI l), .int (nI x), .int (nI 0)], [], HS σ M ρ n B w W) := by
          rw [eb_288_15]
          clear hw0 hC0 hI0 ih ha hI ihx hin
          simp (disch := first | assumption | omega | exact st8_a (Nat.le_of_ble_eq_true rfl)) only [p_281 O, hx, eb_288_16, eb_288_17, kl_a, kl_d, kl_f, kl_i, kl_l, kl_n, kl_r, xr_1, xr_10, xr_11, xr_12, xr_13, xr_14, xr_15, xr_2, xr_27, xr_3, xr_31, xr_32, xr_33, xr_34, xr_37, xr_38, xr_4, xr_40, xr_41, xr_43, xr_45, xr_5, xr_58, xr_74, xr_8, xr_86, xr_9, af_0, af_1, xt_goto, xt_ib, xt_ic, xt_ic_ge, xt_ic_ne, xt_if_eq, xt_if_ne, xt_ir, xt_nop, lA_74, lL_74, lF_12, lF_17, lF_18, lF_19, lF_2, lF_8, lA_64, lA_65, lA_66, lA_67, lA_68, lA_69, lA_70, lA_71, lA_72, lA_73, lA_75, lA_62, lW_64, lW_65, lW_66, lW_67, lW_68, lW_69, lW_70, lW_71, lW_72, lW_73, lW_75, lW_62, lP_19, xq_281_12_virtualm, xq_284_12_virtualm, xq_286_12_virtualm, xq_287_12_virtualm, xq_288_12_virtualm, iN_add, iN_mul, iN_sub, iN_and, iN_or, iN_clr, iN_shl, iN_shr, tb_r1, b1_z, b1_or, b1_and, b1_or0, b1_or1, b1_0or, b1_t, b1_f, iN_lt, iN_inj, reduceIte, if_true, if_false, Nat.zero_add, Nat.add_zero, Bool.false_eq_true, Bool.true_eq_false, Nat.lt_irrefl, iN_az, not_true_eq_false, not_false_eq_true, Nat.reduceEqDiff, Nat.reduceLT, Nat.reduceAdd, Nat.reduceMul, Nat.reduceSub]
        rw [e0]
        exact hin 0 (Nat.zero_le _) w n W B ha hI
    have e0 : ev xs (d + (k + 1) + 5) 288 0 ([.ref 63, .ref 76, .int (nI l), .retAddr 9, .retAddr 9], [], HS σ M ρ n0 B0 w0 W0) = ev xs (d + (k + 1) + 5) 288 15 ([.ref 63, .ref 76, .int (nI l), .int (nI 0), .retAddr 9], [], HS σ M ρ n0 B0 w0 W0) := by
      clear hw0 hC0 hI0 ih hout
      simp (disch := first | assumption | omega | exact st8_a (Nat.le_of_ble_eq_true rfl)) only [hne, eb_288_0, eb_288_14, kl_a, kl_d, kl_f, kl_i, kl_l, kl_n, kl_r, xr_1, xr_10, xr_11, xr_12, xr_13, xr_14, xr_15, xr_2, xr_27, xr_3, xr_31, xr_32, xr_33, xr_34, xr_37, xr_38, xr_4, xr_40, xr_41, xr_43, xr_45, xr_5, xr_58, xr_74, xr_8, xr_86, xr_9, af_0, af_1, xt_goto, xt_ib, xt_ic, xt_ic_ge, xt_ic_ne, xt_if_eq, xt_if_ne, xt_ir, xt_nop, lA_74, lL_74, lF_12, lF_17, lF_18, lF_19, lF_2, lF_8, lA_64, lA_65, lA_66, lA_67, lA_68, lA_69, lA_70, lA_71, lA_72, lA_73, lA_75, lA_62, lW_64, lW_65, lW_66, lW_67, lW_68, lW_69, lW_70, lW_71, lW_72, lW_73, lW_75, lW_62, lP_19, xq_281_12_virtualm, xq_284_12_virtualm, xq_286_12_virtualm, xq_287_12_virtualm, xq_288_12_virtualm, iN_add, iN_mul, iN_sub, iN_and, iN_or, iN_clr, iN_shl, iN_shr, tb_r1, b1_z, b1_or, b1_and, b1_or0, b1_or1, b1_0or, b1_t, b1_f, iN_lt, iN_inj, reduceIte, if_true, if_false, Nat.zero_add, Nat.add_zero, Bool.false_eq_true, Bool.true_eq_false, Nat.lt_irrefl, iN_az, not_true_eq_false, not_false_eq_true, Nat.reduceEqDiff, Nat.reduceLT, Nat.reduceAdd, Nat.reduceMul, Nat.reduceSub]
    rw [e0]
    refine hout 0 (Nat.zero_le _) w0 n0 W0 B0 (.retAddr 9) (fun _ _ => rfl) (LI_c hI0 fun t v hg => ?_)
    unfold VB
    constructor
    · exact fun h => .inl h
    · rintro (h | ⟨h1, h2⟩)
      · exact h
      · omega
end Pc
