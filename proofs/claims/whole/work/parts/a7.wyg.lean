/-! THE MODEL'S Ways: the tables that it allows are the good ones -/
section Wyg
variable {σ W N K : Nat → Nat → Nat} {a b u k v x y q set l i n tt yy m : Nat} {t s r s2 r2 t2 : Nat → Nat}
set_option maxRecDepth 100000 in
theorem kpq_al (O : Ok σ) (hq : q < (σ 1 7)) (h1 : σ 8 q ≠ 1) (hn : ¬ (2 ≤ σ 8 q ∧ σ 8 q ≤ 5)) : kpq σ (fun l => t l / (σ 1 5)) (fun l => t l % (σ 1 5)) q = al (σ 1 6) fun l => ka σ q l (t l) := by
  rcases rk_c O hq with h | h | h | h | h
  · rw [al_ka0 O hq h]
    unfold kpq
    rw [if_pos h]
  · exact absurd h h1
  · rw [al_ka6 O hq h]
    unfold kpq
    simp only [h, Nat.reduceEqDiff, if_true, if_false]
  · rw [al_ka7 O hq h]
    unfold kpq
    simp only [h, Nat.reduceEqDiff, if_true, if_false]
  · exact absurd (by omega) hn
set_option maxRecDepth 100000 in
theorem ka_12 (h1 : σ 8 q ≠ 0) (h2 : σ 8 q ≠ 6) (h3 : σ 8 q ≠ 7) : ka σ q l v = true := by
  unfold ka
  rw [if_neg h1, if_neg h2, if_neg h3]
set_option maxRecDepth 100000 in
theorem kpq_2 (h1 : 2 ≤ σ 8 q) (h2 : σ 8 q ≤ 5) : kpq σ s r q = kp2 σ q (s (σ 9 q)) (s (σ 10 q)) := by
  unfold kpq
  rw [if_neg (by omega), if_neg (by omega), if_neg (by omega), if_neg (by omega)]
set_option maxRecDepth 100000 in
theorem kpq_1 (h1 : σ 8 q = 1) : kpq σ s r q = decide (lgd σ s (σ 9 q) ≤ σ 10 q) := by
  unfold kpq
  rw [if_neg (by omega), if_pos h1]
set_option maxRecDepth 100000 in
theorem bus_sub (hm : m ≤ (σ 1 6)) (h : (bus σ i t m).testBit x = true) : (bus σ i t (σ 1 6)).testBit x = true := by
  obtain ⟨k, hk, h2⟩ := orn_tb.mp h
  exact orn_tb.mpr ⟨k, by omega, h2⟩
set_option maxRecDepth 100000 in
theorem pc_bus (hm : m ≤ (σ 1 6)) : pc 10 (bus σ i t m &&& u) ≤ pc 10 (ctc σ (fun l => t l / (σ 1 5)) i &&& u) := by
  refine pc_sub fun x hx => ?_
  rw [Nat.testBit_and, Bool.and_eq_true] at hx ⊢
  exact ⟨bus_sub hm hx.1, hx.2⟩
set_option maxRecDepth 100000 in
theorem PA_Gd (O : Ok σ) (hWT : WT σ set (σ 1 7) tt yy W) : PA σ W (σ 1 6) t ↔ (∀ l, l < (σ 1 6) → t l < (σ 1 2) * (σ 1 5)) ∧ Gd σ set (fun l => t l / (σ 1 5)) (fun l => t l % (σ 1 5)) ∧ NB σ tt yy (fun l => t l / (σ 1 5)) := by
  obtain ⟨hD1, hD2, hH1, hH2, hS, hC, hT, hR, hL, hQ⟩ := Ok_b O
  obtain ⟨h7, h5, h6⟩ := hWT
  constructor
  · intro hP
    have hw : ∀ l, l < (σ 1 6) → okw σ set (σ 1 7) tt yy l (t l) := fun l hl => (h7 l hl _).mp (hP l hl).2.1
    have hp : ∀ i j, i < j → j < (σ 1 6) → okp σ set (σ 1 7) i (t i) j (t j) := fun i j hij hj => (h5 i j (t i) (by omega) hj (by omega) (hP i (by omega)).1 _).mp ((hP j hj).2.2.1 i hij)
    refine ⟨fun l hl => (hP l hl).1, ⟨fun l hl => ?_, (flt_0 _ _).mpr ⟨fun l hl => ⟨(hw l hl).1.2.1, (hw l hl).1.2.2.1⟩, fun l o hl ho hne => ?_⟩, fun q hq hs => ?_⟩, .inr fun l hl ht => (hw l hl).1.2.2.2 ht⟩
    · have := vb O (hP l hl).1
      exact ⟨this.2.1, this.2.2.1⟩
    · by_cases h : l < o
      · exact (hp l o h ho).2.1
      · rw [pf_c]
        exact (hp o l (by omega) hl).2.1
    · by_cases h1 : σ 8 q = 1
      · rw [kpq_1 h1, decide_eq_true_eq]
        obtain ⟨ra4, rb3⟩ := rk_1 O hq h1
        unfold lgd
        rw [mxn_le]
        intro y hy
        have hb : W 6 (σ 9 q) ≤ σ 10 q := ((h6 (σ 9 q) (by omega) (W 6 (σ 9 q))).mp (Nat.le_refl _)).2 q hq hs h1 rfl
        have key : ∀ m, m ≤ (σ 1 6) → pc 10 (bus σ (σ 9 q) t m &&& dm σ y) ≤ σ 10 q := by
          intro m
          induction m with
          | zero =>
            intro _
            rw [show bus σ (σ 9 q) t 0 = 0 from rfl, Nat.zero_and]
            exact Nat.le_trans (Nat.le_of_eq (show pc 10 0 = 0 from rfl)) (Nat.zero_le _)
          | succ m ih =>
            intro hm
            by_cases e : σ 6 m = σ 9 q
            · have := (hP m (by omega)).2.2.2 y hy
              rw [e] at this
              omega
            · rw [show bus σ (σ 9 q) t (m + 1) = bus σ (σ 9 q) t m ||| (if σ 6 m = σ 9 q then cov σ m (t m / (σ 1 5)) else 0) from rfl, if_neg e, Nat.or_zero]
              exact ih (by omega)
        exact key (σ 1 6) (Nat.le_refl _)
      · by_cases h2 : 2 ≤ σ 8 q ∧ σ 8 q ≤ 5
        · obtain ⟨ha, hb, hab⟩ := rk_2 O hq (by omega)
          rw [kpq_2 h2.1 h2.2]
          by_cases h : σ 9 q < σ 10 q
          · exact ((hp _ _ h hb).2.2 q hq hs h2.1 h2.2).1 rfl rfl
          · exact ((hp _ _ (show σ 10 q < σ 9 q by omega) ha).2.2 q hq hs h2.1 h2.2).2 rfl rfl
        · rw [kpq_al O hq h1 h2, al_t]
          exact fun l hl => (hw l hl).2 q hq hs
  · rintro ⟨hv, ⟨g1, g2, g3⟩, hN⟩ j hj
    obtain ⟨f1, f2⟩ := (flt_0 _ _).mp g2
    refine ⟨hv j hj, (h7 j hj _).mpr ⟨⟨hv j hj, (f1 j hj).1, (f1 j hj).2, fun ht => ?_⟩, fun q hq hs => ?_⟩, fun i hi => (h5 i j (t i) (by omega) hj (by omega) (hv i (by omega)) _).mpr ⟨hv j hj, f2 i j (by omega) hj (by omega), fun q hq hs h22 h25 => ⟨fun e1 e2 => ?_, fun e1 e2 => ?_⟩⟩, fun y hy => ?_⟩
    · rcases hN with hN | hN
      · have := (Ok_l O hj).2.1
        omega
      · exact hN j hj ht
    · by_cases h : σ 8 q = 0 ∨ σ 8 q = 6 ∨ σ 8 q = 7
      · have := g3 q hq hs
        rw [kpq_al O hq (by omega) (by omega), al_t] at this
        exact this j hj
      · exact ka_12 (by omega) (by omega) (by omega)
    · have := g3 q hq hs
      rw [kpq_2 h22 h25, e1, e2] at this
      exact this
    · have := g3 q hq hs
      rw [kpq_2 h22 h25, e1, e2] at this
      exact this
    · obtain ⟨c1, c2, c3⟩ := Ok_l O hj
      refine (h6 (σ 6 j) (by omega) _).mpr ⟨pc_dm O _ hy, fun q hq hs h1 hra => ?_⟩
      have := g3 q hq hs
      rw [kpq_1 h1, decide_eq_true_eq, hra] at this
      unfold lgd at this
      rw [mxn_le] at this
      exact Nat.le_trans (pc_bus (by omega)) (this y hy)
/-- a table out of slots and rooms -/
def tv (σ : Nat → Nat → Nat) (s r : Nat → Nat) : Nat → Nat := fun l => s l * (σ 1 5) + r l
set_option maxRecDepth 100000 in
theorem tv_d (hr : r l < (σ 1 5)) : tv σ s r l / (σ 1 5) = s l := by
  unfold tv
  rw [Nat.mul_comm, Nat.mul_add_div (by omega), Nat.div_eq_of_lt hr, Nat.add_zero]
set_option maxRecDepth 100000 in
theorem tv_m (hr : r l < (σ 1 5)) : tv σ s r l % (σ 1 5) = r l := by
  unfold tv
  rw [Nat.mul_comm, Nat.mul_add_mod, Nat.mod_eq_of_lt hr]
set_option maxRecDepth 100000 in
theorem tv_b (hs : s l < (σ 1 2)) (hr : r l < (σ 1 5)) : tv σ s r l < (σ 1 2) * (σ 1 5) := by
  unfold tv
  have h1 : (s l + 1) * (σ 1 5) ≤ (σ 1 2) * (σ 1 5) := Nat.mul_le_mul_right _ hs
  rw [Nat.add_mul, Nat.one_mul] at h1
  omega
set_option maxRecDepth 100000 in
theorem tv_AG (hr : ∀ l, l < n → r l < (σ 1 5)) : AG n (fun l => tv σ s r l / (σ 1 5)) (fun l => tv σ s r l % (σ 1 5)) s r := fun j hj => ⟨tv_d (hr j hj), tv_m (hr j hj)⟩
set_option maxRecDepth 100000 in
theorem tv_t : tv σ (fun l => t l / (σ 1 5)) (fun l => t l % (σ 1 5)) = t := by
  funext l
  unfold tv
  exact Nat.div_add_mod' _ _
set_option maxRecDepth 100000 in
theorem NB_cg (h : ∀ l, l < (σ 1 6) → s l = s2 l) (hN : NB σ tt yy s) : NB σ tt yy s2 := by
  rcases hN with hN | hN
  · exact .inl hN
  · exact .inr fun l hl ht => by rw [← h l hl]; exact hN l hl ht
set_option maxRecDepth 100000 in
theorem PA_tv (O : Ok σ) (hWT : WT σ set (σ 1 7) tt yy W) (hG : Gd σ set s r) (hN : NB σ tt yy s) : PA σ W (σ 1 6) (tv σ s r) := by
  have ha := tv_AG (σ := σ) (s := s) (n := (σ 1 6)) fun l hl => (hG.1 l hl).2
  exact (PA_Gd O hWT).mpr ⟨fun l hl => tv_b (hG.1 l hl).1 (hG.1 l hl).2, Gd_cg O (AG_s ha) hG, NB_cg (fun l hl => (ha l hl).1.symm) hN⟩
set_option maxRecDepth 100000 in
theorem KB_PA (O : Ok σ) (hWT : WT σ set (σ 1 7) tt yy W) : (∃ t, PA σ W (σ 1 6) t) ↔ KB σ tt yy set := by
  constructor
  · rintro ⟨t, h⟩
    obtain ⟨h1, h2, h3⟩ := (PA_Gd O hWT).mp h
    exact ⟨_, _, h2, h3⟩
  · rintro ⟨s, r, h1, h2⟩
    exact ⟨_, PA_tv O hWT h1 h2⟩
set_option maxRecDepth 100000 in
theorem dm_lt2 (n a b : Nat) : a < b ↔ a / n < b / n ∨ (a / n = b / n ∧ a % n < b % n) := by
  have h1 := Nat.div_add_mod a n
  have h2 := Nat.div_add_mod b n
  by_cases hn : n = 0
  · subst hn
    rw [Nat.div_zero, Nat.div_zero, Nat.mod_zero, Nat.mod_zero]
    omega
  · have h3 := Nat.mod_lt a (Nat.pos_of_ne_zero hn)
    have h4 := Nat.mod_lt b (Nat.pos_of_ne_zero hn)
    rcases Nat.lt_trichotomy (a / n) (b / n) with h | h | h
    · have h5 : n * (a / n + 1) ≤ n * (b / n) := Nat.mul_le_mul_left _ h
      rw [Nat.mul_add, Nat.mul_one] at h5
      omega
    · rw [h] at h1
      omega
    · have h5 : n * (b / n + 1) ≤ n * (a / n) := Nat.mul_le_mul_left _ h
      rw [Nat.mul_add, Nat.mul_one] at h5
      omega
set_option maxRecDepth 100000 in
theorem dm_eq2 (n : Nat) {a b : Nat} : a = b ↔ a / n = b / n ∧ a % n = b % n := by
  constructor
  · rintro rfl
    exact ⟨rfl, rfl⟩
  · rintro ⟨h1, h2⟩
    rw [← Nat.div_add_mod a n, ← Nat.div_add_mod b n, h1, h2]
set_option maxRecDepth 100000 in
theorem TX_LX : TX n t t2 ↔ LX n (fun l => t l / (σ 1 5)) (fun l => t l % (σ 1 5)) (fun l => t2 l / (σ 1 5)) (fun l => t2 l % (σ 1 5)) := by
  constructor
  · rintro ⟨k, hk, h1, h2⟩
    exact ⟨k, hk, fun l hl => (dm_eq2 (σ 1 5)).mp (h1 l hl), (dm_lt2 (σ 1 5) _ _).mp h2⟩
  · rintro ⟨k, hk, h1, h2⟩
    exact ⟨k, hk, fun l hl => (dm_eq2 (σ 1 5)).mpr (h1 l hl), (dm_lt2 (σ 1 5) _ _).mpr h2⟩
-- the smallest of the good timetables is one
set_option maxRecDepth 100000 in
theorem sm_u2 {P : (Nat → Nat) → (Nat → Nat) → Prop} (hP : ∀ s r s2 r2, AG n s r s2 r2 → P s r → P s2 r2) (h1 : P s r) (h2 : ∀ s2 r2, P s2 r2 → ¬ LX n s2 r2 s r) (h3 : P s2 r2) (h4 : ∀ s r, P s r → ¬ LX n s r s2 r2) : AG n s r s2 r2 := LX_tri (h4 _ _ h1) (h2 _ _ h3)
end Wyg
