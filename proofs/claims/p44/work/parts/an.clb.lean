/-! THE CLASS ITSELF: searches -/
abbrev PBL : List Nat := [0, 1, 15, 16, 17, 61]
/-- what calls show, but for the present timetable -/
def PB0 (M N : Nat → Nat → Nat) : Prop := ∀ b, PBL.contains b = true → N b = M b
def PB (M N : Nat → Nat → Nat) : Prop := PB0 M N ∧ N 12 = M 12 ∧ N 13 = M 13 ∧ N 14 = M 14
/-- what holds inside between calls -/
def CIv (σ M : Nat → Nat → Nat) : Prop := VI σ M ∧ RV σ M ∧ M 54 10 < 2 ∧ ∀ j, M 53 j < 4294967296
/-- what a search for the cheapest has made of the present timetable -/
def OUT (σ N M' : Nat → Nat → Nat) (v : Nat) (G : (Nat → Nat) → (Nat → Nat) → Prop) (cst : (Nat → Nat) → (Nat → Nat) → Nat) : Prop :=
  (v = 4294967295 ∧ M' 12 = N 12 ∧ M' 13 = N 13 ∧ M' 14 = N 14 ∧ ∀ s r, ¬ G s r) ∨ (v ≤ 100000 ∧ M' 12 0 = 1 ∧ M' 12 1 = (σ 1 6) ∧ G (M' 13) (M' 14) ∧ cst (M' 13) (M' 14) = v ∧ (∀ s r, G s r → v ≤ cst s r) ∧ ∀ s r, G s r → cst s r = v → ¬ LX (σ 1 6) s r (M' 13) (M' 14))
section Clb
variable {xs : List Int32} {σ M N K : Nat → Nat → Nat} {R : ab_H} {d e k a b c u i n m l x y v set g : Nat} {s r s0 r0 : Nat → Nat} {A B : List Nat} {G : (Nat → Nat) → (Nat → Nat) → Prop} {cst : (Nat → Nat) → (Nat → Nat) → Nat} {Wf : Nat → Nat → Nat → Nat}
set_option maxRecDepth 100000 in
theorem Fr_PB0 (h : Fr A M N) (hA : (PBL.all fun b => !A.contains b) = true) : PB0 M N := fun b hb => h b (by
  have := List.all_eq_true.mp hA b (by
    have := List.contains_iff_mem.mp hb
    exact this)
  simpa using this)
set_option maxRecDepth 100000 in
theorem Fr_PB (h : Fr A M N) (hA : ((12 :: 13 :: 14 :: PBL).all fun b => !A.contains b) = true) : PB M N := by
  have h2 : ∀ b, b ∈ (12 :: 13 :: 14 :: PBL) → N b = M b := fun b hb => h b (by
    have := List.all_eq_true.mp hA b hb
    simpa using this)
  exact ⟨fun b hb => h2 b (List.mem_cons_of_mem _ (List.mem_cons_of_mem _ (List.mem_cons_of_mem _ (List.contains_iff_mem.mp hb)))), h2 12 (by simp), h2 13 (by simp), h2 14 (by simp)⟩
set_option maxRecDepth 100000 in
theorem PB0_r : PB0 M M := fun _ _ => rfl
set_option maxRecDepth 100000 in
theorem PB_r : PB M M := ⟨PB0_r, rfl, rfl, rfl⟩
set_option maxRecDepth 100000 in
theorem CIv_m (h : CIv σ M) (hK : KI σ N) (h1 : N 1 = M 1) (h37 : N 37 = M 37) (h38 : N 38 = M 38) (h40 : N 40 = M 40) (h41 : N 41 = M 41) (h54 : N 54 = M 54) (h53 : N 53 = M 53) : CIv σ N := by
  obtain ⟨c1, c2, c3, c4⟩ := h
  unfold CIv VI RV at *
  rw [h1, h37, h38, h40, h41, h54, h53]
  exact ⟨⟨hK, c1.2⟩, ⟨hK, c2.2⟩, c3, c4⟩
set_option maxRecDepth 100000 in
theorem KI_l (f : Fr LSS N M) (h : ∀ j, M 32 j < 64) (hK : KI σ N) : KI σ M := ⟨by rw [f 1 rfl]; exact hK.1, by rw [f 19 rfl, f 1 rfl]; exact hK.2.1, fun z => GO_fr (f 24 rfl) (f 25 rfl) (f 19 rfl) (hK.2.2.1 (by rw [f 19 rfl, f 1 rfl] at z; exact z)), h⟩
set_option maxRecDepth 100000 in
theorem QA_c2 (h20 : N 20 = M 20) (h21 : N 21 = M 21) (h22 : N 22 = M 22) (h23 : N 23 = M 23) : QA σ N s r ↔ QA σ M s r := by
  unfold QA DLm
  rw [h20, h21, h22, h23]
set_option maxRecDepth 100000 in
theorem QW_cost (hW : QW σ N) (f : Fr [19, 26, 27] N M) (h19 : M 19 = u1 (N 19) 10 g) (hg : g = 1 ∨ g = 2) (h26 : ∀ j, M 26 j ≤ 27) (hC : CW σ M Wf (σ 1 6)) : QW σ M := by
  obtain ⟨w1, w2, w3, w4, w5, w6, w7, w8, w9, w10⟩ := hW
  have e9 : M 19 9 = N 19 9 := by rw [h19, u1_n (by decide)]
  have e10 : M 19 10 = g := by rw [h19, u1_s]
  unfold QW
  rw [f 20 rfl, f 21 rfl, f 22 rfl, f 23 rfl, f 25 rfl, e9, e10]
  exact ⟨w1, w2, w3, w4, w5, w6, by omega, h26, fun l hl => (hC l hl).2, fun z => by omega⟩
set_option maxRecDepth 100000 in
theorem QC_cost (h19 : M 19 10 = g) (hg : g = 1 ∨ g = 2) (hC : CW σ M Wf (σ 1 6)) (hb : ∀ l, l < (σ 1 6) → s l < (σ 1 2) ∧ r l < (σ 1 5)) : QC σ M s r = sm (σ 1 6) (fun l => Wf l (s l) (r l)) + if g = 1 then σ 11 2 * sm (σ 1 4) (fun t => gap σ (ctc σ s t)) else 0 := by
  unfold QC gco
  rw [h19, sm_cg (n := (σ 1 6)) (g := fun l => Wf l (s l) (r l)) fun l hl => (hC l hl).1 _ (hb l hl).1 _ (hb l hl).2]
  congr 1
  rcases hg with hg | hg
  · rw [if_pos hg, if_pos hg]
  · rw [if_neg (by omega), if_neg (by omega), if_neg (by omega)]
set_option maxRecDepth 100000 in
theorem wt_ml : wt σ s r = sm (σ 1 6) (fun l => wv σ l (s l) (r l)) + σ 11 2 * sm (σ 1 4) (fun t => gap σ (ctc σ s t)) := by
  unfold wt
  rw [sm_ml]
set_option maxRecDepth 100000 in
theorem dif_wch : dif n s r s0 r0 = sm n fun l => wch s0 r0 l (s l) (r l) := by
  unfold dif
  refine sm_cg fun l _ => ?_
  unfold wch
  by_cases h1 : s l = s0 l
  · by_cases h2 : r l = r0 l
    · rw [if_pos ⟨h1, h2⟩, decide_eq_false (fun z => z h1), decide_eq_false (fun z => z h2)]
      rfl
    · rw [if_neg (fun z => h2 z.2), decide_eq_true h2, Bool.or_true]
      rfl
  · rw [if_neg (fun z => h1 z.1), decide_eq_true h1, Bool.true_or]
    rfl
set_option maxRecDepth 100000 in
theorem shr_p (hL : (σ 1 6) ≤ 6) (hT : (σ 1 4) ≤ 4) : (sm (σ 1 4) fun t => 5 ^ shr σ s t) ≤ 62500 := by
  have h1 := sm_le (n := (σ 1 4)) (c := 15625) (f := fun t => 5 ^ shr σ s t) fun t _ => by
    have h2 : shr σ s t ≤ (σ 1 6) := by
      have := sm_le (n := (σ 1 6)) (c := 1) (f := fun l => b1 (decide (σ 6 l = t) && decide (cov σ l (s l) &&& lh σ ≠ 0))) fun i _ => Nat.le_of_lt_succ (b1_lt _)
      unfold shr
      omega
    exact p5_le (show shr σ s t ≤ 6 by omega)
  have h3 : (σ 1 4) * 15625 ≤ 4 * 15625 := Nat.mul_le_mul_right _ hT
  omega
-- the cheapest, made the present one
set_option maxRecDepth 100000 in
theorem s_take (O : Ok σ) (hW : QW σ N) (hK : KI σ N) (hG : ∀ s r, QA σ N s r ↔ G s r) (hQ' : ∀ s r, G s r → QC σ N s r = cst s r) (hub : ∀ s r, G s r → cst s r ≤ 100000) : ∃ K M' v, ev xs (e + 21) 75 0 ([.ref 28, .retAddr 9], [], hc σ N R) = some (.inl (some (.int (nI (v)))), hc σ K R) ∧ (∀ e, ev xs (e + 1) 163 0 ([.ref 0, .int (nI v)], [], hc σ K R) = some (.inl (some (.int (nI (b1 (decide (v ≠ 4294967295)))))), hc σ M' R)) ∧ Fr (12 :: 13 :: 14 :: LSS) N M' ∧ KI σ M' ∧ OUT σ N M' v G cst := by
  obtain ⟨K, v, e1, f1, f2, f3⟩ := s_75 (xs := xs) (e := e) (M := N) (R := R) O hW hK.2.2.2 fun s r h => by
    have := (hG s r).mp h
    rw [hQ' s r this]
    exact hub s r this
  have kI := KI_l f1 f2 hK
  rcases f3 with ⟨z1, z2, z3, z4, z5⟩ | ⟨z1, z2, z3, z4, z5, z6, z7⟩
  · refine ⟨K, K, v, e1, fun e => ?_, Fr_w f1 fun a ha => by simp at ha ⊢; omega, kI, .inl ⟨z1, f1 12 rfl, f1 13 rfl, f1 14 rfl, fun s r h => z5 s r ((hG s r).mpr h)⟩⟩
    rw [z1, decide_eq_false (fun z => z rfl)]
    exact s_163n
  · have hv : v ≠ 4294967295 := by omega
    have c13 : cpt K 12 29 13 = K 30 := by
      unfold cpt
      rw [ur_n (by decide), ur_s]
    have c14 : cpt K 12 29 14 = K 31 := by
      unfold cpt
      rw [ur_s]
    have c120 : cpt K 12 29 12 0 = 1 := by
      unfold cpt
      rw [ur_n (by decide), ur_n (by decide), up_s, u1_n (by decide), up_s, u1_s]
      exact z4
    have c121 : cpt K 12 29 12 1 = (σ 1 6) := by
      unfold cpt
      rw [ur_n (by decide), ur_n (by decide), up_s, u1_s]
      exact z5
    have cf : ∀ b, b ≠ 12 → b ≠ 13 → b ≠ 14 → cpt K 12 29 b = K b := fun b h1 h2 h3 => by
      unfold cpt
      rw [ur_n h3, ur_n h2, up_n h1, up_n h1]
    have g2 := (hG _ _).mp z2
    refine ⟨K, cpt K 12 29, v, e1, fun e => ?_, ?_, KI_fr (cf 1 (by decide) (by decide) (by decide)) (cf 19 (by decide) (by decide) (by decide)) (cf 24 (by decide) (by decide) (by decide)) (cf 25 (by decide) (by decide) (by decide)) (cf 32 (by decide) (by decide) (by decide)) kI, .inr ⟨z1, c120, c121, by rw [c13, c14]; exact g2, by rw [c13, c14, ← hQ' _ _ g2]; exact z3, fun s r h => by rw [← hQ' s r h]; exact z6 s r ((hG s r).mpr h), fun s r h h2 => by rw [c13, c14]; exact z7 s r ((hG s r).mpr h) (by rw [hQ' s r h]; exact h2)⟩⟩
    · rw [decide_eq_true hv]
      exact s_163 z1 (by rw [z4]; decide)
    · exact Fr_t (Fr_w f1 fun a ha => by simp at ha ⊢; omega) (show Fr (12 :: 13 :: 14 :: LSS) K (cpt K 12 29) from fun b hb => cf b (fun z => by rw [z] at hb; cases hb) (fun z => by rw [z] at hb; cases hb) (fun z => by rw [z] at hb; cases hb))
end Clb
