/-! THE LAW: place, image, restore, print -/
section Lwf
variable {xs : List Int32} {d n k i j p p1 p2 p3 v v2 w m L : Nat} {σ σ2 τ M M2 : Nat → Nat → Nat} {μ μ2 : Nat → Nat} {ν ν2 : Nat → Value} {R R2 T Q Q2 : ab_H} {a a2 : Int64} {b b2 : UInt64} {y6 y7 y8 : Value} {f g s r : Nat → Nat} {o o2 : ab_O}
set_option maxRecDepth 100000 in
theorem hsz_set : ∀ (R : ab_H) (i : Nat), R[i]? = some o → ab_osz o2 = ab_osz o → ab_hsz (R.set i o2) = ab_hsz R := by
  intro R
  induction R with
  | nil => intro i h; cases h
  | cons x R ih =>
    intro i h he
    cases i with
    | zero =>
      have e : x = o := by
        have : some x = some o := h
        injection this
      have h1 : ab_hsz (o2 :: R) = ab_osz o2 + ab_hsz R := hsz_a (A := [o2]) (B := R) |>.trans (by rw [hsz_1])
      have h2 : ab_hsz (x :: R) = ab_osz x + ab_hsz R := hsz_a (A := [x]) (B := R) |>.trans (by rw [hsz_1])
      show ab_hsz (o2 :: R) = _
      rw [h1, h2, he, e]
    | succ i =>
      have h1 : ab_hsz (x :: R.set i o2) = ab_osz x + ab_hsz (R.set i o2) := hsz_a (A := [x]) (B := R.set i o2) |>.trans (by rw [hsz_1])
      have h2 : ab_hsz (x :: R) = ab_osz x + ab_hsz R := hsz_a (A := [x]) (B := R) |>.trans (by rw [hsz_1])
      show ab_hsz (x :: R.set i o2) = _
      rw [h1, h2, ih i h he]
set_option maxRecDepth 100000 in
theorem QH_set (h : (QH a b R)[i]? = some (oI (ar L f))) : ∃ R2, (∀ a b, (QH a b R).set i (oI (ar L g)) = QH a b R2) ∧ R2.length = R.length ∧ ab_hsz R2 = ab_hsz R ∧ (QH 0 0 R2)[i]? = some (oI (ar L g)) ∧ ∀ j, j ≠ i → (QH 0 0 R2)[j]? = (QH 0 0 R)[j]? := by
  match i, h with
  | 0, h =>
    have h1 : some (oI []) = some (oI (ar L f)) := h
    have h2 : ([] : List Int32) = ar L f := by
      injection h1 with h1
      injection h1 with h1
      injection h1 with h1
      injection h1
    have h3 : L = 0 := by
      have := congrArg List.length h2
      rw [ar_len] at this
      exact this.symm
    subst h3
    exact ⟨R, fun _ _ => rfl, rfl, rfl, rfl, fun _ _ => rfl⟩
  | 1, h => cases h
  | 2, h => cases h
  | (i + 3), h =>
    have h1 : R[i]? = some (oI (ar L f)) := h
    obtain ⟨h2, -⟩ := List.getElem?_eq_some_iff.mp h1
    refine ⟨R.set i (oI (ar L g)), fun _ _ => rfl, List.length_set, hsz_set R i h1 ?_, List.getElem?_set_self h2, fun j hj => ?_⟩
    · show (ar L g).length = (ar L f).length
      rw [ar_len, ar_len]
    · match j with
      | 0 => rfl
      | 1 => rfl
      | 2 => rfl
      | (j + 3) => exact List.getElem?_set_ne (by omega)
-- the most general step
set_option maxRecDepth 100000 in
theorem LST_g (h : LST n σ M ν R) (O2 : Ok σ2) (hC2 : CIv σ2 M2) (q0 : M2 0 = M 0) (q15 : M2 15 = M 15) (q16 : M2 16 = M 16) (q17 : M2 17 = M 17) (q61 : M2 61 = M 61) (q1 : M2 1 8 ≤ n + 1) (hν1 : ν2 1 = ν 1) (hν2 : ν2 2 = ν 2) (hp : PRS σ2 M2 ν2 (QH 0 0 R2)) (hk : ∀ (j : Nat) x, (ν 1 = .ref (72 + j) ∨ ν 2 = .ref (72 + j)) → (QH 0 0 R)[j]? = some (oI x) → (QH 0 0 R2)[j]? = some (oI x)) (hD : ∀ p, ν2 0 = .ref p → ν 1 ≠ .ref p ∧ ν 2 ≠ .ref p) (hlen : R2.length ≤ 268 * (n + 1)) (hsz : ab_hsz R2 ≤ 7000 * (n + 1)) : LST (n + 1) σ2 M2 ν2 R2 := by
  obtain ⟨⟨h1, h2, h3, h4, ⟨h5, h6, o, h7, h8⟩, h9⟩, h10, h11, h12⟩ := h
  refine ⟨⟨O2, hC2, hp, ?_, ?_, fun p hpp => ?_⟩, q1, hlen, hsz⟩
  · unfold IMG
    rw [q15, q16, q17, hν1]
    rcases h4 with h | ⟨g1, g2, g3, i, g4, g5⟩
    · exact .inl h
    · exact .inr ⟨g1, g2, g3, i, g4, hk i _ (.inl g4) g5⟩
  · unfold OUP
    rw [q0, q61, hν2]
    exact ⟨h5, h6, o, h7, hk o _ (.inr h7) h8⟩
  · rw [hν1, hν2]
    exact hD p hpp
set_option maxRecDepth 100000 in
theorem up_o {N : Nat → Nat → Nat} {x c y z : Nat} (h : x ≠ c) (hN : N x = M x) : up N c y z x = M x := (up_n h).trans hN
set_option maxRecDepth 100000 in
theorem ur_o {N : Nat → Nat → Nat} {x c : Nat} (h : x ≠ c) (hN : N x = M x) : ur N c f x = M x := (ur_n h).trans hN
set_option maxRecDepth 100000 in
theorem CIv_t (h : CIv σ M) (hf : Fr [12, 13, 14, 15, 16, 17, 0, 61] M M2) : CIv σ M2 := CIv_g h (hf 1 rfl) (hf 19 rfl) (hf 24 rfl) (hf 25 rfl) (hf 32 rfl) (hf 37 rfl) (hf 38 rfl) (hf 40 rfl) (hf 41 rfl) (hf 54 rfl) (by rw [hf 53 rfl]; exact h.2.2.2)
set_option maxRecDepth 100000 in
theorem S_11 (h : LST n σ M ν R) (hi : i < 2000000) (hx1 : xs[i + 1]? = some (nI p1)) (hp1 : p1 < 4294967296) (hx2 : xs[i + 2]? = some (nI p2)) (hp2 : p2 < 4294967296) (hx3 : xs[i + 3]? = some (nI p3)) (hp3 : p3 < 4294967296) : SR xs d 102 i n σ M μ ν a b R y6 y7 y8 := by
  obtain ⟨O, hC', hp, -, -, hD⟩ := h.1
  by_cases hl : p1 < (σ 1 6) ∧ p2 < (σ 1 2) ∧ p3 < (σ 1 5)
  · obtain ⟨l1, l2, l3⟩ := hl
    have bd : ∀ s r : Nat → Nat, (∀ l, l < (σ 1 6) → s l < (σ 1 2) ∧ r l < (σ 1 5)) → ∀ l, l < (σ 1 6) → u1 s p1 p2 l < (σ 1 2) ∧ u1 r p1 p3 l < (σ 1 5) := fun s r hb l hl => by
      by_cases e : l = p1
      · rw [e, u1_s, u1_s]
        exact ⟨l2, l3⟩
      · rw [u1_n e, u1_n e]
        exact hb l hl
    rcases hp with ⟨h12, hν⟩ | ⟨h12, h121, hb, j, hν, hj⟩
    · have e1 := l_289 (xs := xs) (d := d + 28) (s_133n (d := d + 26) (M := M) (R := mc σ μ ν ++ QH a b R) O l1 l2 l3 h12)
      have e2 := m_236n (xs := xs) (d := d + 27) (τ := σ) (M := up (up (beg σ M) 13 p1 p2) 14 p1 p3) (μ := μ) (Q := QH (nI 4294967295).toInt64 b R) O l1 l2 l3 hν
      have hF : Fr [12, 13, 14] M (up (up (beg σ M) 13 p1 p2) 14 p1 p3) := Fr_p (Fr_p (Fr_u (Fr_u (Fr_p (Fr_p (Fr_r _ _) rfl) rfl) rfl) rfl) rfl) rfl
      have hF2 : Fr [12, 13, 14, 15, 16, 17, 0, 61] M (up (up (beg σ M) 13 p1 p2) 14 p1 p3) := Fr_w hF fun a ha => by simp at ha ⊢; omega
      have r13 : up (up (beg σ M) 13 p1 p2) 14 p1 p3 13 = u1 (fun _ => 0) p1 p2 := rfl
      have r14 : up (up (beg σ M) 13 p1 p2) 14 p1 p3 14 = u1 (fun _ => 0) p1 p3 := rfl
      have hO := Ok_b O
      refine ⟨_, _, _, _, _, _, _, _, _, _, c_11 (d := d + 29) hi hx1 hx2 hx3 e1 e2 (u1_s _ _ _) (by decide) (fun _ => rfl), LST_m h (CIv_t hC' hF2) (Fr_PB0 hF rfl) (if_neg (by decide)) (if_neg (by decide)) (.inr ⟨rfl, rfl, ?_, R.length + 3, if_pos rfl, ?_⟩) (fun j hj => .inr ?_) (GT_w (GT_1 (a := 6) hO.2.2.2.2.2.2.2.2.1) (by decide) (by decide))⟩
      · rw [r13, r14]
        exact bd _ _ fun l hl => ⟨by show 0 < (σ 1 2); omega, by show 0 < (σ 1 5); omega⟩
      · exact gt_last (B := R)
      · have h9 : uv ν 0 (.ref (72 + (QH (nI 4294967295).toInt64 b R).length)) 0 = .ref (72 + (R.length + 3)) := if_pos rfl
        rw [h9] at hj
        have g6 : 72 + (R.length + 3) = 72 + j := ref_i hj
        omega
    · have e1 := l_289 (xs := xs) (d := d + 28) (s_133 (d := d + 26) (M := M) (R := mc σ μ ν ++ QH a b R) O l1 l2 l3 h12)
      have e2 := m_236 (xs := xs) (d := d + 27) (τ := σ) (M := up (up M 13 p1 p2) 14 p1 p3) (μ := μ) (Q := QH (nI (10 * M 13 p1 + M 14 p1)).toInt64 b R) O l1 l2 l3 hν (QH_i hj) hb
      obtain ⟨R2, z1, z2, z3, z4, z5⟩ := QH_set (g := tv σ (u1 (M 13) p1 p2) (u1 (M 14) p1 p3)) hj
      rw [z1] at e2
      have hF : Fr [12, 13, 14] M (up (up M 13 p1 p2) 14 p1 p3) := Fr_p (Fr_p (Fr_r _ _) rfl) rfl
      have hF2 : Fr [12, 13, 14, 15, 16, 17, 0, 61] M (up (up M 13 p1 p2) 14 p1 p3) := Fr_w hF fun a ha => by simp at ha ⊢; omega
      have r12 : up (up M 13 p1 p2) 14 p1 p3 12 = M 12 := rfl
      have hh := h.2
      refine ⟨_, _, _, _, _, _, _, _, _, _, c_11 (d := d + 29) hi hx1 hx2 hx3 e1 e2 (u1_s _ _ _) (by decide) (fun _ => rfl), LST_g h O (CIv_t hC' hF2) (hF 0 rfl) (hF 15 rfl) (hF 16 rfl) (hF 17 rfl) (hF 61 rfl) ?_ rfl rfl (.inr ⟨by rw [r12]; exact h12, by rw [r12]; exact h121, bd _ _ hb, j, hν, z4⟩) (fun j2 x h1 h2 => ?_) hD (by rw [z2]; omega) (by rw [z3]; omega)⟩
      · show M 1 8 ≤ n + 1
        omega
      · rw [z5 j2 fun z => ?_]
        · exact h2
        · rw [z] at h1
          rcases h1 with h1 | h1
          · exact (hD _ hν).1 h1
          · exact (hD _ hν).2 h1
  · have e1 := l_289x2 (xs := xs) (d := d + 28) (s_133x (d := d + 27) (M := M) (R := mc σ μ ν ++ QH a b R) O hp1 hp2 hp3 hl)
    have e2 := m_236x (xs := xs) (d := d + 27) (τ := σ) (M := M) (μ := μ) (ν := ν) (Q := QH a b (R ++ [ex9])) O hp1 hp2 hp3 hl
    exact ⟨_, _, _, _, _, _, _, _, _, _, c_11 (d := d + 29) hi hx1 hx2 hx3 e1 e2 (u1_s _ _ _) (by decide) (fun z => by cases z), LST_x h⟩
end Lwf
