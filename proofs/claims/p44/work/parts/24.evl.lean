/-! THE ABSTRACT RUN WITHOUT ITS FUEL: ab_ev, its equation -/
theorem el_cases (mt : Nat → Option ab_M) (m : Nat) (hs : List (Nat × Nat)) (t : ab_T) (S : ab_S) : (∃ c : ab_R, ∀ (go : Nat → Nat → Nat → ab_S → ab_R) (d : Nat), ab_term mt go d m hs t S = c) ∨ (∃ (k : Nat) (S' : ab_S), ∀ (go : Nat → Nat → Nat → ab_S → ab_R) (d : Nat), ab_term mt go d m hs t S = go d m k S') ∨ (∀ (go : Nat → Nat → Nat → ab_S → ab_R) (d : Nat), ab_term mt go d m hs t S = ab_call mt go d m hs t S) := by
  obtain ⟨L, T, hh⟩ := S
  unfold ab_term
  split
  all_goals first | exact .inr (.inr fun _ _ => rfl) | skip
  all_goals (repeat' split)
  all_goals first | exact .inr (.inl ⟨_, _, fun _ _ => rfl⟩) | exact .inl ⟨_, fun _ _ => rfl⟩
/-- a call either is stuck whatever comes, or is the callee's run and what follows -/
theorem el_call (mt : Nat → Option ab_M) (m : Nat) (hs : List (Nat × Nat)) (t : ab_T) (S : ab_S) : (∀ (go : Nat → Nat → Nat → ab_S → ab_R) (d : Nat), ab_call mt go d m hs t S = none) ∨ ∃ (m2 : Nat) (S2 : ab_S) (K : (Nat → ab_S → ab_R) → ((Option Value ⊕ Nat) × ab_H) → ab_R), (∀ (go : Nat → Nat → Nat → ab_S → ab_R) (d : Nat), ab_call mt go (d + 1) m hs t S = (go d m2 0 S2).bind (K (go (d + 1) m))) ∧ (∀ (go : Nat → Nat → Nat → ab_S → ab_R), ab_call mt go 0 m hs t S = none) ∧ (∀ q : (Option Value ⊕ Nat) × ab_H, (∃ c : ab_R, ∀ g, K g q = c) ∨ ∃ (k : Nat) (S' : ab_S), ∀ g, K g q = g k S') := by
  cases hM : mt t.2.2.1.1 with
  | none =>
    refine .inl fun go d => ?_
    unfold ab_call
    rw [hM]
  | some M =>
    by_cases hc : t.2.2.1.2.1 ≤ S.2.1.length ∧ t.2.2.1.2.1 ≤ M.1 ∧ ((S.2.1.take t.2.2.1.2.1).all fun v => v.category == 1) = true ∧ ((S.2.1.drop t.2.2.1.2.1).map fun v => v.category).sum ≤ 8 ∧ (200 ≤ t.2.2.1.2.2 ∨ ab_rcv t.2.2.1.2.2 (S.2.1.take t.2.2.1.2.1).reverse S.2.2 = true)
    · refine .inr ⟨t.2.2.1.1, ab_in M.1 (S.2.1.take t.2.2.1.2.1).reverse S.2.2, fun g q => match q with
        | (.inl v, h) => g (ab_at t 0) (S.1, v.toList ++ S.2.1.drop t.2.2.1.2.1, h)
        | (.inr x, h) => if t.2.2.1.2.2 < 50 then
          match hs.find? (fun q => q.1 == x) with
          | some q => g q.2 (S.1, [.retAddr 8], h)
          | none => if hs.isEmpty = true then some (.inr x, h) else none
          else none, ?_, ?_, ?_⟩
      · intro go d
        unfold ab_call
        rw [hM]
        dsimp only
        rw [if_pos hc]
        cases go d t.2.2.1.1 0 (ab_in M.1 (S.2.1.take t.2.2.1.2.1).reverse S.2.2) with
        | none => rfl
        | some q =>
          obtain ⟨r, h⟩ := q
          cases r <;> rfl
      · intro go
        unfold ab_call
        rw [hM]
      · intro q
        obtain ⟨r, h⟩ := q
        cases r with
        | inl v => exact .inr ⟨_, _, fun _ => rfl⟩
        | inr x =>
          dsimp only
          split
          · split
            · exact .inr ⟨_, _, fun _ => rfl⟩
            · exact .inl ⟨_, fun _ => rfl⟩
          · exact .inl ⟨_, fun _ => rfl⟩
    · refine .inl fun go d => ?_
      unfold ab_call
      rw [hM]
      cases d with
      | zero => rfl
      | succ d =>
        dsimp only
        rw [if_neg hc]
theorem el_mono {mt : Nat → Option ab_M} {go go' : Nat → Nat → Nat → ab_S → ab_R} {d d' m : Nat} {hs : List (Nat × Nat)} {t : ab_T} {S : ab_S} {r : (Option Value ⊕ Nat) × ab_H} (hd : d ≤ d') (hg : ∀ (a a' m k : Nat) (S : ab_S) (r : (Option Value ⊕ Nat) × ab_H), a ≤ a' → a ≤ d → go a m k S = some r → go' a' m k S = some r) (h : ab_term mt go d m hs t S = some r) : ab_term mt go' d' m hs t S = some r := by
  rcases el_cases mt m hs t S with ⟨c, hc⟩ | ⟨k, S', hc⟩ | hc
  · rw [hc] at h ⊢
    exact h
  · rw [hc] at h ⊢
    exact hg _ _ _ _ _ _ hd (Nat.le_refl _) h
  · rw [hc] at h ⊢
    rcases el_call mt m hs t S with h0 | ⟨m2, S2, K, h1, h2, h3⟩
    · rw [h0] at h
      cases h
    · cases d with
      | zero =>
        rw [h2] at h
        cases h
      | succ d =>
        obtain ⟨e, rfl⟩ : ∃ e, d' = e + 1 := ⟨d' - 1, by omega⟩
        rw [h1] at h ⊢
        obtain ⟨q, q1, q2⟩ := Option.bind_eq_some_iff.mp h
        rw [hg d e _ _ _ _ (by omega) (by omega) q1]
        show K _ q = some r
        rcases h3 q with ⟨c, hc⟩ | ⟨k, S', hc⟩
        · rw [hc] at q2 ⊢
          exact q2
        · rw [hc] at q2 ⊢
          exact hg _ _ _ _ _ _ hd (Nat.le_refl _) q2
theorem ab_go_mono {mt : Nat → Option ab_M} {fx : Nat → List Int32} : ∀ (n n' d d' m k : Nat) (S : ab_S) (r : (Option Value ⊕ Nat) × ab_H), n ≤ n' → d ≤ d' → ab_go mt fx n d m k S = some r → ab_go mt fx n' d' m k S = some r
  | 0, _, _, _, _, _, _, _, _, _, h => by cases h
  | n + 1, n', d, d', m, k, S, r, hn, hd, h => by
    obtain ⟨e, rfl⟩ : ∃ e, n' = e + 1 := ⟨n' - 1, by omega⟩
    unfold ab_go at h ⊢
    split at h
    · cases h
    · split at h
      · cases h
      · skip
        obtain ⟨S1, h1, h2⟩ := Option.bind_eq_some_iff.mp h
        rw [h1]
        exact el_mono hd (fun a a' m k S r ha _ hh => ab_go_mono n e a a' m k S r (by omega) ha hh) h2
/-- the run's outcome, if some fuel is enough -/
noncomputable def ab_ev (mt : Nat → Option ab_M) (fx : Nat → List Int32) (d m k : Nat) (S : ab_S) : ab_R :=
  @dite ab_R (∃ (r : (Option Value ⊕ Nat) × ab_H) (n : Nat), ab_go mt fx n d m k S = some r) (Classical.propDecidable _) (fun h => some (Classical.choose h)) (fun _ => none)
theorem ab_ev_iff {mt : Nat → Option ab_M} {fx : Nat → List Int32} {d m k : Nat} {S : ab_S} {r : (Option Value ⊕ Nat) × ab_H} : ab_ev mt fx d m k S = some r ↔ ∃ n, ab_go mt fx n d m k S = some r := by
  unfold ab_ev
  by_cases h : ∃ (r : (Option Value ⊕ Nat) × ab_H) (n : Nat), ab_go mt fx n d m k S = some r
  · rw [dif_pos h]
    obtain ⟨n, hn⟩ := Classical.choose_spec h
    constructor
    · intro q
      exact ⟨n, by rw [← q]; exact hn⟩
    · intro ⟨n2, q⟩
      have a := ab_go_mono n (n + n2) d d m k S _ (by omega) (Nat.le_refl _) hn
      have b := ab_go_mono n2 (n + n2) d d m k S _ (by omega) (Nat.le_refl _) q
      rw [← a, b]
  · rw [dif_neg h]
    constructor
    · intro q
      cases q
    · intro ⟨n, q⟩
      exact absurd ⟨r, n, q⟩ h
theorem ab_ev_mono {mt : Nat → Option ab_M} {fx : Nat → List Int32} {d d' m k : Nat} {S : ab_S} {r : (Option Value ⊕ Nat) × ab_H} (hd : d ≤ d') (h : ab_ev mt fx d m k S = some r) : ab_ev mt fx d' m k S = some r := by
  obtain ⟨n, hn⟩ := ab_ev_iff.mp h
  exact ab_ev_iff.mpr ⟨n, ab_go_mono n n d d' m k S r (Nat.le_refl _) hd hn⟩
theorem el_lim {mt : Nat → Option ab_M} {fx : Nat → List Int32} {d m : Nat} {hs : List (Nat × Nat)} {t : ab_T} {S : ab_S} {r : (Option Value ⊕ Nat) × ab_H} (h : ab_term mt (ab_ev mt fx) d m hs t S = some r) : ∃ n, ab_term mt (ab_go mt fx n) d m hs t S = some r := by
  rcases el_cases mt m hs t S with ⟨c, hc⟩ | ⟨k, S', hc⟩ | hc
  · rw [hc] at h
    exact ⟨0, by rw [hc]; exact h⟩
  · rw [hc] at h
    obtain ⟨n, hn⟩ := ab_ev_iff.mp h
    exact ⟨n, by rw [hc]; exact hn⟩
  · rw [hc] at h
    rcases el_call mt m hs t S with h0 | ⟨m2, S2, K, h1, h2, h3⟩
    · rw [h0] at h
      cases h
    · cases d with
      | zero =>
        rw [h2] at h
        cases h
      | succ d =>
        rw [h1] at h
        obtain ⟨q, q1, q2⟩ := Option.bind_eq_some_iff.mp h
        obtain ⟨n1, q1⟩ := ab_ev_iff.mp q1
        rcases h3 q with ⟨c, hk⟩ | ⟨k, S', hk⟩
        · refine ⟨n1, ?_⟩
          rw [hc, h1, q1]
          show K _ q = some r
          rw [hk] at q2 ⊢
          exact q2
        · rw [hk] at q2
          obtain ⟨n2, q2⟩ := ab_ev_iff.mp q2
          refine ⟨n1 + n2, ?_⟩
          rw [hc, h1, ab_go_mono n1 (n1 + n2) _ _ _ _ _ _ (by omega) (Nat.le_refl _) q1]
          show K _ q = some r
          rw [hk]
          exact ab_go_mono n2 (n1 + n2) _ _ _ _ _ _ (by omega) (Nat.le_refl _) q2
theorem ab_ev_eq (mt : Nat → Option ab_M) (fx : Nat → List Int32) (d m k : Nat) (S : ab_S) : ab_ev mt fx d m k S = match mt m with
    | none => none
    | some M => match M.2.2[k]? with
      | none => none
      | some B => (ab_run fx B.2.1 S).bind fun S' => ab_term mt (ab_ev mt fx) d m M.2.1 B.2.2 S' := by
  apply Option.ext
  intro r
  constructor
  · intro h
    obtain ⟨n, hn⟩ := ab_ev_iff.mp h
    cases n with
    | zero => cases hn
    | succ n =>
      unfold ab_go at hn
      split at hn
      · cases hn
      · rename_i M hM
        split at hn
        · cases hn
        · rename_i B hB
          obtain ⟨S1, h1, h2⟩ := Option.bind_eq_some_iff.mp hn
          simp only [hM, hB, h1]
          exact el_mono (Nat.le_refl _) (fun a a' m k S r ha _ hh => ab_ev_mono ha (ab_ev_iff.mpr ⟨n, hh⟩)) h2
  · intro h
    split at h
    · cases h
    · rename_i M hM
      split at h
      · cases h
      · rename_i B hB
        obtain ⟨S1, h1, h2⟩ := Option.bind_eq_some_iff.mp h
        obtain ⟨n, hn⟩ := el_lim h2
        refine ab_ev_iff.mpr ⟨n + 1, ?_⟩
        unfold ab_go
        simp only [hM, hB, h1]
        exact hn
