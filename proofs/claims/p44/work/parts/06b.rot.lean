/-! THE PLACES TURNED ROUND: the cell that was made first goes behind the class's 62 cells -/
theorem ab_rl_get {α : Type} (l : List α) (h : 63 ≤ l.length) (k : Nat) : (ab_rl l)[ab_rp k]? = l[k]? := by
  unfold ab_rl ab_rp
  have h1 : ((l.drop 1).take 62).length = 62 := by
    rw [List.length_take, List.length_drop]
    omega
  have h2 : (l.take 1).length = 1 := by
    rw [List.length_take]
    omega
  by_cases h0 : k = 0
  · subst h0
    rw [if_pos rfl, List.getElem?_append_right (by omega), h1, List.getElem?_append_left (by omega), List.getElem?_take_of_lt (by omega)]
  · rw [if_neg h0]
    by_cases h3 : k ≤ 62
    · rw [if_pos h3, List.getElem?_append_left (by omega), List.getElem?_take_of_lt (by omega), List.getElem?_drop]
      congr 1
      omega
    · rw [if_neg h3, List.getElem?_append_right (by omega), h1, List.getElem?_append_right (by omega), h2, List.getElem?_drop]
      congr 1
      omega
def ab_ri (k : Nat) : Nat := if k < 62 then k + 1 else if k = 62 then 0 else k
theorem ab_rp_ri (k : Nat) : ab_rp (ab_ri k) = k := by
  unfold ab_rp ab_ri
  by_cases h : k < 62
  · rw [if_pos h, if_neg (by omega), if_pos (by omega)]
    omega
  · rw [if_neg h]
    by_cases h2 : k = 62
    · rw [if_pos h2, if_pos rfl, h2]
    · rw [if_neg h2, if_neg (by omega), if_neg (by omega)]
theorem ab_ri_inj {i j : Nat} (h : ab_ri i = ab_ri j) : i = j := by rw [← ab_rp_ri i, h, ab_rp_ri]
theorem ab_rl_geti {α : Type} (l : List α) (h : 63 ≤ l.length) (k : Nat) : (ab_rl l)[k]? = l[ab_ri k]? := by
  have := ab_rl_get l h (ab_ri k)
  rwa [ab_rp_ri] at this
theorem ab_rl_len {α : Type} (l : List α) (h : 63 ≤ l.length) : (ab_rl l).length = l.length := by
  unfold ab_rl
  simp only [List.length_append, List.length_take, List.length_drop]
  omega
theorem ab_rv_v {fa : Nat → Nat} {ρ : List Nat} {v w : Value} (hρ : 63 ≤ ρ.length) (h : ab_v fa ρ v w) : ab_v fa (ab_rl ρ) (ab_rv v) w := by
  cases v with
  | ref k =>
    obtain ⟨a, h1, h2⟩ := h
    exact ⟨a, by rw [ab_rl_get ρ hρ]; exact h1, h2⟩
  | _ => exact h
theorem ab_rv_live (v : Value) : ab_live (ab_rv v) = ab_live v := by cases v <;> rfl
theorem ab_ro_gh (o : ab_O) : ab_gh (ab_ro o) = ab_gh o := by
  match o with
  | .inl (ci, fs) =>
    show ab_gh (.inl (ci, fs.map ab_rv)) = ab_gh (.inl (ci, fs))
    by_cases h : ci = 99
    · subst h
      rfl
    · unfold ab_gh
      split
      · rename_i q
        cases q
        exact absurd rfl h
      · split
        · rename_i q
          cases q
          exact absurd rfl h
        · rfl
  | .inr (.inl _) => rfl
  | .inr (.inr (.inl _)) => rfl
  | .inr (.inr (.inr (.inl _))) => rfl
  | .inr (.inr (.inr (.inr _))) => rfl
theorem ab_ro_sz (o : ab_O) : ab_osz (ab_ro o) = ab_osz o := by
  match o with
  | .inl (ci, fs) => simp [ab_ro, ab_osz]
  | .inr (.inl _) => rfl
  | .inr (.inr (.inl _)) => rfl
  | .inr (.inr (.inr (.inl _))) => rfl
  | .inr (.inr (.inr (.inr _))) => simp [ab_ro, ab_osz]
theorem ab_rot_sz (h : ab_H) : ab_hsz ((ab_rl h).map ab_ro) = ab_hsz h := by
  have e : (fun x => ab_osz (ab_ro x)) = ab_osz := funext ab_ro_sz
  unfold ab_hsz
  rw [List.map_map, show (ab_osz ∘ ab_ro) = ab_osz from e]
  cases h with
  | nil => rfl
  | cons a t =>
    have e2 : ab_rl (a :: t) = t.take 62 ++ ([a] ++ t.drop 62) := rfl
    have e3 : (t.map ab_osz).sum = ((t.take 62).map ab_osz).sum + ((t.drop 62).map ab_osz).sum := by
      rw [← List.sum_append, ← List.map_append, List.take_append_drop]
    rw [e2]
    simp only [List.map_append, List.sum_append, List.map_cons, List.map_nil, List.sum_cons, List.sum_nil]
    omega
theorem ab_ro_e {fa : Nat → Nat} {tys : List (ClassId × FieldType)} {ρ : List Nat} {e : va_E} {o : ab_O} (hρ : 63 ≤ ρ.length) (h : ab_e fa tys ρ e o) : ab_e fa tys (ab_rl ρ) e (ab_ro o) := by
  match o, h with
  | .inl (ci, fs), h =>
    obtain ⟨gs, h1, h2, h3⟩ := h
    refine ⟨gs, h1, by simpa using h2, fun k v w q r => ?_⟩
    rw [List.getElem?_map] at q
    obtain ⟨v0, q0, rfl⟩ := Option.map_eq_some_iff.mp q
    obtain ⟨a, b⟩ := h3 k v0 w q0 r
    exact ⟨ab_rv_v hρ a, by rw [ab_rv_live]; exact b⟩
  | .inr (.inl (ty, l)), h => exact h
  | .inr (.inr (.inl l)), h => exact h
  | .inr (.inr (.inr (.inl l))), h => exact h
  | .inr (.inr (.inr (.inr l))), h =>
    obtain ⟨cA, f, t0, h1, h2, h3⟩ := h
    refine ⟨cA, f, t0, by simpa using h1, fun j x q => ?_, h3⟩
    rw [List.getElem?_map] at q
    obtain ⟨x0, q0, rfl⟩ := Option.map_eq_some_iff.mp q
    have := ab_rv_v hρ (h2 j x0 q0)
    cases x0 <;> exact this
theorem ab_rot_wd {D : va_G} {A : Nat → Prop} {s : State} {fa : Nat → Nat} {ρ : List Nat} {h : ab_H} {H : Heap} (h63 : 63 ≤ h.length) (hw : ab_Wd D A s fa ρ h H) : ab_Wd D A s fa (ab_rl ρ) ((ab_rl h).map ab_ro) H := by
  obtain ⟨ws, tys, ps, hK, hP, hD, e1, e2, e3⟩ := hw
  have hρ : 63 ≤ ρ.length := by omega
  have hget : ∀ k : Nat, ((ab_rl h).map ab_ro)[k]? = (h[ab_ri k]?).map ab_ro := fun k => by
    rw [List.getElem?_map, ab_rl_geti h h63]
  refine ⟨ws, tys, fun k => ps (ab_ri k), hK, hP, hD, by rw [List.length_map, ab_rl_len h h63, ab_rl_len ρ hρ]; exact e1, fun i j o o1 hi hj g g1 hps => ?_, fun k o hk hg => ?_⟩
  · rw [hget] at hi hj
    obtain ⟨o0, hi2, e7⟩ := Option.map_eq_some_iff.mp hi
    obtain ⟨o2, hj2, e8⟩ := Option.map_eq_some_iff.mp hj
    subst e7
    subst e8
    rw [ab_ro_gh] at g g1
    exact ab_ri_inj (e2 _ _ _ _ hi2 hj2 g g1 hps)
  · rw [hget] at hk
    obtain ⟨o0, hk2, e7⟩ := Option.map_eq_some_iff.mp hk
    subst e7
    rw [ab_ro_gh] at hg
    obtain ⟨a, e, a1, a2, a3⟩ := e3 _ _ hk2 hg
    exact ⟨a, e, by rw [ab_rl_geti ρ hρ]; exact a1, a2, ab_ro_e hρ a3⟩
theorem ab_rot_L {fa : Nat → Nat} {ρ : List Nat} {nL : Nat} {L : List Value} {ls : Array Slot} (hρ : 63 ≤ ρ.length) (h : ab_L fa ρ nL L ls) : ab_L fa (ab_rl ρ) nL (L.map ab_rv) ls := by
  obtain ⟨lv, h1, h2, h3⟩ := h
  refine ⟨lv, h1, by simpa using h2, fun i v q r => ?_⟩
  rw [List.getElem?_map] at q
  obtain ⟨v0, q0, rfl⟩ := Option.map_eq_some_iff.mp q
  rw [ab_rv_live] at r
  obtain ⟨w, a, b⟩ := h3 i v0 q0 r
  exact ⟨w, a, ab_rv_v hρ b⟩
theorem ab_rot_T {fa : Nat → Nat} {ρ : List Nat} (hρ : 63 ≤ ρ.length) : ∀ {S st : List Value}, ab_Ts fa ρ S st → ab_Ts fa (ab_rl ρ) (S.map ab_rv) st
  | [], [], _ => trivial
  | [], _ :: _, h => h.elim
  | _ :: _, [], h => h.elim
  | v :: S, w :: st, h => ⟨⟨ab_rv_v hρ h.1.1, by rw [ab_rv_live]; exact h.1.2⟩, ab_rot_T hρ h.2⟩
theorem ab_rot_pt {D : va_G} {A : Nat → Prop} {s : State} {fa : Nat → Nat} {nL hb sb : Nat} {S : ab_S} {ρ : List Nat} {H : Heap} {locs : List Loc} {ls : Array Slot} {st : List Value} {cells slots : Nat} (h63 : 63 ≤ S.2.2.length) (hp : ab_Pt D A s fa [] nL hb sb S ρ H locs ls st cells slots) : ab_Pt D A s fa [] nL hb sb (ab_rot S) (ab_rl ρ) H locs ls st cells slots := by
  obtain ⟨h1, h2, -, h4, h5, h6, h7⟩ := hp
  have hρ : 63 ≤ ρ.length := by
    obtain ⟨ws, tys, ps, -, -, -, e1, -⟩ := h1
    omega
  refine ⟨ab_rot_wd h63 h1, h2, ⟨_, rfl⟩, ab_rot_L hρ h4, ab_rot_T hρ h5, ?_, ?_⟩
  · show hb + cells = ((ab_rl S.2.2).map ab_ro).length
    rw [List.length_map, ab_rl_len _ h63]
    exact h6
  · show sb + slots = ab_hsz ((ab_rl S.2.2).map ab_ro)
    rw [ab_rot_sz]
    exact h7
