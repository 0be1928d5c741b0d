/-! HOW AN ABSTRACT POINT STANDS TO THE MACHINE'S: ρ are the addresses of the cells in their order -/
def ab_v (fa : Nat → Nat) (ρ : List Nat) (v w : Value) : Prop := match v with
  | .ref k => ∃ a, ρ[k]? = some a ∧ w = .ref a
  | .retAddr k => ∃ a, w = .ref a ∧ (k < 2 → a = fa k)
  | u => w = u
def ab_live (v : Value) : Bool := match v with
  | .retAddr k => k != 9
  | _ => true
def ab_e (fa : Nat → Nat) (tys : List (ClassId × FieldType)) (ρ : List Nat) (e : va_E) (o : ab_O) : Prop := match o with
  | .inl (ci, fs) => ∃ gs, e = .inr (ci, gs) ∧ gs.length = fs.length ∧ ∀ (k : Nat) (v w : Value), fs[k]? = some v → gs[k]? = some w → ab_v fa ρ v w ∧ ab_live v = true
  | .inr (.inl (ty, l)) => ∃ (cA : ClassId) (f : Nat → Int32) (t0 : Nat), e = .inl (cA, l.length, .inl f) ∧ (∀ (j : Nat) (x : Int32), l[j]? = some x → f j = x) ∧ tys[t0]? = some (cA, ty)
  | .inr (.inr (.inl l)) => ∃ (cA : ClassId) (f : Nat → Int64) (t0 : Nat), e = .inl (cA, l.length, .inr (.inl f)) ∧ (∀ (j : Nat) (x : Int64), l[j]? = some x → f j = x) ∧ tys[t0]? = some (cA, .long)
  | .inr (.inr (.inr (.inl l))) => ∃ (cA : ClassId) (f : Nat → UInt64) (t0 : Nat), e = .inl (cA, l.length, .inr (.inr (.inr (.inl f)))) ∧ (∀ (j : Nat) (x : UInt64), l[j]? = some x → f j = x) ∧ tys[t0]? = some (cA, .double)
  | .inr (.inr (.inr (.inr l))) => ∃ (cA : ClassId) (f : Nat → Option Nat) (t0 : Nat), e = .inl (cA, l.length, .inr (.inr (.inr (.inr f)))) ∧ (∀ (j : Nat) (x : Option Nat), l[j]? = some x → ab_v fa ρ (ab_rf x) (va_rf (f j))) ∧ tys[t0]? = some (cA, .array .int)
def ab_gh (o : ab_O) : Bool := match o with
  | .inl (99, _) => true
  | _ => false
/-- cells that are gone for good (thrown exceptions) are counted, no more -/
def ab_Wd (D : va_G) (A : Nat → Prop) (s : State) (fa : Nat → Nat) (ρ : List Nat) (h : ab_H) (H : Heap) : Prop :=
  ∃ (ws : va_W) (tys : List (ClassId × FieldType)) (ps : Nat → Nat), va_K D ab_cl tys s ∧ va_P D ab_cl ws H ∧ va_D A ws ∧ ρ.length = h.length ∧ (∀ (i j : Nat) (o o1 : ab_O), h[i]? = some o → h[j]? = some o1 → ab_gh o = false → ab_gh o1 = false → ps i = ps j → i = j) ∧
    ∀ (k : Nat) (o : ab_O), h[k]? = some o → ab_gh o = false → ∃ (a : Nat) (e : va_E), ρ[k]? = some a ∧ ws[ps k]? = some (a, e) ∧ ab_e fa tys ρ e o
def ab_L (fa : Nat → Nat) (ρ : List Nat) (nL : Nat) (L : List Value) (ls : Array Slot) : Prop :=
  ∃ lv : List (Nat × Value), lv_has ls nL lv ∧ L.length = nL ∧ ∀ (i : Nat) (v : Value), L[i]? = some v → ab_live v = true → ∃ w, (i, w) ∈ lv ∧ ab_v fa ρ v w
def ab_Ts (fa : Nat → Nat) (ρ : List Nat) : List Value → List Value → Prop
  | [], [] => True
  | v :: vs, w :: ws => (ab_v fa ρ v w ∧ ab_live v = true) ∧ ab_Ts fa ρ vs ws
  | _, _ => False
def ab_Pt (D : va_G) (A : Nat → Prop) (s : State) (fa : Nat → Nat) (ρ0 : List Nat) (nL hb sb : Nat) (S : ab_S) (ρ : List Nat) (H : Heap) (locs : List Loc) (ls : Array Slot) (st : List Value) (cells slots : Nat) : Prop :=
  ab_Wd D A s fa ρ S.2.2 H ∧ va_S A s.heap H locs ∧ (∃ ρ1, ρ = ρ0 ++ ρ1) ∧ ab_L fa ρ nL S.1 ls ∧ ab_Ts fa ρ S.2.1 st ∧ hb + cells = S.2.2.length ∧ sb + slots = ab_hsz S.2.2
theorem ab_v_mono {fa : Nat → Nat} {ρ ρ1 : List Nat} {v w : Value} (h : ab_v fa ρ v w) : ab_v fa (ρ ++ ρ1) v w := by
  cases v with
  | ref k =>
    obtain ⟨a, h1, h2⟩ := h
    exact ⟨a, by rw [List.getElem?_append_left (List.getElem?_eq_some_iff.mp h1).1]; exact h1, h2⟩
  | _ => exact h
theorem ab_e_mono {fa : Nat → Nat} {tys t1 : List (ClassId × FieldType)} {ρ ρ1 : List Nat} {e : va_E} {o : ab_O} (h : ab_e fa tys ρ e o) : ab_e fa (tys ++ t1) (ρ ++ ρ1) e o := by
  have ht : ∀ {t0 : Nat} {x : ClassId × FieldType}, tys[t0]? = some x → (tys ++ t1)[t0]? = some x := fun h1 => by
    rw [List.getElem?_append_left (List.getElem?_eq_some_iff.mp h1).1]; exact h1
  match o, h with
  | .inl (ci, fs), h =>
    obtain ⟨gs, h1, h2, h3⟩ := h
    exact ⟨gs, h1, h2, fun k v w q r => ⟨ab_v_mono (h3 k v w q r).1, (h3 k v w q r).2⟩⟩
  | .inr (.inl (ty, l)), h =>
    obtain ⟨cA, f, t0, h1, h2, h3⟩ := h
    exact ⟨cA, f, t0, h1, h2, ht h3⟩
  | .inr (.inr (.inl l)), h =>
    obtain ⟨cA, f, t0, h1, h2, h3⟩ := h
    exact ⟨cA, f, t0, h1, h2, ht h3⟩
  | .inr (.inr (.inr (.inl l))), h =>
    obtain ⟨cA, f, t0, h1, h2, h3⟩ := h
    exact ⟨cA, f, t0, h1, h2, ht h3⟩
  | .inr (.inr (.inr (.inr l))), h =>
    obtain ⟨cA, f, t0, h1, h2, h3⟩ := h
    exact ⟨cA, f, t0, h1, fun j x q => ab_v_mono (h2 j x q), ht h3⟩
theorem ab_L_mono {fa : Nat → Nat} {ρ ρ1 : List Nat} {nL : Nat} {L : List Value} {ls : Array Slot} (h : ab_L fa ρ nL L ls) : ab_L fa (ρ ++ ρ1) nL L ls := by
  obtain ⟨lv, h1, h2, h3⟩ := h
  refine ⟨lv, h1, h2, fun i v q r => ?_⟩
  obtain ⟨w, a, b⟩ := h3 i v q r
  exact ⟨w, a, ab_v_mono b⟩
theorem ab_Ts_mono {fa : Nat → Nat} {ρ ρ1 : List Nat} : ∀ {S st : List Value}, ab_Ts fa ρ S st → ab_Ts fa (ρ ++ ρ1) S st
  | [], [], _ => trivial
  | [], _ :: _, h => h.elim
  | _ :: _, [], h => h.elim
  | _ :: _, _ :: _, h => ⟨⟨ab_v_mono h.1.1, h.1.2⟩, ab_Ts_mono h.2⟩
theorem ab_Ts_cons {fa : Nat → Nat} {ρ : List Nat} {v : Value} {S st : List Value} (h : ab_Ts fa ρ (v :: S) st) : ∃ w st', st = w :: st' ∧ ab_v fa ρ v w ∧ ab_live v = true ∧ ab_Ts fa ρ S st' := by
  match st, h with
  | w :: st', h => exact ⟨w, st', rfl, h.1.1, h.1.2, h.2⟩
theorem ab_Ts_nil {fa : Nat → Nat} {ρ : List Nat} {st : List Value} (h : ab_Ts fa ρ [] st) : st = [] := by
  match st, h with
  | [], _ => rfl
theorem ab_v_cat {fa : Nat → Nat} {ρ : List Nat} {v w : Value} (h : ab_v fa ρ v w) : w.category = v.category := by
  cases v with
  | ref k => obtain ⟨a, -, rfl⟩ := h; rfl
  | retAddr k => obtain ⟨a, rfl, -⟩ := h; rfl
  | _ => cases h; rfl
theorem ab_Ts_cat {fa : Nat → Nat} {ρ : List Nat} : ∀ {S st : List Value}, ab_Ts fa ρ S st → (st.map fun v => v.category).sum = (S.map fun v => v.category).sum
  | [], [], _ => rfl
  | [], _ :: _, h => h.elim
  | _ :: _, [], h => h.elim
  | _ :: _, _ :: _, h => by simp only [List.map_cons, List.sum_cons]; rw [ab_v_cat h.1.1, ab_Ts_cat h.2]
theorem ab_Ts_len {fa : Nat → Nat} {ρ : List Nat} : ∀ {S st : List Value}, ab_Ts fa ρ S st → st.length = S.length
  | [], [], _ => rfl
  | [], _ :: _, h => h.elim
  | _ :: _, [], h => h.elim
  | _ :: _, _ :: _, h => by simp only [List.length_cons]; rw [ab_Ts_len h.2]
/-- stores: the abstract places behind ab_sto are held by what the kit says of the machine's -/
theorem ab_kil_get {L : List Value} {i j : Nat} {v : Value} (h : (ab_kil L i)[j]? = some v) (hl : ab_live v = true) : L[j]? = some v ∧ (j + 1 = i → ∀ x, L[j]? = some x → x.category ≠ 2) := by
  match i with
  | 0 => exact ⟨h, fun q => by omega⟩
  | k + 1 =>
    simp only [ab_kil] at h
    have key : ∀ z, L[k]? = some z → (L.set k (.retAddr 9))[j]? = some v → L[j]? = some v ∧ (j + 1 = k + 1 → ∀ x, L[j]? = some x → x.category ≠ 2) := fun z hz hq => by
      have hk : k < L.length := (List.getElem?_eq_some_iff.mp hz).1
      by_cases e : j = k
      · subst e
        rw [List.getElem?_set_self hk] at hq
        cases hq
        exact absurd hl (by decide)
      · rw [List.getElem?_set_ne (fun q => e q.symm)] at hq
        exact ⟨hq, fun q => absurd (Nat.succ.inj q) e⟩
    have key2 : (∀ x, L[k]? = some x → x.category ≠ 2) → L[j]? = some v → L[j]? = some v ∧ (j + 1 = k + 1 → ∀ x, L[j]? = some x → x.category ≠ 2) := fun hz hq => ⟨hq, fun q x hx => hz x (by have := Nat.succ.inj q; subst this; exact hx)⟩
    split at h
    · rename_i q
      exact key _ q h
    · rename_i q
      exact key _ q h
    · rename_i q1 q2
      refine key2 (fun x hx => ?_) h
      cases x with
      | long a => exact absurd hx (q1 a)
      | double a => exact absurd hx (q2 a)
      | _ => simp [Value.category]
theorem ab_kil_len (L : List Value) (i : Nat) : (ab_kil L i).length = L.length := by
  unfold ab_kil
  split
  · rfl
  · split <;> simp
theorem ab_sto_len (L : List Value) (i : Nat) (v : Value) : (ab_sto L i v).length = L.length := by
  unfold ab_sto
  split <;> simp [ab_kil_len]
theorem ab_L_sto1 {fa : Nat → Nat} {ρ : List Nat} {nL i : Nat} {L : List Value} {lv : List (Nat × Value)} {ls' : Array Slot} {v w : Value} (hlen : L.length = nL) (h3 : ∀ (i : Nat) (v : Value), L[i]? = some v → ab_live v = true → ∃ w, (i, w) ∈ lv ∧ ab_v fa ρ v w) (hv : ab_v fa ρ v w) (hc : v.category = 1) (hi : i < nL)
    (hl : lv_has ls' nL ((i, w) :: lv.filter (fun q => !(q.1 == i) && !(q.1 + 1 == i && q.2.category == 2)))) : ab_L fa ρ nL (ab_sto L i v) ls' := by
  have e : ab_sto L i v = (ab_kil L i).set i v := by cases v <;> first | rfl | (simp [Value.category] at hc)
  refine ⟨_, hl, by rw [ab_sto_len]; exact hlen, fun j u hj hu => ?_⟩
  rw [e] at hj
  by_cases q : j = i
  · subst q
    rw [List.getElem?_set_self (by rw [ab_kil_len, hlen]; exact hi)] at hj
    cases hj
    exact ⟨w, List.mem_cons_self, hv⟩
  · rw [List.getElem?_set_ne (fun z => q z.symm)] at hj
    obtain ⟨h1, h2⟩ := ab_kil_get hj hu
    obtain ⟨w', a, b⟩ := h3 j u h1 hu
    refine ⟨w', List.mem_cons_of_mem _ (List.mem_filter.mpr ⟨a, ?_⟩), b⟩
    have hcat := ab_v_cat b
    by_cases z : j + 1 = i
    · have := h2 z u h1
      simp [q, hcat, this]
    · simp [q, z]
theorem ab_L_sto2 {fa : Nat → Nat} {ρ : List Nat} {nL i : Nat} {L : List Value} {lv : List (Nat × Value)} {ls' : Array Slot} {v w : Value} (hlen : L.length = nL) (h3 : ∀ (i : Nat) (v : Value), L[i]? = some v → ab_live v = true → ∃ w, (i, w) ∈ lv ∧ ab_v fa ρ v w) (hv : ab_v fa ρ v w) (hc : v.category = 2) (hi : i + 1 < nL)
    (hl : lv_has ls' nL ((i, w) :: lv.filter (fun q => !(q.1 == i) && (!(q.1 == i + 1) && !(q.1 + 1 == i && q.2.category == 2))))) : ab_L fa ρ nL (ab_sto L i v) ls' := by
  have e : ab_sto L i v = ((ab_kil L i).set i v).set (i + 1) (.retAddr 9) := by cases v <;> first | rfl | (simp [Value.category] at hc)
  refine ⟨_, hl, by rw [ab_sto_len]; exact hlen, fun j u hj hu => ?_⟩
  rw [e] at hj
  by_cases q2 : j = i + 1
  · subst q2
    rw [List.getElem?_set_self (by rw [List.length_set, ab_kil_len, hlen]; exact hi)] at hj
    cases hj
    exact absurd hu (by decide)
  rw [List.getElem?_set_ne (fun z => q2 z.symm)] at hj
  by_cases q : j = i
  · subst q
    rw [List.getElem?_set_self (by rw [ab_kil_len, hlen]; omega)] at hj
    cases hj
    exact ⟨w, List.mem_cons_self, hv⟩
  · rw [List.getElem?_set_ne (fun z => q z.symm)] at hj
    obtain ⟨h1, h2⟩ := ab_kil_get hj hu
    obtain ⟨w', a, b⟩ := h3 j u h1 hu
    refine ⟨w', List.mem_cons_of_mem _ (List.mem_filter.mpr ⟨a, ?_⟩), b⟩
    have hcat := ab_v_cat b
    by_cases z : j + 1 = i
    · have := h2 z u h1
      simp [q, q2, hcat, this]
    · simp [q, q2, z]
/-- sizes only grow -/
theorem ab_hsz_app (h h1 : ab_H) : ab_hsz (h ++ h1) = ab_hsz h + ab_hsz h1 := by simp [ab_hsz]
theorem ab_hsz_set {h : ab_H} {k : Nat} {o o1 : ab_O} (hk : h[k]? = some o) (ho : ab_osz o1 = ab_osz o) : ab_hsz (h.set k o1) = ab_hsz h := by
  induction h generalizing k with
  | nil => simp at hk
  | cons a t ih =>
    cases k with
    | zero =>
      have : a = o := by simpa using hk
      subst this
      simp [ab_hsz, ho]
    | succ k =>
      have := ih (k := k) (by simpa using hk)
      simp only [ab_hsz, List.set_cons_succ, List.map_cons, List.sum_cons] at this ⊢
      omega
