/-! RUNS of straight instructions; cells only grow -/
def ab_le (h h1 : ab_H) : Prop := h.length ≤ h1.length ∧ ab_hsz h ≤ ab_hsz h1
theorem ab_le_rf (h : ab_H) : ab_le h h := ⟨Nat.le_refl _, Nat.le_refl _⟩
theorem ab_le_tr {h h1 h2 : ab_H} (a : ab_le h h1) (b : ab_le h1 h2) : ab_le h h2 := ⟨Nat.le_trans a.1 b.1, Nat.le_trans a.2 b.2⟩
theorem ab_le_app (h h1 : ab_H) : ab_le h (h ++ h1) := ⟨by simp, by rw [ab_hsz_app]; omega⟩
theorem ab_le_set {h : ab_H} {k : Nat} {o o1 : ab_O} (hk : h[k]? = some o) (ho : ab_osz o1 = ab_osz o) : ab_le h (h.set k o1) := ⟨by simp, by rw [ab_hsz_set hk ho]; exact Nat.le_refl _⟩
theorem ab_rot_le (S : ab_S) (h : 63 ≤ S.2.2.length) : ab_le S.2.2 (ab_rot S).2.2 := ⟨by show _ ≤ ((ab_rl S.2.2).map ab_ro).length; rw [List.length_map, ab_rl_len _ h]; exact Nat.le_refl _, by show _ ≤ ab_hsz ((ab_rl S.2.2).map ab_ro); rw [ab_rot_sz]; exact Nat.le_refl _⟩
theorem ab_ld_le {q : Value → Bool} {i : Nat} {S S' : ab_S} (h : ab_ld q i S = some S') : ab_le S.2.2 S'.2.2 := by
  unfold ab_ld at h
  repeat' split at h
  all_goals first | cases h; exact ab_le_rf _ | cases h
theorem ab_st_le {q : Value → Bool} {i : Nat} {S S' : ab_S} (h : ab_st q i S = some S') : ab_le S.2.2 S'.2.2 := by
  unfold ab_st at h
  repeat' split at h
  all_goals first | cases h; exact ab_le_rf _ | cases h
theorem ab_ii_le {f : Int32 → Int32 → Option Value} {S S' : ab_S} (h : ab_ii f S = some S') : ab_le S.2.2 S'.2.2 := by
  unfold ab_ii at h
  split at h
  · obtain ⟨v, -, h⟩ := Option.bind_eq_some_iff.mp h
    cases h
    exact ab_le_rf _
  · cases h
theorem ab_jj_le {f : Int64 → Int64 → Option Value} {S S' : ab_S} (h : ab_jj f S = some S') : ab_le S.2.2 S'.2.2 := by
  unfold ab_jj at h
  split at h
  · obtain ⟨v, -, h⟩ := Option.bind_eq_some_iff.mp h
    cases h
    exact ab_le_rf _
  · cases h
theorem ab_u_le {f : Value → Option Value} {S S' : ab_S} (h : ab_u f S = some S') : ab_le S.2.2 S'.2.2 := by
  unfold ab_u at h
  split at h
  · obtain ⟨v, -, h⟩ := Option.bind_eq_some_iff.mp h
    cases h
    exact ab_le_rf _
  · cases h
theorem ab_getf_le {ci k : Nat} {S S' : ab_S} (h : ab_getf ci k S = some S') : ab_le S.2.2 S'.2.2 := by
  unfold ab_getf at h
  repeat' split at h
  all_goals first | (obtain ⟨v, -, h⟩ := Option.bind_eq_some_iff.mp h; cases h; exact ab_le_rf _) | cases h
theorem ab_putf_le {ci k : Nat} {S S' : ab_S} (h : ab_putf ci k S = some S') : ab_le S.2.2 S'.2.2 := by
  unfold ab_putf at h
  split at h
  · split at h
    · rename_i ho
      split at h
      · rename_i hc
        cases h
        obtain ⟨rfl, -, -⟩ := hc
        exact ab_le_set ho (by simp [ab_osz])
      · cases h
    · cases h
  · cases h
theorem ab_iald_le {fx : Nat → List Int32} {ty : FieldType} {S S' : ab_S} (h : ab_iald fx ty S = some S') : ab_le S.2.2 S'.2.2 := by
  unfold ab_iald at h
  repeat' split at h
  all_goals first | (obtain ⟨v, -, h⟩ := Option.bind_eq_some_iff.mp h; cases h; exact ab_le_rf _) | cases h
theorem ab_iast_le {ty : FieldType} {g : Int32 → Int32} {S S' : ab_S} (h : ab_iast ty g S = some S') : ab_le S.2.2 S'.2.2 := by
  unfold ab_iast at h
  split at h
  · split at h
    · rename_i ho
      split at h
      · obtain ⟨l2, hl, h⟩ := Option.bind_eq_some_iff.mp h
        cases h
        obtain ⟨-, rfl⟩ := ab_ux_in hl
        exact ab_le_set ho (by simp [ab_osz])
      · cases h
    · cases h
  · cases h
theorem ab_lald_le {S S' : ab_S} (h : ab_lald S = some S') : ab_le S.2.2 S'.2.2 := by
  unfold ab_lald at h
  repeat' split at h
  all_goals first | (obtain ⟨v, -, h⟩ := Option.bind_eq_some_iff.mp h; cases h; exact ab_le_rf _) | cases h
theorem ab_dald_le {S S' : ab_S} (h : ab_dald S = some S') : ab_le S.2.2 S'.2.2 := by
  unfold ab_dald at h
  repeat' split at h
  all_goals first | (obtain ⟨v, -, h⟩ := Option.bind_eq_some_iff.mp h; cases h; exact ab_le_rf _) | cases h
theorem ab_aald_le {S S' : ab_S} (h : ab_aald S = some S') : ab_le S.2.2 S'.2.2 := by
  unfold ab_aald at h
  repeat' split at h
  all_goals first | (obtain ⟨v, -, h⟩ := Option.bind_eq_some_iff.mp h; cases h; exact ab_le_rf _) | cases h
theorem ab_last_le {S S' : ab_S} (h : ab_last S = some S') : ab_le S.2.2 S'.2.2 := by
  unfold ab_last at h
  split at h
  · split at h
    · rename_i ho
      obtain ⟨l2, hl, h⟩ := Option.bind_eq_some_iff.mp h
      cases h
      obtain ⟨-, rfl⟩ := ab_ux_in hl
      exact ab_le_set ho (by simp [ab_osz])
    · cases h
  · cases h
theorem ab_dast_le {S S' : ab_S} (h : ab_dast S = some S') : ab_le S.2.2 S'.2.2 := by
  unfold ab_dast at h
  split at h
  · split at h
    · rename_i ho
      obtain ⟨l2, hl, h⟩ := Option.bind_eq_some_iff.mp h
      cases h
      obtain ⟨-, rfl⟩ := ab_ux_in hl
      exact ab_le_set ho (by simp [ab_osz])
    · cases h
  · cases h
theorem ab_alen_le {fx : Nat → List Int32} {S S' : ab_S} (h : ab_alen fx S = some S') : ab_le S.2.2 S'.2.2 := by
  unfold ab_alen at h
  repeat' split at h
  all_goals first | cases h; exact ab_le_rf _ | cases h
theorem ab_newa_le {f : Nat → ab_O} {S S' : ab_S} (h : ab_newa f S = some S') : ab_le S.2.2 S'.2.2 := by
  unfold ab_newa at h
  repeat' split at h
  all_goals first | cases h; exact ab_le_app _ _ | cases h
theorem ab_aast_le {S S' : ab_S} (h : ab_aast S = some S') : ab_le S.2.2 S'.2.2 := by
  unfold ab_aast at h
  split at h
  · split at h
    · rename_i ho
      obtain ⟨l2, hl, h⟩ := Option.bind_eq_some_iff.mp h
      cases h
      obtain ⟨-, rfl⟩ := ab_ux_in hl
      exact ab_le_set ho (by simp [ab_osz])
    · cases h
  · cases h
theorem ab_copy_le {S S' : ab_S} (h : ab_copy S = some S') : ab_le S.2.2 S'.2.2 := by
  unfold ab_copy at h
  split at h
  · split at h
    · rename_i l1 l2 ho1 ho2
      split at h
      · cases h
      · rename_i hn
        cases h
        refine ab_le_set ho2 ?_
        simp only [ab_osz, List.length_append, List.length_take, List.length_drop]
        omega
    · cases h
  · cases h
theorem ab_mm_le {f : Int32 → Int32 → Int32} {S S' : ab_S} (h : ab_mm f S = some S') : ab_le S.2.2 S'.2.2 := by
  unfold ab_mm at h
  repeat' split at h
  all_goals first | cases h; exact ab_le_rf _ | cases h
theorem ab_step_le {fx : Nat → List Int32} {x : ab_I} {S S' : ab_S} (h : ab_step fx x S = some S') : ab_le S.2.2 S'.2.2 := by
  obtain ⟨i, n, a, b⟩ := x
  obtain ⟨L, T, hh⟩ := S
  cases i with
  | newarray t =>
    simp only [ab_step] at h
    split at h
    all_goals first | exact ab_newa_le h | cases h
  | ddiv | fdiv | dcmp | fcmp | iinc | dup | dup2 | pop | fconst | dconst | invokespecial =>
    simp only [ab_step] at h
    repeat' split at h
    all_goals first | cases h; exact ab_le_rf _ | cases h
  | new i => cases h; exact ab_le_app _ _
  | anewarray i => exact ab_newa_le (show ab_newa (fun n => oR (List.replicate n none)) (L, T, hh) = some S' from h)
  | invokestatic i =>
    match a, h with
    | 0, h => exact ab_copy_le h
    | 1, h => exact ab_mm_le (f := fun a b => if a < b then b else a) h
    | _ + 2, h => exact ab_mm_le (f := fun a b => if b < a then b else a) h
  | _ => first | exact ab_ld_le h | exact ab_st_le h | exact ab_ii_le h | exact ab_jj_le h | exact ab_u_le h | exact ab_getf_le h | exact ab_putf_le h | exact ab_iald_le h | exact ab_iast_le h | exact ab_lald_le h | exact ab_dald_le h | exact ab_aald_le h | exact ab_last_le h | exact ab_dast_le h | exact ab_alen_le h | exact ab_aast_le h | exact ab_copy_le h | (cases h; exact ab_le_rf _) | cases h
theorem ab_run_le {fx : Nat → List Int32} : ∀ {b : List ab_I} {S S' : ab_S}, ab_run fx b S = some S' → ab_le S.2.2 S'.2.2
  | [], S, S', h => by cases h; exact ab_le_rf _
  | x :: r, S, S', h => by
    obtain ⟨S1, h1, h2⟩ := Option.bind_eq_some_iff.mp h
    exact ab_le_tr (ab_step_le h1) (ab_run_le h2)
/-- the rows of a run: each decodes where it stands, and its links are good -/
def ab_okR (cc : ByteArray) (own : String) (ini : Bool) : Nat → List ab_I → Prop
  | _, [] => True
  | pc, x :: r => (decode cc pc = .ok (x.1, x.2.1) ∧ x.2.1 = ab_ln x.1 ∧ ab_okS own ini x) ∧ ab_okR cc own ini (pc + x.2.1) r
def ab_end : Nat → List ab_I → Nat
  | pc, [] => pc
  | pc, x :: r => ab_end (pc + x.2.1) r
section Sd
variable {p : Program} {l : Launch} {e : Env} {R : Room} {s : State} {m : MethodId} {args : Array Value} {below : List Frame} {meth : Method} {c : Code} {Q : State → Prop}
variable {cc : ByteArray} {own : String} {nL : Nat} {ini : Bool} {A : Nat → Prop} {fa : Nat → Nat} {fx : Nat → List Int32} {D : va_G} {ρ0 : List Nat} {hb sb : Nat}
theorem ab_runW (E : ab_E p R s m args meth c cc own nL ini A fa fx) : ∀ {b : List ab_I} {pc : Nat} {S S' : ab_S}, ab_run fx b S = some S' → ab_okR cc own ini pc b → S'.2.2.length ≤ hb + R.cells ∧ ab_hsz S'.2.2 ≤ sb + R.slots → ab_W p l e R s m args below meth c Q D A fa ρ0 nL hb sb (ab_end pc b) S' → ab_W p l e R s m args below meth c Q D A fa ρ0 nL hb sb pc S
  | [], pc, S, S', h, _, _, kk => by cases h; exact kk
  | x :: r, pc, S, S', h, hok, hcap, kk => by
    obtain ⟨S1, h1, h2⟩ := Option.bind_eq_some_iff.mp h
    have h3 := ab_run_le h2
    exact ab_stepW E h1 hok.1.1 hok.1.2.1 hok.1.2.2 ⟨Nat.le_trans h3.1 hcap.1, Nat.le_trans h3.2 hcap.2⟩ (ab_runW E h2 hok.2 hcap kk)
end Sd
