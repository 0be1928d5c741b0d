/-! THE MACHINE FOLLOWS THE ABSTRACT ONE: instructions that touch locals and stack alone -/
def ab_exn (x : Nat) : String := match x with
  | 0 => "java/lang/IllegalArgumentException"
  | 1 => "java/lang/IllegalStateException"
  | 2 => "java/lang/IndexOutOfBoundsException"
  | _ => "java/util/NoSuchElementException"
/-- an array of ints that was there before, as far as its list says -/
def ab_Xf (b : Nat) (l : List Int32) (U : State) (H : Heap) : Prop := ∃ scr : Cell, H[b]? = some scr ∧ U.isArrayOf scr .int ∧ scr.vm ≠ .unknown ∧ l.length ≤ scr.slots.size ∧ ∀ j : Nat, j < l.length → scr.slots[j]? = some (.int (l.getD j 0))
theorem ab_Xf.kept {b : Nat} {l : List Int32} {U : State} {H H1 : Heap} (h : ab_Xf b l U H) (hq : H1[b]? = H[b]?) : ab_Xf b l U H1 := by
  obtain ⟨scr, h1, h2⟩ := h
  exact ⟨scr, by rw [hq]; exact h1, h2⟩
theorem ab_Xf.moved {b : Nat} {l : List Int32} {u U : State} {H : Heap} (hvm : u.vm.Alike U.vm) (h : ab_Xf b l u H) : ab_Xf b l U H := by
  obtain ⟨scr, h1, h2, h3⟩ := h
  exact ⟨scr, h1, State.isArrayOf_alike hvm h2, h3⟩
def ab_Cx (A : Nat → Prop) (fa : Nat → Nat) (fx : Nat → List Int32) (s : State) : Prop :=
  (∀ k : Nat, k < 2 → ¬ A (fa k) ∧ ab_Xf (fa k) (fx k) s s.heap) ∧ va_Z "Roomandhour$Search" "POWERS" "[I" (.ref (fa 0)) A s s.heap ∧ (∀ w ∈ ab_nest, va_Nw w s) ∧ va_AOA .int s ∧ vx_Zq Bundle.tN "UNASSIGNED_STACK" Bundle.steD A s s.heap ∧ vx_Zq Bundle.tN "SUPPRESSED_SENTINEL" Bundle.listD A s s.heap ∧ (∀ q ∈ ab_strs, ∃ sa, vk_R RX11 q.1 q.2 sa s) ∧ (∀ w ∈ ab_bad, va_Nw w s) ∧ True ∧ va_X (fa 1) (fx 1).length (fun j => (fx 1).getD j 0) s s.heap
def ab_E (p : Program) (R : Room) (s : State) (m : MethodId) (args : Array Value) (meth : Method) (c : Code) (cc : ByteArray) (own : String) (nL : Nat) (ini : Bool) (A : Nat → Prop) (fa : Nat → Nat) (fx : Nat → List Int32) : Prop :=
  p.tables.exec = Jvm.exec ∧ c.code = cc ∧ c.maxLocals = nL ∧ s.vm.findClass own = some m.cls ∧ (∀ w ∈ wsL_law, w.before args s = true) ∧ (ini = true → meth.name = "<init>") ∧ (∀ q, s.heap.size ≤ q → A q) ∧ ab_Cx A fa fx s ∧ 8 ≤ R.frames ∧ 200 ≤ R.locals
def ab_W (p : Program) (l : Launch) (e : Env) (R : Room) (s : State) (m : MethodId) (args : Array Value) (below : List Frame) (meth : Method) (c : Code) (Q : State → Prop) (D : va_G) (A : Nat → Prop) (fa : Nat → Nat) (ρ0 : List Nat) (nL hb sb : Nat) (pc : Nat) (S : ab_S) : Prop :=
  ∀ (ρ : List Nat) (H : Heap) (locs : List Loc) (ls : Array Slot) (st : List Value) (cells slots : Nat), ab_Pt D A s fa ρ0 nL hb sb S ρ H locs ls st cells slots → W p l e R s m args below meth c H locs cells slots Q (F0 m pc ls st)
section Sd
variable {p : Program} {l : Launch} {e : Env} {R : Room} {s : State} {m : MethodId} {args : Array Value} {below : List Frame} {meth : Method} {c : Code} {Q : State → Prop}
variable {cc : ByteArray} {own : String} {nL : Nat} {ini : Bool} {A : Nat → Prop} {fa : Nat → Nat} {fx : Nat → List Int32} {D : va_G} {ρ0 : List Nat} {hb sb : Nat} {pc : Nat} {S S' : ab_S} {x : ab_I}
theorem ab_pt_push {L T : List Value} {h : ab_H} {v w : Value} {ρ : List Nat} {H : Heap} {locs : List Loc} {ls : Array Slot} {st : List Value} {cells slots : Nat} (hp : ab_Pt D A s fa ρ0 nL hb sb (L, T, h) ρ H locs ls st cells slots) (hv : ab_v fa ρ v w) (hl : ab_live v = true) : ab_Pt D A s fa ρ0 nL hb sb (L, v :: T, h) ρ H locs ls (w :: st) cells slots := by
  obtain ⟨h1, h2, h3, h4, h5, h6⟩ := hp
  exact ⟨h1, h2, h3, h4, ⟨⟨hv, hl⟩, h5⟩, h6⟩
theorem ab_pt_pop {L T : List Value} {h : ab_H} {v : Value} {ρ : List Nat} {H : Heap} {locs : List Loc} {ls : Array Slot} {st : List Value} {cells slots : Nat} (hp : ab_Pt D A s fa ρ0 nL hb sb (L, v :: T, h) ρ H locs ls st cells slots) : ∃ w st', st = w :: st' ∧ ab_v fa ρ v w ∧ ab_live v = true ∧ ab_Pt D A s fa ρ0 nL hb sb (L, T, h) ρ H locs ls st' cells slots := by
  obtain ⟨h1, h2, h3, h4, h5, h6⟩ := hp
  obtain ⟨w, st', rfl, a, b, q⟩ := ab_Ts_cons h5
  exact ⟨w, st', rfl, a, b, h1, h2, h3, h4, q, h6⟩
/-- a constant is pushed -/
theorem ab_k {L T : List Value} {h : ab_H} {v : Value} {pc2 : Nat} (hv : ∀ k, v ≠ .ref k) (hv2 : ∀ k, v ≠ .retAddr k) (kk : ab_W p l e R s m args below meth c Q D A fa ρ0 nL hb sb pc2 (L, v :: T, h))
    (row : ∀ (H : Heap) (locs : List Loc) (ls : Array Slot) (st : List Value) (cells slots : Nat), W p l e R s m args below meth c H locs cells slots Q (F0 m pc2 ls (v :: st)) → W p l e R s m args below meth c H locs cells slots Q (F0 m pc ls st)) :
    ab_W p l e R s m args below meth c Q D A fa ρ0 nL hb sb pc (L, T, h) := by
  intro ρ H locs ls st cells slots hp
  refine row H locs ls st cells slots (kk ρ H locs ls (v :: st) cells slots (ab_pt_push hp ?_ ?_))
  · cases v with
    | ref k => exact absurd rfl (hv k)
    | retAddr k => exact absurd rfl (hv2 k)
    | _ => rfl
  · cases v with
    | retAddr k => exact absurd rfl (hv2 k)
    | _ => rfl
/-- a load -/
theorem ab_ldW {q : Value → Bool} {i pc2 : Nat} (h : ab_ld q i S = some S') (hq : ∀ v, q v = true → ab_live v = true) (kk : ab_W p l e R s m args below meth c Q D A fa ρ0 nL hb sb pc2 S')
    (row : ∀ (v w : Value) (ρ : List Nat) (H : Heap) (locs : List Loc) (ls : Array Slot) (st : List Value) (cells slots : Nat), q v = true → ab_v fa ρ v w → ls[i]? = some (.val w) → W p l e R s m args below meth c H locs cells slots Q (F0 m pc2 ls (w :: st)) → W p l e R s m args below meth c H locs cells slots Q (F0 m pc ls st)) :
    ab_W p l e R s m args below meth c Q D A fa ρ0 nL hb sb pc S := by
  intro ρ H locs ls st cells slots hp
  obtain ⟨L, T, hh⟩ := S
  unfold ab_ld at h
  split at h
  · rename_i v hv
    split at h
    · rename_i hqv
      cases h
      obtain ⟨lv, a1, a2, a3⟩ := hp.2.2.2.1
      obtain ⟨w, b1, b2⟩ := a3 i v hv (hq v hqv)
      exact row v w ρ H locs ls st cells slots hqv b2 (a1.2.2 (i, w) b1) (kk _ _ _ _ _ _ _ (ab_pt_push hp b2 (hq v hqv)))
    · cases h
  · cases h
/-- a store -/
theorem ab_stW {q : Value → Bool} {i pc2 : Nat} (h : ab_st q i S = some S') (kk : ab_W p l e R s m args below meth c Q D A fa ρ0 nL hb sb pc2 S')
    (row : ∀ (v w : Value) (ρ : List Nat) (H : Heap) (locs : List Loc) (ls : Array Slot) (st : List Value) (cells slots : Nat) (lv : List (Nat × Value)), q v = true → ab_v fa ρ v w → lv_has ls nL lv → i + v.category ≤ nL →
      (∀ ls' : Array Slot, (v.category = 1 → lv_has ls' nL ((i, w) :: lv.filter (fun q => !(q.1 == i) && !(q.1 + 1 == i && q.2.category == 2)))) → (v.category = 2 → lv_has ls' nL ((i, w) :: lv.filter (fun q => !(q.1 == i) && (!(q.1 == i + 1) && !(q.1 + 1 == i && q.2.category == 2))))) → W p l e R s m args below meth c H locs cells slots Q (F0 m pc2 ls' st)) → W p l e R s m args below meth c H locs cells slots Q (F0 m pc ls (w :: st))) :
    ab_W p l e R s m args below meth c Q D A fa ρ0 nL hb sb pc S := by
  intro ρ H locs ls st cells slots hp
  obtain ⟨L, T, hh⟩ := S
  unfold ab_st at h
  split at h
  · rename_i v T' hT
    dsimp only at hT
    subst hT
    split at h
    · rename_i hqv
      cases h
      obtain ⟨w, st', rfl, b2, -, hp⟩ := ab_pt_pop hp
      obtain ⟨h1, h2, h3, ⟨lv, a1, a2, a3⟩, h5, h6⟩ := hp
      have hi : i + v.category ≤ nL := by rw [← a2]; exact hqv.2
      refine row v w ρ H locs ls st' cells slots lv hqv.1 b2 a1 hi (fun ls' g1 g2 => kk _ _ _ _ _ _ _ ⟨h1, h2, h3, ?_, h5, h6⟩)
      rcases lv_cat v with hc | hc
      · exact ab_L_sto1 a2 a3 b2 hc (by omega) (g1 hc)
      · exact ab_L_sto2 a2 a3 b2 hc (by omega) (g2 hc)
    · cases h
  · cases h
theorem ab_iiW {f : Int32 → Int32 → Option Value} {pc2 : Nat} (h : ab_ii f S = some S') (hf : ∀ x y v, f x y = some v → ∃ k, v = .int k) (kk : ab_W p l e R s m args below meth c Q D A fa ρ0 nL hb sb pc2 S')
    (row : ∀ (x y : Int32) (v : Value) (H : Heap) (locs : List Loc) (ls : Array Slot) (st : List Value) (cells slots : Nat), f x y = some v → W p l e R s m args below meth c H locs cells slots Q (F0 m pc2 ls (v :: st)) → W p l e R s m args below meth c H locs cells slots Q (F0 m pc ls (.int y :: .int x :: st))) :
    ab_W p l e R s m args below meth c Q D A fa ρ0 nL hb sb pc S := by
  intro ρ H locs ls st cells slots hp
  obtain ⟨L, T, hh⟩ := S
  unfold ab_ii at h
  split at h
  · rename_i y x T' hT
    dsimp only at hT
    subst hT
    obtain ⟨v, hv, h⟩ := Option.bind_eq_some_iff.mp h
    cases h
    obtain ⟨w, st, rfl, b1, -, hp1⟩ := ab_pt_pop hp
    obtain ⟨w2, st, rfl, b2, -, hp2⟩ := ab_pt_pop hp1
    cases b1
    cases b2
    obtain ⟨k, rfl⟩ := hf _ _ _ hv
    exact row x y _ H locs ls st cells slots hv (kk _ _ _ _ _ _ _ (ab_pt_push hp2 rfl rfl))
  · cases h
theorem ab_jjW {f : Int64 → Int64 → Option Value} {pc2 : Nat} (h : ab_jj f S = some S') (hf : ∀ x y v, f x y = some v → (∃ k, v = .int k) ∨ ∃ k, v = .long k) (kk : ab_W p l e R s m args below meth c Q D A fa ρ0 nL hb sb pc2 S')
    (row : ∀ (x y : Int64) (v : Value) (H : Heap) (locs : List Loc) (ls : Array Slot) (st : List Value) (cells slots : Nat), f x y = some v → W p l e R s m args below meth c H locs cells slots Q (F0 m pc2 ls (v :: st)) → W p l e R s m args below meth c H locs cells slots Q (F0 m pc ls (.long y :: .long x :: st))) :
    ab_W p l e R s m args below meth c Q D A fa ρ0 nL hb sb pc S := by
  intro ρ H locs ls st cells slots hp
  obtain ⟨L, T, hh⟩ := S
  unfold ab_jj at h
  split at h
  · rename_i y x T' hT
    dsimp only at hT
    subst hT
    obtain ⟨v, hv, h⟩ := Option.bind_eq_some_iff.mp h
    cases h
    obtain ⟨w, st, rfl, b1, -, hp1⟩ := ab_pt_pop hp
    obtain ⟨w2, st, rfl, b2, -, hp2⟩ := ab_pt_pop hp1
    cases b1
    cases b2
    rcases hf _ _ _ hv with ⟨k, rfl⟩ | ⟨k, rfl⟩
    · exact row x y _ H locs ls st cells slots hv (kk _ _ _ _ _ _ _ (ab_pt_push hp2 rfl rfl))
    · exact row x y _ H locs ls st cells slots hv (kk _ _ _ _ _ _ _ (ab_pt_push hp2 rfl rfl))
  · cases h
theorem ab_uW {f : Value → Option Value} {pc2 : Nat} (h : ab_u f S = some S') (hf : ∀ x v, f x = some v → (∀ k, x ≠ .ref k) ∧ (∀ k, x ≠ .retAddr k) ∧ (∀ k, v ≠ .ref k) ∧ (∀ k, v ≠ .retAddr k)) (kk : ab_W p l e R s m args below meth c Q D A fa ρ0 nL hb sb pc2 S')
    (row : ∀ (x v : Value) (H : Heap) (locs : List Loc) (ls : Array Slot) (st : List Value) (cells slots : Nat), f x = some v → W p l e R s m args below meth c H locs cells slots Q (F0 m pc2 ls (v :: st)) → W p l e R s m args below meth c H locs cells slots Q (F0 m pc ls (x :: st))) :
    ab_W p l e R s m args below meth c Q D A fa ρ0 nL hb sb pc S := by
  intro ρ H locs ls st cells slots hp
  obtain ⟨L, T, hh⟩ := S
  unfold ab_u at h
  split at h
  · rename_i x T' hT
    dsimp only at hT
    subst hT
    obtain ⟨v, hv, h⟩ := Option.bind_eq_some_iff.mp h
    cases h
    obtain ⟨w, st, rfl, b1, -, hp1⟩ := ab_pt_pop hp
    obtain ⟨e1, e2, e3, e4⟩ := hf _ _ hv
    have b1 : w = x := by
      cases x with
      | ref k => exact absurd rfl (e1 k)
      | retAddr k => exact absurd rfl (e2 k)
      | _ => exact b1
    subst b1
    refine row w v H locs ls st cells slots hv (kk _ _ _ _ _ _ _ (ab_pt_push hp1 ?_ ?_))
    · cases v with
      | ref k => exact absurd rfl (e3 k)
      | retAddr k => exact absurd rfl (e4 k)
      | _ => rfl
    · cases v with
      | retAddr k => exact absurd rfl (e4 k)
      | _ => rfl
  · cases h
end Sd
section Rt
variable {p : Program} {l : Launch} {e : Env} {R : Room} {s : State} {m : MethodId} {args : Array Value} {below : List Frame} {meth : Method} {c : Code} {Q : State → Prop}
variable {nL : Nat} {A : Nat → Prop} {fa : Nat → Nat} {D : va_G} {hb sb : Nat} {pc : Nat} {S : ab_S}
theorem ab_rotW (h63 : 63 ≤ S.2.2.length) (kk : ab_W p l e R s m args below meth c Q D A fa [] nL hb sb pc (ab_rot S)) : ab_W p l e R s m args below meth c Q D A fa [] nL hb sb pc S := fun ρ H locs ls st cells slots hp => kk (ab_rl ρ) H locs ls st cells slots (ab_rot_pt h63 hp)
end Rt
