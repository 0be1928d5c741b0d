/-! THE MACHINE FOLLOWS THE ABSTRACT ONE: reading and writing cells -/
theorem ab_wd_all {D : va_G} {A : Nat → Prop} {s : State} {fa : Nat → Nat} {ρ : List Nat} {h : ab_H} {H : Heap} (hw : ab_Wd D A s fa ρ h H) :
    ∃ (ws : va_W) (tys : List (ClassId × FieldType)) (ps : Nat → Nat), va_K D ab_cl tys s ∧ va_P D ab_cl ws H ∧ va_D A ws ∧ (∀ (k a : Nat) (o : ab_O), h[k]? = some o → ab_gh o = false → ρ[k]? = some a → ∃ e, ws[ps k]? = some (a, e) ∧ ab_e fa tys ρ e o) ∧
      (∀ (k a : Nat) (o o1 : ab_O) (e1 : va_E) (H1 : Heap), h[k]? = some o → ab_gh o = false → ρ[k]? = some a → va_P D ab_cl (ws.set (ps k) (a, e1)) H1 → va_D A (ws.set (ps k) (a, e1)) → ab_e fa tys ρ e1 o1 → ab_Wd D A s fa ρ (h.set k o1) H1) := by
  obtain ⟨ws, tys, ps, hK, hP, hD, e1, e2, e3⟩ := hw
  have hat : ∀ (k a : Nat) (o : ab_O), h[k]? = some o → ab_gh o = false → ρ[k]? = some a → ∃ e, ws[ps k]? = some (a, e) ∧ ab_e fa tys ρ e o := by
    intro k a o hk hg hr
    obtain ⟨b, e, h1, h2, h3⟩ := e3 k o hk hg
    cases Option.some.inj (h1.symm.trans hr)
    exact ⟨e, h2, h3⟩
  refine ⟨ws, tys, ps, hK, hP, hD, hat, fun k a o o1 f1 H1 hk hg hr hP1 hD1 he => ⟨_, tys, ps, hK, hP1, hD1, by simp [e1], ?_, fun j o2 ho hg2 => ?_⟩⟩
  · have key : ∀ (i : Nat) (o3 : ab_O), (h.set k o1)[i]? = some o3 → ab_gh o3 = false → ∃ o4, h[i]? = some o4 ∧ ab_gh o4 = false := by
      intro i o3 h3 g3
      by_cases z : i = k
      · subst z; exact ⟨o, hk, hg⟩
      · rw [List.getElem?_set_ne (fun y => z y.symm)] at h3
        exact ⟨o3, h3, g3⟩
    intro i j o3 o4 h3 h4 g3 g4 hij
    obtain ⟨o5, h5, g5⟩ := key i o3 h3 g3
    obtain ⟨o6, h6, g6⟩ := key j o4 h4 g4
    exact e2 i j o5 o6 h5 h6 g5 g6 hij
  · by_cases z : j = k
    · subst z
      obtain ⟨e0, hq, -⟩ := hat j a o hk hg hr
      rw [List.getElem?_set_self (List.getElem?_eq_some_iff.mp hk).1] at ho
      cases ho
      exact ⟨a, f1, hr, by rw [List.getElem?_set_self (List.getElem?_eq_some_iff.mp hq).1], he⟩
    · rw [List.getElem?_set_ne (fun y => z y.symm)] at ho
      obtain ⟨b, e, h1, h2, h3⟩ := e3 j o2 ho hg2
      exact ⟨b, e, h1, by rw [List.getElem?_set_ne (fun y => z (e2 j k o2 o ho hk hg2 hg y.symm))]; exact h2, h3⟩
theorem ab_wd_at {D : va_G} {A : Nat → Prop} {s : State} {fa : Nat → Nat} {ρ : List Nat} {h : ab_H} {H : Heap} {k a : Nat} {o : ab_O} (hw : ab_Wd D A s fa ρ h H) (hk : h[k]? = some o) (hg : ab_gh o = false) (hr : ρ[k]? = some a) :
    ∃ (ws : va_W) (tys : List (ClassId × FieldType)) (e : va_E) (j : Nat), va_K D ab_cl tys s ∧ va_P D ab_cl ws H ∧ va_D A ws ∧ ws[j]? = some (a, e) ∧ ab_e fa tys ρ e o ∧
      (∀ (e1 : va_E) (o1 : ab_O) (H1 : Heap), va_P D ab_cl (ws.set j (a, e1)) H1 → va_D A (ws.set j (a, e1)) → ab_e fa tys ρ e1 o1 → ab_Wd D A s fa ρ (h.set k o1) H1) := by
  obtain ⟨ws, tys, ps, hK, hP, hD, hat, hset⟩ := ab_wd_all hw
  obtain ⟨e, h1, h2⟩ := hat k a o hk hg hr
  exact ⟨ws, tys, e, ps k, hK, hP, hD, h1, h2, fun e1 o1 H1 q1 q2 q3 => hset k a o o1 e1 H1 hk hg hr q1 q2 q3⟩
theorem ab_wd_push {D : va_G} {A : Nat → Prop} {s : State} {fa : Nat → Nat} {ρ : List Nat} {h : ab_H} {H : Heap} (hw : ab_Wd D A s fa ρ h H) :
    ∃ (ws : va_W) (tys : List (ClassId × FieldType)), va_K D ab_cl tys s ∧ va_P D ab_cl ws H ∧ va_D A ws ∧ ρ.length = h.length ∧
      (∀ (t1 : List (ClassId × FieldType)) (w1 : va_W) (h1 : ab_H) (H1 : Heap), va_K D ab_cl (tys ++ t1) s → va_P D ab_cl (ws ++ w1) H1 → va_D A (ws ++ w1) → w1.length = h1.length → (∀ (k : Nat) (q : Nat × va_E) (o : ab_O), w1[k]? = some q → h1[k]? = some o → ab_e fa (tys ++ t1) (ρ ++ w1.map Prod.fst) q.2 o) → ab_Wd D A s fa (ρ ++ w1.map Prod.fst) (h ++ h1) H1) := by
  obtain ⟨ws, tys, ps, hK, hP, hD, e1, e2, e3⟩ := hw
  have hps : ∀ (k : Nat) (o : ab_O), h[k]? = some o → ab_gh o = false → ps k < ws.length := fun k o hk hg => by
    obtain ⟨a, e, -, h2, -⟩ := e3 k o hk hg
    exact (List.getElem?_eq_some_iff.mp h2).1
  refine ⟨ws, tys, hK, hP, hD, e1, fun t1 w1 h1 H1 k1 k2 k3 k4 k5 => ⟨_, _, fun k => if k < h.length then ps k else ws.length + (k - h.length), k1, k2, k3, by rw [List.length_append, List.length_append, List.length_map, e1, k4], ?_, fun j o ho hg => ?_⟩⟩
  · intro i j o o1 hi hj gi gj hij
    dsimp only at hij
    by_cases zi : i < h.length
    · rw [List.getElem?_append_left zi] at hi
      rw [if_pos zi] at hij
      have := hps i o hi gi
      by_cases zj : j < h.length
      · rw [List.getElem?_append_left zj] at hj
        rw [if_pos zj] at hij
        exact e2 i j o o1 hi hj gi gj hij
      · rw [if_neg zj] at hij
        omega
    · rw [if_neg zi] at hij
      by_cases zj : j < h.length
      · rw [List.getElem?_append_left zj] at hj
        rw [if_pos zj] at hij
        have := hps j o1 hj gj
        omega
      · rw [if_neg zj] at hij
        omega
  · by_cases z : j < h.length
    · rw [List.getElem?_append_left z] at ho
      obtain ⟨a, e, f1, f2, f3⟩ := e3 j o ho hg
      refine ⟨a, e, by rw [List.getElem?_append_left (by omega)]; exact f1, ?_, ab_e_mono f3⟩
      dsimp only
      rw [if_pos z, List.getElem?_append_left (hps j o ho hg)]
      exact f2
    · rw [List.getElem?_append_right (by omega)] at ho
      obtain ⟨q, hq⟩ : ∃ q, w1[j - h.length]? = some q := ⟨_, List.getElem?_eq_getElem (by rw [k4]; exact (List.getElem?_eq_some_iff.mp ho).1)⟩
      refine ⟨q.1, q.2, ?_, ?_, k5 _ q o hq ho⟩
      · rw [List.getElem?_append_right (by omega), e1, List.getElem?_map, hq]
        rfl
      · dsimp only
        rw [if_neg z, List.getElem?_append_right (by omega), Nat.add_sub_cancel_left]
        exact hq
theorem ab_wd_ghost {D : va_G} {A : Nat → Prop} {s : State} {fa : Nat → Nat} {ρ : List Nat} {h : ab_H} {H : Heap} (hw : ab_Wd D A s fa ρ h H) : ab_Wd D A s fa (ρ ++ [0]) (h ++ [.inl (99, [])]) H := by
  obtain ⟨ws, tys, ps, hK, hP, hD, e1, e2, e3⟩ := hw
  have key : ∀ (i : Nat) (o : ab_O), (h ++ [(.inl (99, []) : ab_O)])[i]? = some o → ab_gh o = false → h[i]? = some o := by
    intro i o hi hg
    by_cases z : i < h.length
    · rwa [List.getElem?_append_left z] at hi
    · rw [List.getElem?_append_right (by omega)] at hi
      have : i - h.length = 0 ∨ 0 < i - h.length := by omega
      rcases this with q | q
      · rw [q] at hi
        cases hi
        cases hg
      · rw [List.getElem?_eq_none (by simp; omega)] at hi
        cases hi
  refine ⟨ws, tys, ps, hK, hP, hD, by simp [e1], fun i j o o1 hi hj gi gj hij => e2 i j o o1 (key i o hi gi) (key j o1 hj gj) gi gj hij, fun k o hk hg => ?_⟩
  obtain ⟨a, e, f1, f2, f3⟩ := e3 k o (key k o hk hg) hg
  have := ab_e_mono (t1 := []) (ρ1 := [0]) f3
  rw [List.append_nil] at this
  exact ⟨a, e, by rw [List.getElem?_append_left (List.getElem?_eq_some_iff.mp f1).1]; exact f1, f2, this⟩
def ab_FL (own : String) (idx ci k : Nat) : Prop := ∃ q : vw_C, ab_cl[ci]? = some q ∧ k < q.2.2 ∧ (Cond.fieldLink own idx (q.2.1 k).1 (q.2.1 k).2.1 (q.2.1 k).2.2.1 ∈ wsL_law ∨ ∃ host : String, Cond.fieldLinkNest own idx (q.2.1 k).1 (q.2.1 k).2.1 (q.2.1 k).2.2.1 host ∈ ab_nest)
def ab_PL (own : String) (ini : Bool) (idx ci k : Nat) : Prop := ∃ q : vw_C, ab_cl[ci]? = some q ∧ k < q.2.2 ∧ ((Cond.fieldLink own idx (q.2.1 k).1 (q.2.1 k).2.1 (q.2.1 k).2.2.1 ∈ wsL_law ∧ ((q.2.1 k).2.2.2 = false ∨ ((q.2.1 k).2.2.2 = true ∧ ini = true ∧ (q.2.1 k).1 = own))) ∨ ((∃ host : String, Cond.fieldLinkNest own idx (q.2.1 k).1 (q.2.1 k).2.1 (q.2.1 k).2.2.1 host ∈ ab_nest) ∧ (q.2.1 k).2.2.2 = false))
def ab_CL (own : String) (idx ci : Nat) : Prop := ∃ q : vw_C, ab_cl[ci]? = some q ∧ ci < 13 ∧ Cond.classLink own idx q.1 ∈ wsL_law ∧ Cond.instantiable q.1 q.2.2 ∈ wsL_law ∧ Cond.initialized q.1 ∈ wsL_law
theorem ab_ctok : ∀ (ci : Nat) (q : vw_C), ab_cl[ci]? = some q → (∀ k, k < q.2.2 → parseFieldDescriptor (q.2.1 k).2.2.1 = some (ab_ct ci k)) ∧ (∀ a, a < q.2.2 → ∀ b, b < q.2.2 → a ≠ b → (q.2.1 a).2.1 ≠ (q.2.1 b).2.1) := by
  intro ci q h
  match ci, h with
  | 0, h => cases h; exact ⟨tyX0_ok, nmX0⟩
  | 1, h => cases h; exact ⟨tyX1_ok, nmX1⟩
  | 2, h => cases h; exact ⟨tyX2_ok, nmX2⟩
  | 3, h => cases h; exact ⟨tyX3_ok, nmX3⟩
  | 4, h => cases h; exact ⟨tyX4_ok, nmX4⟩
  | 5, h => cases h; exact ⟨tyX5_ok, nmX5⟩
  | 6, h => cases h; exact ⟨tyX6_ok, nmX6⟩
  | 7, h => cases h; exact ⟨tyX7_ok, nmX7⟩
  | 8, h => cases h; exact ⟨tyX8_ok, nmX8⟩
  | 9, h => cases h; exact ⟨tyX9_ok, nmX9⟩
  | 10, h => cases h; exact ⟨tyX10_ok, nmX10⟩
  | 11, h => cases h; exact ⟨tyX11_ok, nmX11⟩
  | 12, h => cases h; exact ⟨tyX12_ok, nmX12⟩
  | n + 13, h => simp [ab_cl, vwCl] at h
theorem ab_ngh {ci : Nat} {q : vw_C} {fs : List Value} (h : ab_cl[ci]? = some q) : ab_gh (.inl (ci, fs)) = false := by
  have : ci < 13 := (List.getElem?_eq_some_iff.mp h).1
  unfold ab_gh
  split
  · rename_i q
    cases q
    omega
  · rfl
theorem ab_fit_v {fa : Nat → Nat} {ρ : List Nat} {ty : FieldType} {v w : Value} (h : ab_fit ty v = true) (hv : ab_v fa ρ v w) : narrow ty w = w ∧ fits ty w = true ∧ ab_live v = true := by
  unfold ab_fit at h
  split at h
  · cases hv
    exact ⟨rfl, rfl, rfl⟩
  · rename_i x
    cases hv
    have hx : x = 0 ∨ x = 1 := by simpa using h
    rcases hx with rfl | rfl
    · exact ⟨by decide, by decide, rfl⟩
    · exact ⟨by decide, by decide, rfl⟩
  · obtain ⟨a, -, rfl⟩ := hv
    exact ⟨rfl, rfl, rfl⟩
  · cases hv
    exact ⟨rfl, rfl, rfl⟩
  · obtain ⟨a, -, rfl⟩ := hv
    exact ⟨rfl, rfl, rfl⟩
  · cases hv
    exact ⟨rfl, rfl, rfl⟩
  · cases h
theorem ab_ix_in {α : Type} {l : List α} {i : Int32} {v : α} (h : ab_ix l i = some v) : vp_in i l.length ∧ l[i.toNatClampNeg]? = some v := by
  unfold ab_ix at h
  split at h
  · cases h
  · rename_i q
    exact ⟨fun z => z.elim q (fun z => absurd (List.getElem?_eq_some_iff.mp h).1 (by omega)), h⟩
theorem ab_ux_in {α : Type} {l l2 : List α} {i : Int32} {v : α} (h : ab_ux l i v = some l2) : vp_in i l.length ∧ l2 = l.set i.toNatClampNeg v := by
  unfold ab_ux at h
  split at h
  · cases h
  · rename_i q
    cases h
    exact ⟨q, rfl⟩
theorem ab_set_of {α : Type} {l : List α} {k : Nat} {v : α} {f g : Nat → α} (hf : ∀ (j : Nat) (x : α), l[j]? = some x → f j = x) (hg : ∀ j, g j = if j = k then v else f j) : ∀ (j : Nat) (x : α), (l.set k v)[j]? = some x → g j = x := by
  intro j x h
  rw [hg]
  by_cases z : j = k
  · subst z
    have hk : j < l.length := by
      have := (List.getElem?_eq_some_iff.mp h).1
      simpa using this
    rw [List.getElem?_set_self hk] at h
    rw [if_pos rfl]
    exact Option.some.inj h
  · rw [List.getElem?_set_ne (fun y => z y.symm)] at h
    rw [if_neg z]
    exact hf j x h
section Sd
variable {p : Program} {l : Launch} {e : Env} {R : Room} {s : State} {m : MethodId} {args : Array Value} {below : List Frame} {meth : Method} {c : Code} {Q : State → Prop}
variable {cc : ByteArray} {own : String} {nL : Nat} {ini : Bool} {A : Nat → Prop} {fa : Nat → Nat} {fx : Nat → List Int32} {D : va_G} {ρ0 : List Nat} {hb sb : Nat} {pc : Nat} {S S' : ab_S}
theorem ab_getfW {ci k idx : Nat} (E : ab_E p R s m args meth c cc own nL ini A fa fx) (h : ab_getf ci k S = some S') (hdg : decode cc pc = .ok (.getfield idx, 3)) (hF : ab_FL own idx ci k) (kk : ab_W p l e R s m args below meth c Q D A fa ρ0 nL hb sb (pc + 3) S') : ab_W p l e R s m args below meth c Q D A fa ρ0 nL hb sb pc S := by
  intro ρ H locs ls st cells slots hp
  obtain ⟨hx, hbb, hml, hown, hts, hini, hA, hCx, -⟩ := E
  obtain ⟨L, T, hh⟩ := S
  unfold ab_getf at h
  split at h
  · rename_i a T' hT
    dsimp only at hT
    subst hT
    obtain ⟨w, st1, rfl, b1, -, hp1⟩ := ab_pt_pop hp
    obtain ⟨ad, hr, rfl⟩ := b1
    split at h
    · rename_i cj fs ho
      split at h
      · rename_i hc
        subst hc
        obtain ⟨v, hv, h⟩ := Option.bind_eq_some_iff.mp h
        cases h
        have hg9 : ab_gh (.inl (cj, fs)) = false := ab_ngh hF.choose_spec.1
        obtain ⟨ws, tys, e1, j0, hK, hP, hD, hq, he, -⟩ := ab_wd_at hp1.1 ho hg9 hr
        obtain ⟨gs, rfl, hlen, hgs⟩ := he
        obtain ⟨⟨C, T, N⟩, hcl, hkN, hl⟩ := hF
        obtain ⟨w, hw⟩ : ∃ w, gs[k]? = some w := ⟨_, List.getElem?_eq_getElem (by rw [hlen]; exact (List.getElem?_eq_some_iff.mp hv).1)⟩
        obtain ⟨hvw, hlv⟩ := hgs k v w hv hw
        have kk1 := kk _ _ _ _ _ _ _ (ab_pt_push hp1 hvw hlv)
        rcases hl with hl | ⟨host, hl⟩
        · exact va_get (D := D) hx hbb hts (ab_clin _ _ hcl) hown hK hP _ hq hcl k hkN (hts _ hl) (fun _ z => z) hw hdg kk1
        · exact va_getN (D := D) hx hbb hts (ab_clin _ _ hcl) hown hK hP _ hq hcl k hkN (va_Nw.use rfl (hCx.2.2.1 _ hl)) (fun _ z => z) hw hdg kk1
      · cases h
    · cases h
  · cases h
theorem ab_putfW {ci k idx : Nat} (E : ab_E p R s m args meth c cc own nL ini A fa fx) (h : ab_putf ci k S = some S') (hdg : decode cc pc = .ok (.putfield idx, 3)) (hF : ab_PL own ini idx ci k) (kk : ab_W p l e R s m args below meth c Q D A fa ρ0 nL hb sb (pc + 3) S') : ab_W p l e R s m args below meth c Q D A fa ρ0 nL hb sb pc S := by
  intro ρ H locs ls st cells slots hp
  obtain ⟨hx, hbb, hml, hown, hts, hini, hA, hCx, -⟩ := E
  obtain ⟨L, T, hh⟩ := S
  unfold ab_putf at h
  split at h
  · rename_i v a T' hT
    dsimp only at hT
    subst hT
    obtain ⟨wv, st1, rfl, b0, -, hp0⟩ := ab_pt_pop hp
    obtain ⟨w, st2, rfl, b1, -, hp1⟩ := ab_pt_pop hp0
    obtain ⟨ad, hr, rfl⟩ := b1
    split at h
    · rename_i cj fs ho
      dsimp only at ho
      split at h
      · rename_i hc
        obtain ⟨rfl, hkl, hfit⟩ := hc
        cases h
        have hg9 : ab_gh (.inl (cj, fs)) = false := ab_ngh hF.choose_spec.1
        obtain ⟨ws, tys, e1, j0, hK, hP, hD, hq, he, hset⟩ := ab_wd_at hp1.1 ho hg9 hr
        obtain ⟨gs, rfl, hlen, hgs⟩ := he
        obtain ⟨⟨C, T, N⟩, hcl, hkN, hfn⟩ := hF
        obtain ⟨g1, g2, g3⟩ := ab_fit_v hfit b0
        obtain ⟨hty, hnm⟩ := ab_ctok _ _ hcl
        have hd : parseFieldDescriptor (T k).2.2.1 = some (ab_ct cj k) := hty k hkN
        have fin : ∀ (H1 : Heap) (locs1 : List Loc), va_P D ab_cl (ws.set j0 (ad, .inr (cj, gs.set k wv))) H1 → va_D A (ws.set j0 (ad, .inr (cj, gs.set k wv))) → va_S A s.heap H1 locs1 → W p l e R s m args below meth c H1 locs1 cells slots Q (F0 m (pc + 3) ls st2) := by
          intro H1 locs1 hP1 hD1 hS1
          have hw1 : ab_Wd D A s fa ρ (hh.set a (.inl (cj, fs.set k v))) H1 := hset _ _ H1 hP1 hD1 ⟨_, rfl, by simp [hlen], fun j x y hj hy => by
            by_cases z : j = k
            · subst z
              rw [List.getElem?_set_self hkl] at hj
              rw [List.getElem?_set_self (by rw [hlen]; exact hkl)] at hy
              cases hj
              cases hy
              exact ⟨b0, g3⟩
            · rw [List.getElem?_set_ne (fun y => z y.symm)] at hj hy
              exact hgs j x y hj hy⟩
          obtain ⟨-, -, q3, q4, q5, q6, q7⟩ := hp1
          exact kk _ _ _ _ _ _ _ ⟨hw1, hS1, q3, q4, q5, by simpa using q6, by
            show sb + slots = ab_hsz (hh.set a (.inl (cj, fs.set k v)))
            rw [ab_hsz_set ho (by simp [ab_osz])]; exact q7⟩
        rcases hfn with ⟨hl, hfn | ⟨hfn, hi, hdecl⟩⟩ | ⟨⟨host, hl⟩, hfn⟩
        · exact va_put (D := D) hx hbb hts (ab_clin _ _ hcl) (ab_ct cj) hty hnm hown hK hP hD hp1.2.1 _ hq hcl k hkN (hts _ hl) (fun _ z => z) hfn hd g1 g2 (by rw [hlen]; exact hkl) hdg fin
        · exact va_putF (D := D) hx hbb hts (ab_clin _ _ hcl) (ab_ct cj) hty hnm hown hK hP hD hp1.2.1 _ hq hcl k hkN (hts _ hl) (fun _ z => z) hfn (hini hi) hdecl hd g1 g2 (by rw [hlen]; exact hkl) hdg fin
        · exact va_putN (D := D) hx hbb hts (ab_clin _ _ hcl) (ab_ct cj) hty hnm hown hK hP hD hp1.2.1 _ hq hcl k hkN (va_Nw.use rfl (hCx.2.2.1 _ hl)) (fun _ z => z) hfn hd g1 g2 (by rw [hlen]; exact hkl) hdg fin
      · cases h
    · cases h
  · cases h
theorem ab_getsW {idx : Nat} (E : ab_E p R s m args meth c cc own nL ini A fa fx) (hdg : decode cc pc = .ok (.getstatic idx, 3)) (hF : Cond.fieldLink own idx "Roomandhour$Search" "POWERS" "[I" ∈ wsL_law) (kk : ab_W p l e R s m args below meth c Q D A fa ρ0 nL hb sb (pc + 3) (S.1, .retAddr 0 :: S.2.1, S.2.2)) : ab_W p l e R s m args below meth c Q D A fa ρ0 nL hb sb pc S := by
  intro ρ H locs ls st cells slots hp
  obtain ⟨hx, hbb, hml, hown, hts, hini, hA, hCx, -⟩ := E
  exact va_gets hx hbb hCx.2.1 hp.2.1 hown (hts _ hF) (fun _ z => z) hdg (kk _ _ _ _ _ _ _ (ab_pt_push (L := S.1) (T := S.2.1) (h := S.2.2) hp ⟨_, rfl, fun _ => rfl⟩ rfl))
theorem ab_ialdW {ty : FieldType} {i : Instr} (E : ab_E p R s m args meth c cc own nL ini A fa fx) (h : ab_iald fx ty S = some S') (hty : (ty = .int ∧ i = .iaload) ∨ (ty = .byte ∧ i = .baload)) (hdg : decode cc pc = .ok (i, 1)) (kk : ab_W p l e R s m args below meth c Q D A fa ρ0 nL hb sb (pc + 1) S') : ab_W p l e R s m args below meth c Q D A fa ρ0 nL hb sb pc S := by
  intro ρ H locs ls st cells slots hp
  obtain ⟨hx, hbb, hml, hown, hts, hini, hA, hCx, -⟩ := E
  obtain ⟨L, T, hh⟩ := S
  unfold ab_iald at h
  split at h
  · rename_i i a T' hT
    dsimp only at hT
    subst hT
    obtain ⟨wv, st1, rfl, b0, -, hp0⟩ := ab_pt_pop hp
    obtain ⟨w, st2, rfl, b1, -, hp1⟩ := ab_pt_pop hp0
    obtain ⟨ad, hr, rfl⟩ := b1
    cases b0
    split at h
    · rename_i tz lst ho
      dsimp only at ho
      split at h
      · rename_i hc
        subst hc
        obtain ⟨v, hv, h⟩ := Option.bind_eq_some_iff.mp h
        cases h
        obtain ⟨h1, h2⟩ := ab_ix_in hv
        obtain ⟨ws, tys, e1, j0, hK, hP, hD, hq, he, hset⟩ := ab_wd_at hp1.1 ho rfl hr
        obtain ⟨cA, f, t0, rfl, hf, ht⟩ := he
        have hfv : f i.toNatClampNeg = v := hf _ _ h2
        have kk1 := kk _ _ _ _ _ _ _ (ab_pt_push hp1 (v := .int v) (w := .int (f i.toNatClampNeg)) (by rw [hfv]; rfl) rfl)
        rcases hty with ⟨rfl, rfl⟩ | ⟨rfl, rfl⟩
        · exact va_iald hx hbb hK hP _ t0 hq ht h1 hdg kk1
        · exact va_bald hx hbb hK hP _ t0 hq ht h1 hdg kk1
      · cases h
    · cases h
  · rename_i i k T' hT
    dsimp only at hT
    subst hT
    obtain ⟨wv, st1, rfl, b0, -, hp0⟩ := ab_pt_pop hp
    obtain ⟨w, st2, rfl, b1, -, hp1⟩ := ab_pt_pop hp0
    cases b0
    obtain ⟨ad, rfl, had⟩ := b1
    split at h
    · rename_i hc
      obtain ⟨hk, rfl⟩ := hc
      cases had hk
      obtain ⟨v, hv, h⟩ := Option.bind_eq_some_iff.mp h
      cases h
      obtain ⟨h1, h2⟩ := ab_ix_in hv
      rcases hty with ⟨-, rfl⟩ | ⟨q, -⟩
      · obtain ⟨hnA, hX⟩ := hCx.1 k hk
        have hlt : fa k < s.heap.size := by
          obtain ⟨scr, z, -⟩ := hX
          exact (Array.getElem?_eq_some_iff.mp z).1
        obtain ⟨scr, g1, g2, g3, g4, g5⟩ := hX
        have hltL : i.toNatClampNeg < (fx k).length := (List.getElem?_eq_some_iff.mp h2).1
        refine W.iald (v := .int ((fx k).getD i.toNatClampNeg 0)) hx hbb (by rw [hp1.2.1.2.1 _ hlt hnA]; exact g1) g2 g3 (fun z => z.elim (fun z => h1 (Or.inl z)) (fun z => by omega)) (g5 _ hltL) rfl rfl hdg (kk _ _ _ _ _ _ _ (ab_pt_push hp1 (v := .int v) ?_ rfl))
        show Value.int ((fx k).getD i.toNatClampNeg 0) = .int v
        rw [List.getD_eq_getElem?_getD, h2]
        rfl
      · cases q
    · cases h
  · cases h
theorem ab_iastW {ty : FieldType} {g : Int32 → Int32} {i : Instr} (E : ab_E p R s m args meth c cc own nL ini A fa fx) (h : ab_iast ty g S = some S') (hty : (ty = .int ∧ i = .iastore ∧ ∀ x, g x = x) ∨ (ty = .byte ∧ i = .bastore ∧ ∀ x, g x = x.toInt8.toInt32)) (hdg : decode cc pc = .ok (i, 1)) (kk : ab_W p l e R s m args below meth c Q D A fa ρ0 nL hb sb (pc + 1) S') : ab_W p l e R s m args below meth c Q D A fa ρ0 nL hb sb pc S := by
  intro ρ H locs ls st cells slots hp
  obtain ⟨hx, hbb, hml, hown, hts, hini, hA, hCx, -⟩ := E
  obtain ⟨L, T, hh⟩ := S
  unfold ab_iast at h
  split at h
  · rename_i x i a T' hT
    dsimp only at hT
    subst hT
    obtain ⟨wx, st0, rfl, b2, -, hpx⟩ := ab_pt_pop hp
    obtain ⟨wv, st1, rfl, b0, -, hp0⟩ := ab_pt_pop hpx
    obtain ⟨w, st2, rfl, b1, -, hp1⟩ := ab_pt_pop hp0
    obtain ⟨ad, hr, rfl⟩ := b1
    cases b0
    cases b2
    split at h
    · rename_i tz lst ho
      dsimp only at ho
      split at h
      · rename_i hc
        subst hc
        obtain ⟨l2, hv, h⟩ := Option.bind_eq_some_iff.mp h
        cases h
        obtain ⟨h1, rfl⟩ := ab_ux_in hv
        obtain ⟨ws, tys, e1, j0, hK, hP, hD, hq, he, hset⟩ := ab_wd_at hp1.1 ho rfl hr
        obtain ⟨cA, f, t0, rfl, hf, ht⟩ := he
        have fin : ∀ (f2 : Nat → Int32) (H1 : Heap) (locs1 : List Loc), (∀ j, f2 j = if j = i.toNatClampNeg then g x else f j) → va_P D ab_cl (ws.set j0 (ad, .inl (cA, lst.length, .inl f2))) H1 → va_D A (ws.set j0 (ad, .inl (cA, lst.length, .inl f2))) → va_S A s.heap H1 locs1 → W p l e R s m args below meth c H1 locs1 cells slots Q (F0 m (pc + 1) ls st2) := by
          intro f2 H1 locs1 hf2 hP1 hD1 hS1
          have hw1 : ab_Wd D A s fa ρ (hh.set a (.inr (.inl (tz, lst.set i.toNatClampNeg (g x))))) H1 := hset _ _ H1 hP1 hD1 ⟨cA, f2, t0, by simp, ab_set_of hf hf2, ht⟩
          obtain ⟨-, -, q3, q4, q5, q6, q7⟩ := hp1
          exact kk _ _ _ _ _ _ _ ⟨hw1, hS1, q3, q4, q5, by simpa using q6, by
            show sb + slots = ab_hsz (hh.set a _)
            rw [ab_hsz_set ho (by simp [ab_osz])]; exact q7⟩
        rcases hty with ⟨rfl, rfl, hg⟩ | ⟨rfl, rfl, hg⟩
        · exact va_iast hx hbb hK hP hD hp1.2.1 _ t0 hq ht h1 hdg (fun H1 locs1 q1 q2 q3 => fin _ H1 locs1 (fun j => by rw [hg]; rfl) q1 q2 q3)
        · exact va_bast hx hbb hK hP hD hp1.2.1 _ t0 hq ht h1 hdg (fun H1 locs1 q1 q2 q3 => fin _ H1 locs1 (fun j => by rw [hg, ← vp_nar_byte]; rfl) q1 q2 q3)
      · cases h
    · cases h
  · cases h
theorem ab_laldW (E : ab_E p R s m args meth c cc own nL ini A fa fx) (h : ab_lald S = some S') (hdg : decode cc pc = .ok (.laload, 1)) (kk : ab_W p l e R s m args below meth c Q D A fa ρ0 nL hb sb (pc + 1) S') : ab_W p l e R s m args below meth c Q D A fa ρ0 nL hb sb pc S := by
  intro ρ H locs ls st cells slots hp
  obtain ⟨hx, hbb, hml, hown, hts, hini, hA, hCx, -⟩ := E
  obtain ⟨L, T, hh⟩ := S
  unfold ab_lald at h
  split at h
  · rename_i i a T' hT
    dsimp only at hT
    subst hT
    obtain ⟨wv, st1, rfl, b0, -, hp0⟩ := ab_pt_pop hp
    obtain ⟨w, st2, rfl, b1, -, hp1⟩ := ab_pt_pop hp0
    obtain ⟨ad, hr, rfl⟩ := b1
    cases b0
    split at h
    · rename_i lst ho
      dsimp only at ho
      obtain ⟨v, hv, h⟩ := Option.bind_eq_some_iff.mp h
      cases h
      obtain ⟨h1, h2⟩ := ab_ix_in hv
      obtain ⟨ws, tys, e1, j0, hK, hP, hD, hq, he, hset⟩ := ab_wd_at hp1.1 ho rfl hr
      obtain ⟨cA, f, t0, rfl, hf, ht⟩ := he
      have hfv : f i.toNatClampNeg = v := hf _ _ h2
      exact va_lald hx hbb hK hP _ t0 hq ht h1 hdg (kk _ _ _ _ _ _ _ (ab_pt_push hp1 (v := .long v) (by rw [hfv]; rfl) rfl))
    · cases h
  · cases h
theorem ab_daldW (E : ab_E p R s m args meth c cc own nL ini A fa fx) (h : ab_dald S = some S') (hdg : decode cc pc = .ok (.daload, 1)) (kk : ab_W p l e R s m args below meth c Q D A fa ρ0 nL hb sb (pc + 1) S') : ab_W p l e R s m args below meth c Q D A fa ρ0 nL hb sb pc S := by
  intro ρ H locs ls st cells slots hp
  obtain ⟨hx, hbb, hml, hown, hts, hini, hA, hCx, -⟩ := E
  obtain ⟨L, T, hh⟩ := S
  unfold ab_dald at h
  split at h
  · rename_i i a T' hT
    dsimp only at hT
    subst hT
    obtain ⟨wv, st1, rfl, b0, -, hp0⟩ := ab_pt_pop hp
    obtain ⟨w, st2, rfl, b1, -, hp1⟩ := ab_pt_pop hp0
    obtain ⟨ad, hr, rfl⟩ := b1
    cases b0
    split at h
    · rename_i lst ho
      dsimp only at ho
      obtain ⟨v, hv, h⟩ := Option.bind_eq_some_iff.mp h
      cases h
      obtain ⟨h1, h2⟩ := ab_ix_in hv
      obtain ⟨ws, tys, e1, j0, hK, hP, hD, hq, he, hset⟩ := ab_wd_at hp1.1 ho rfl hr
      obtain ⟨cA, f, t0, rfl, hf, ht⟩ := he
      have hfv : f i.toNatClampNeg = v := hf _ _ h2
      exact va_dald hx hbb hK hP _ t0 hq ht h1 hdg (kk _ _ _ _ _ _ _ (ab_pt_push hp1 (v := .double v) (by rw [hfv]; rfl) rfl))
    · cases h
  · cases h
theorem ab_lastW (E : ab_E p R s m args meth c cc own nL ini A fa fx) (h : ab_last S = some S') (hdg : decode cc pc = .ok (.lastore, 1)) (kk : ab_W p l e R s m args below meth c Q D A fa ρ0 nL hb sb (pc + 1) S') : ab_W p l e R s m args below meth c Q D A fa ρ0 nL hb sb pc S := by
  intro ρ H locs ls st cells slots hp
  obtain ⟨hx, hbb, hml, hown, hts, hini, hA, hCx, -⟩ := E
  obtain ⟨L, T, hh⟩ := S
  unfold ab_last at h
  split at h
  · rename_i x i a T' hT
    dsimp only at hT
    subst hT
    obtain ⟨wx, st0, rfl, b2, -, hpx⟩ := ab_pt_pop hp
    obtain ⟨wv, st1, rfl, b0, -, hp0⟩ := ab_pt_pop hpx
    obtain ⟨w, st2, rfl, b1, -, hp1⟩ := ab_pt_pop hp0
    obtain ⟨ad, hr, rfl⟩ := b1
    cases b0
    cases b2
    split at h
    · rename_i lst ho
      dsimp only at ho
      obtain ⟨l2, hv, h⟩ := Option.bind_eq_some_iff.mp h
      cases h
      obtain ⟨h1, rfl⟩ := ab_ux_in hv
      obtain ⟨ws, tys, e1, j0, hK, hP, hD, hq, he, hset⟩ := ab_wd_at hp1.1 ho rfl hr
      obtain ⟨cA, f, t0, rfl, hf, ht⟩ := he
      refine va_last hx hbb hK hP hD hp1.2.1 _ t0 hq ht h1 hdg (fun H1 locs1 hP1 hD1 hS1 => ?_)
      have hw1 : ab_Wd D A s fa ρ (hh.set a (.inr (.inr (.inl (lst.set i.toNatClampNeg x))))) H1 := hset _ _ H1 hP1 hD1 ⟨cA, vp_updL f i.toNatClampNeg x, t0, by rw [List.length_set], ab_set_of hf (fun j => rfl), ht⟩
      obtain ⟨-, -, q3, q4, q5, q6, q7⟩ := hp1
      exact kk _ _ _ _ _ _ _ ⟨hw1, hS1, q3, q4, q5, by simpa using q6, by
        show sb + slots = ab_hsz (hh.set a _)
        rw [ab_hsz_set ho (by simp [ab_osz])]; exact q7⟩
    · cases h
  · cases h
theorem ab_dastW (E : ab_E p R s m args meth c cc own nL ini A fa fx) (h : ab_dast S = some S') (hdg : decode cc pc = .ok (.dastore, 1)) (kk : ab_W p l e R s m args below meth c Q D A fa ρ0 nL hb sb (pc + 1) S') : ab_W p l e R s m args below meth c Q D A fa ρ0 nL hb sb pc S := by
  intro ρ H locs ls st cells slots hp
  obtain ⟨hx, hbb, hml, hown, hts, hini, hA, hCx, -⟩ := E
  obtain ⟨L, T, hh⟩ := S
  unfold ab_dast at h
  split at h
  · rename_i x i a T' hT
    dsimp only at hT
    subst hT
    obtain ⟨wx, st0, rfl, b2, -, hpx⟩ := ab_pt_pop hp
    obtain ⟨wv, st1, rfl, b0, -, hp0⟩ := ab_pt_pop hpx
    obtain ⟨w, st2, rfl, b1, -, hp1⟩ := ab_pt_pop hp0
    obtain ⟨ad, hr, rfl⟩ := b1
    cases b0
    cases b2
    split at h
    · rename_i lst ho
      dsimp only at ho
      obtain ⟨l2, hv, h⟩ := Option.bind_eq_some_iff.mp h
      cases h
      obtain ⟨h1, rfl⟩ := ab_ux_in hv
      obtain ⟨ws, tys, e1, j0, hK, hP, hD, hq, he, hset⟩ := ab_wd_at hp1.1 ho rfl hr
      obtain ⟨cA, f, t0, rfl, hf, ht⟩ := he
      refine va_dast hx hbb hK hP hD hp1.2.1 _ t0 hq ht h1 hdg (fun H1 locs1 hP1 hD1 hS1 => ?_)
      have hw1 : ab_Wd D A s fa ρ (hh.set a (.inr (.inr (.inr (.inl (lst.set i.toNatClampNeg x)))))) H1 := hset _ _ H1 hP1 hD1 ⟨cA, vf_upd f i.toNatClampNeg x, t0, by rw [List.length_set], ab_set_of hf (fun j => rfl), ht⟩
      obtain ⟨-, -, q3, q4, q5, q6, q7⟩ := hp1
      exact kk _ _ _ _ _ _ _ ⟨hw1, hS1, q3, q4, q5, by simpa using q6, by
        show sb + slots = ab_hsz (hh.set a _)
        rw [ab_hsz_set ho (by simp [ab_osz])]; exact q7⟩
    · cases h
  · cases h
theorem ab_alenW (E : ab_E p R s m args meth c cc own nL ini A fa fx) (h : ab_alen fx S = some S') (hdg : decode cc pc = .ok (.arraylength, 1)) (kk : ab_W p l e R s m args below meth c Q D A fa ρ0 nL hb sb (pc + 1) S') : ab_W p l e R s m args below meth c Q D A fa ρ0 nL hb sb pc S := by
  intro ρ H locs ls st cells slots hp
  obtain ⟨hx, hbb, hml, hown, hts, hini, hA, hCx, -⟩ := E
  obtain ⟨L, T, hh⟩ := S
  unfold ab_alen at h
  split at h
  · rename_i a T' hT
    dsimp only at hT
    subst hT
    obtain ⟨w, st2, rfl, b1, -, hp1⟩ := ab_pt_pop hp
    obtain ⟨ad, hr, rfl⟩ := b1
    split at h
    · rename_i tz lst ho
      dsimp only at ho
      split at h
      · cases h
        obtain ⟨ws, tys, e1, j0, hK, hP, hD, hq, he, hset⟩ := ab_wd_at hp1.1 ho rfl hr
        obtain ⟨cA, f, t0, rfl, hf, ht⟩ := he
        exact va_alen hx hbb hK hP _ t0 hq ht rfl hdg (kk _ _ _ _ _ _ _ (ab_pt_push hp1 (v := .int (nI lst.length)) rfl rfl))
      · cases h
    · rename_i lst ho
      dsimp only at ho
      split at h
      · cases h
        obtain ⟨ws, tys, e1, j0, hK, hP, hD, hq, he, hset⟩ := ab_wd_at hp1.1 ho rfl hr
        obtain ⟨cA, f, t0, rfl, hf, ht⟩ := he
        exact va_alen hx hbb hK hP _ t0 hq ht rfl hdg (kk _ _ _ _ _ _ _ (ab_pt_push hp1 (v := .int (nI lst.length)) rfl rfl))
      · cases h
    · cases h
  · rename_i k T' hT
    dsimp only at hT
    subst hT
    obtain ⟨w, st2, rfl, b1, -, hp1⟩ := ab_pt_pop hp
    obtain ⟨ad, rfl, had⟩ := b1
    split at h
    · rename_i hk
      cases h
      obtain ⟨rfl, hk2⟩ := hk
      cases had (by decide)
      have hnA := (hCx.1 1 (by decide)).1
      have hX := hCx.2.2.2.2.2.2.2.2.2
      have hlt : fa 1 < s.heap.size := by
        obtain ⟨scr, z, -⟩ := hX
        exact (Array.getElem?_eq_some_iff.mp z).1
      exact va_slen hx hbb hX hlt hnA hp1.2.1 hdg (kk _ _ _ _ _ _ _ (ab_pt_push hp1 (v := .int (nI (fx 1).length)) rfl rfl))
    · cases h
  · cases h
theorem ab_aaldW (E : ab_E p R s m args meth c cc own nL ini A fa fx) (h : ab_aald S = some S') (hdg : decode cc pc = .ok (.aaload, 1)) (kk : ab_W p l e R s m args below meth c Q D A fa ρ0 nL hb sb (pc + 1) S') : ab_W p l e R s m args below meth c Q D A fa ρ0 nL hb sb pc S := by
  intro ρ H locs ls st cells slots hp
  obtain ⟨hx, hbb, hml, hown, hts, hini, hA, hCx, -⟩ := E
  obtain ⟨L, T, hh⟩ := S
  unfold ab_aald at h
  split at h
  · rename_i i a T' hT
    dsimp only at hT
    subst hT
    obtain ⟨wv, st1, rfl, b0, -, hp0⟩ := ab_pt_pop hp
    obtain ⟨w, st2, rfl, b1, -, hp1⟩ := ab_pt_pop hp0
    obtain ⟨ad, hr, rfl⟩ := b1
    cases b0
    split at h
    · rename_i lst ho
      dsimp only at ho
      obtain ⟨v, hv, h⟩ := Option.bind_eq_some_iff.mp h
      cases h
      obtain ⟨h1, h2⟩ := ab_ix_in hv
      obtain ⟨ws, tys, e1, j0, hK, hP, hD, hq, he, hset⟩ := ab_wd_at hp1.1 ho rfl hr
      obtain ⟨cA, f, t0, rfl, hf, ht⟩ := he
      have hfv := hf _ _ h2
      have hlt : i.toNatClampNeg < lst.length := Nat.not_le.mp fun q => h1 (Or.inr q)
      refine W.aald (v := va_rf (f i.toNatClampNeg)) (ty := .array .int) hx hbb (hP _ _ hq) ((hK.2 t0 _ ht).1 lst.length (fun j => va_rf (f j))) rfl (fun q => by cases q) (by show ¬ (i < 0 ∨ (arrV _ _ _).slots.size ≤ _); rw [arrV_size]; exact h1) (by show (arrV _ _ _).slots[_]? = _; rw [arrV_read _ _ hlt]) rfl rfl hdg (kk _ _ _ _ _ _ _ (ab_pt_push hp1 (v := ab_rf v) hfv ?_))
      cases v <;> rfl
    · cases h
  · cases h
end Sd
