/-! THE MACHINE FOLLOWS THE ABSTRACT ONE: reading and writing cells -/
theorem ab_wd_at {D : va_G} {A : Nat → Prop} {s : State} {fa : Nat → Nat} {ρ : List Nat} {h : ab_H} {H : Heap} {k a : Nat} {o : ab_O} (hw : ab_Wd D A s fa ρ h H) (hk : h[k]? = some o) (hr : ρ[k]? = some a) :
    ∃ (ws : va_W) (tys : List (ClassId × FieldType)) (e : va_E), va_K D ab_cl tys s ∧ va_P D ab_cl ws H ∧ va_D A ws ∧ ws[k]? = some (a, e) ∧ ab_e fa tys ρ e o ∧
      (∀ (e1 : va_E) (o1 : ab_O) (H1 : Heap), va_P D ab_cl (ws.set k (a, e1)) H1 → va_D A (ws.set k (a, e1)) → ab_e fa tys ρ e1 o1 → ab_Wd D A s fa ρ (h.set k o1) H1) := by
  obtain ⟨ws, tys, hK, hP, hD, e1, e2, e3⟩ := hw
  obtain ⟨q, hq⟩ : ∃ q, ws[k]? = some q := by
    have : k < ws.length := by rw [e2]; exact (List.getElem?_eq_some_iff.mp hk).1
    exact ⟨_, List.getElem?_eq_getElem this⟩
  have ha : q.1 = a := by
    subst e1
    rw [List.getElem?_map, hq] at hr
    exact Option.some.inj hr
  obtain ⟨b, e⟩ := q
  dsimp only at ha
  subst ha
  refine ⟨ws, tys, e, hK, hP, hD, hq, e3 k _ o hq hk, fun f1 o1 H1 hP1 hD1 he => ⟨_, tys, hK, hP1, hD1, ?_, by simp [e2], fun j q1 o2 hj ho => ?_⟩⟩
  · rw [List.map_set, e1]
    refine List.ext_getElem? fun j => ?_
    by_cases z : j = k
    · subst z
      rw [List.getElem?_set_self (List.getElem?_eq_some_iff.mp hr).1, hr]
    · rw [List.getElem?_set_ne (fun y => z y.symm)]
  · by_cases z : j = k
    · subst z
      rw [List.getElem?_set_self (List.getElem?_eq_some_iff.mp hq).1] at hj
      rw [List.getElem?_set_self (List.getElem?_eq_some_iff.mp hk).1] at ho
      cases hj
      cases ho
      exact he
    · rw [List.getElem?_set_ne (fun y => z y.symm)] at hj ho
      exact e3 j q1 o2 hj ho
theorem ab_wd_push {D : va_G} {A : Nat → Prop} {s : State} {fa : Nat → Nat} {ρ : List Nat} {h : ab_H} {H : Heap} (hw : ab_Wd D A s fa ρ h H) :
    ∃ (ws : va_W) (tys : List (ClassId × FieldType)), va_K D ab_cl tys s ∧ va_P D ab_cl ws H ∧ va_D A ws ∧ ws.length = h.length ∧ ρ.length = h.length ∧ ws.map Prod.fst = ρ ∧
      (∀ (t1 : List (ClassId × FieldType)) (w1 : va_W) (h1 : ab_H) (H1 : Heap), va_K D ab_cl (tys ++ t1) s → va_P D ab_cl (ws ++ w1) H1 → va_D A (ws ++ w1) → w1.length = h1.length → (∀ (k : Nat) (q : Nat × va_E) (o : ab_O), w1[k]? = some q → h1[k]? = some o → ab_e fa (tys ++ t1) (ρ ++ w1.map Prod.fst) q.2 o) → ab_Wd D A s fa (ρ ++ w1.map Prod.fst) (h ++ h1) H1) := by
  obtain ⟨ws, tys, hK, hP, hD, e1, e2, e3⟩ := hw
  refine ⟨ws, tys, hK, hP, hD, e2, by rw [← e1, List.length_map, e2], e1, fun t1 w1 h1 H1 k1 k2 k3 k4 k5 => ⟨_, _, k1, k2, k3, by rw [List.map_append, e1], by rw [List.length_append, List.length_append, e2, k4], fun j q o hj ho => ?_⟩⟩
  by_cases z : j < ws.length
  · rw [List.getElem?_append_left z] at hj
    rw [List.getElem?_append_left (by rw [← e2]; exact z)] at ho
    exact ab_e_mono (e3 j q o hj ho)
  · rw [List.getElem?_append_right (by omega)] at hj
    rw [List.getElem?_append_right (by omega), ← e2] at ho
    exact k5 _ q o hj ho
def ab_FL (own : String) (idx ci k : Nat) : Prop := ∃ q : vw_C, ab_cl[ci]? = some q ∧ k < q.2.2 ∧ (Cond.fieldLink own idx (q.2.1 k).1 (q.2.1 k).2.1 (q.2.1 k).2.2.1 ∈ wsL_law ∨ ∃ host : String, Cond.fieldLinkNest own idx (q.2.1 k).1 (q.2.1 k).2.1 (q.2.1 k).2.2.1 host ∈ ab_nest)
def ab_PL (own : String) (ini : Bool) (idx ci k : Nat) : Prop := ∃ q : vw_C, ab_cl[ci]? = some q ∧ k < q.2.2 ∧ Cond.fieldLink own idx (q.2.1 k).1 (q.2.1 k).2.1 (q.2.1 k).2.2.1 ∈ wsL_law ∧ ((q.2.1 k).2.2.2 = false ∨ ((q.2.1 k).2.2.2 = true ∧ ini = true ∧ (q.2.1 k).1 = own))
def ab_CL (own : String) (idx ci : Nat) : Prop := ∃ q : vw_C, ab_cl[ci]? = some q ∧ ci < 14 ∧ Cond.classLink own idx q.1 ∈ wsL_law ∧ Cond.instantiable q.1 q.2.2 ∈ wsL_law ∧ Cond.initialized q.1 ∈ wsL_law
theorem ab_ctok : ∀ (ci : Nat) (q : vw_C), ab_cl[ci]? = some q → (∀ k, k < q.2.2 → parseFieldDescriptor (q.2.1 k).2.2.1 = some (ab_ct ci k)) ∧ (∀ a, a < q.2.2 → ∀ b, b < q.2.2 → a ≠ b → (q.2.1 a).2.1 ≠ (q.2.1 b).2.1) := by
  intro ci q h
  match ci, h with
  | 0, h => cases h; exact ⟨tyX0_ok, nmX0⟩
  | 1, h => cases h; exact ⟨tyX1_ok, nmX1⟩
  | 2, h => cases h; exact ⟨tyX2_ok, nmX2⟩
  | 3, h => cases h; exact ⟨tyX3_ok, nmX3⟩
  | 4, h => cases h; exact ⟨tyX4_ok, nmX4⟩
  | 5, h => cases h; exact ⟨tyX5_ok, nmX5⟩
  | 6, h => cases h; exact ⟨tyX6_ok, nmX6⟩
  | 7, h => cases h; exact ⟨tyX7_ok, nmX7⟩
  | 8, h => cases h; exact ⟨tyX8_ok, nmX8⟩
  | 9, h => cases h; exact ⟨tyX9_ok, nmX9⟩
  | 10, h => cases h; exact ⟨tyX10_ok, nmX10⟩
  | 11, h => cases h; exact ⟨tyX11_ok, nmX11⟩
  | 12, h => cases h; exact ⟨tyX12_ok, nmX12⟩
  | 13, h => cases h; exact ⟨tyX13_ok, nmX13⟩
  | 14, h => cases h; exact ⟨fun k z => absurd z (by simp), fun k z => absurd z (by simp)⟩
  | 15, h => cases h; exact ⟨fun k z => absurd z (by simp), fun k z => absurd z (by simp)⟩
  | 16, h => cases h; exact ⟨fun k z => absurd z (by simp), fun k z => absurd z (by simp)⟩
  | 17, h => cases h; exact ⟨fun k z => absurd z (by simp), fun k z => absurd z (by simp)⟩
  | n + 18, h => simp [ab_cl, vwCl] at h
theorem ab_fit_v {fa : Nat → Nat} {ρ : List Nat} {ty : FieldType} {v w : Value} (h : ab_fit ty v = true) (hv : ab_v fa ρ v w) : narrow ty w = w ∧ fits ty w = true ∧ ab_live v = true := by
  unfold ab_fit at h
  split at h
  · cases hv
    exact ⟨rfl, rfl, rfl⟩
  · rename_i x
    cases hv
    have hx : x = 0 ∨ x = 1 := by simpa using h
    rcases hx with rfl | rfl
    · exact ⟨by decide, by decide, rfl⟩
    · exact ⟨by decide, by decide, rfl⟩
  · obtain ⟨a, -, rfl⟩ := hv
    exact ⟨rfl, rfl, rfl⟩
  · cases hv
    exact ⟨rfl, rfl, rfl⟩
  · obtain ⟨a, -, rfl⟩ := hv
    exact ⟨rfl, rfl, rfl⟩
  · cases hv
    exact ⟨rfl, rfl, rfl⟩
  · cases h
theorem ab_ix_in {α : Type} {l : List α} {i : Int32} {v : α} (h : ab_ix l i = some v) : vp_in i l.length ∧ l[i.toNatClampNeg]? = some v := by
  unfold ab_ix at h
  split at h
  · cases h
  · rename_i q
    exact ⟨fun z => z.elim q (fun z => absurd (List.getElem?_eq_some_iff.mp h).1 (by omega)), h⟩
theorem ab_ux_in {α : Type} {l l2 : List α} {i : Int32} {v : α} (h : ab_ux l i v = some l2) : vp_in i l.length ∧ l2 = l.set i.toNatClampNeg v := by
  unfold ab_ux at h
  split at h
  · cases h
  · rename_i q
    cases h
    exact ⟨q, rfl⟩
theorem ab_set_of {α : Type} {l : List α} {k : Nat} {v : α} {f g : Nat → α} (hf : ∀ (j : Nat) (x : α), l[j]? = some x → f j = x) (hg : ∀ j, g j = if j = k then v else f j) : ∀ (j : Nat) (x : α), (l.set k v)[j]? = some x → g j = x := by
  intro j x h
  rw [hg]
  by_cases z : j = k
  · subst z
    have hk : j < l.length := by
      have := (List.getElem?_eq_some_iff.mp h).1
      simpa using this
    rw [List.getElem?_set_self hk] at h
    rw [if_pos rfl]
    exact Option.some.inj h
  · rw [List.getElem?_set_ne (fun y => z y.symm)] at h
    rw [if_neg z]
    exact hf j x h
section Sd
variable {p : Program} {l : Launch} {e : Env} {R : Room} {s : State} {m : MethodId} {args : Array Value} {below : List Frame} {meth : Method} {c : Code} {Q : State → Prop}
variable {cc : ByteArray} {own : String} {nL : Nat} {ini : Bool} {A : Nat → Prop} {fa : Nat → Nat} {fx : Nat → List Int32} {D : va_G} {ρ0 : List Nat} {hb sb : Nat} {pc : Nat} {S S' : ab_S}
theorem ab_getfW {ci k idx : Nat} (E : ab_E p R s m args meth c cc own nL ini A fa fx) (h : ab_getf ci k S = some S') (hdg : decode cc pc = .ok (.getfield idx, 3)) (hF : ab_FL own idx ci k) (kk : ab_W p l e R s m args below meth c Q D A fa ρ0 nL hb sb (pc + 3) S') : ab_W p l e R s m args below meth c Q D A fa ρ0 nL hb sb pc S := by
  intro ρ H locs ls st cells slots hp
  obtain ⟨hx, hbb, hml, hown, hts, hini, hA, hCx, -⟩ := E
  obtain ⟨L, T, hh⟩ := S
  unfold ab_getf at h
  split at h
  · rename_i a T' hT
    dsimp only at hT
    subst hT
    obtain ⟨w, st1, rfl, b1, -, hp1⟩ := ab_pt_pop hp
    obtain ⟨ad, hr, rfl⟩ := b1
    split at h
    · rename_i cj fs ho
      split at h
      · rename_i hc
        subst hc
        obtain ⟨v, hv, h⟩ := Option.bind_eq_some_iff.mp h
        cases h
        obtain ⟨ws, tys, e1, hK, hP, hD, hq, he, -⟩ := ab_wd_at hp1.1 ho hr
        obtain ⟨gs, rfl, hlen, hgs⟩ := he
        obtain ⟨⟨C, T, N⟩, hcl, hkN, hl⟩ := hF
        obtain ⟨w, hw⟩ : ∃ w, gs[k]? = some w := ⟨_, List.getElem?_eq_getElem (by rw [hlen]; exact (List.getElem?_eq_some_iff.mp hv).1)⟩
        obtain ⟨hvw, hlv⟩ := hgs k v w hv hw
        have kk1 := kk _ _ _ _ _ _ _ (ab_pt_push hp1 hvw hlv)
        rcases hl with hl | ⟨host, hl⟩
        · exact va_get (D := D) hx hbb hts (ab_clin _ _ hcl) hown hK hP _ hq hcl k hkN (hts _ hl) (fun _ z => z) hw hdg kk1
        · exact va_getN (D := D) hx hbb hts (ab_clin _ _ hcl) hown hK hP _ hq hcl k hkN (va_Nw.use rfl (hCx.2.2.1 _ hl)) (fun _ z => z) hw hdg kk1
      · cases h
    · cases h
  · cases h
theorem ab_putfW {ci k idx : Nat} (E : ab_E p R s m args meth c cc own nL ini A fa fx) (h : ab_putf ci k S = some S') (hdg : decode cc pc = .ok (.putfield idx, 3)) (hF : ab_PL own ini idx ci k) (kk : ab_W p l e R s m args below meth c Q D A fa ρ0 nL hb sb (pc + 3) S') : ab_W p l e R s m args below meth c Q D A fa ρ0 nL hb sb pc S := by
  intro ρ H locs ls st cells slots hp
  obtain ⟨hx, hbb, hml, hown, hts, hini, hA, hCx, -⟩ := E
  obtain ⟨L, T, hh⟩ := S
  unfold ab_putf at h
  split at h
  · rename_i v a T' hT
    dsimp only at hT
    subst hT
    obtain ⟨wv, st1, rfl, b0, -, hp0⟩ := ab_pt_pop hp
    obtain ⟨w, st2, rfl, b1, -, hp1⟩ := ab_pt_pop hp0
    obtain ⟨ad, hr, rfl⟩ := b1
    split at h
    · rename_i cj fs ho
      dsimp only at ho
      split at h
      · rename_i hc
        obtain ⟨rfl, hkl, hfit⟩ := hc
        cases h
        obtain ⟨ws, tys, e1, hK, hP, hD, hq, he, hset⟩ := ab_wd_at hp1.1 ho hr
        obtain ⟨gs, rfl, hlen, hgs⟩ := he
        obtain ⟨⟨C, T, N⟩, hcl, hkN, hl, hfn⟩ := hF
        obtain ⟨g1, g2, g3⟩ := ab_fit_v hfit b0
        obtain ⟨hty, hnm⟩ := ab_ctok _ _ hcl
        have hd : parseFieldDescriptor (T k).2.2.1 = some (ab_ct cj k) := hty k hkN
        have fin : ∀ (H1 : Heap) (locs1 : List Loc), va_P D ab_cl (ws.set a (ad, .inr (cj, gs.set k wv))) H1 → va_D A (ws.set a (ad, .inr (cj, gs.set k wv))) → va_S A s.heap H1 locs1 → W p l e R s m args below meth c H1 locs1 cells slots Q (F0 m (pc + 3) ls st2) := by
          intro H1 locs1 hP1 hD1 hS1
          have hw1 : ab_Wd D A s fa ρ (hh.set a (.inl (cj, fs.set k v))) H1 := hset _ _ H1 hP1 hD1 ⟨_, rfl, by simp [hlen], fun j x y hj hy => by
            by_cases z : j = k
            · subst z
              rw [List.getElem?_set_self hkl] at hj
              rw [List.getElem?_set_self (by rw [hlen]; exact hkl)] at hy
              cases hj
              cases hy
              exact ⟨b0, g3⟩
            · rw [List.getElem?_set_ne (fun y => z y.symm)] at hj hy
              exact hgs j x y hj hy⟩
          obtain ⟨-, -, q3, q4, q5, q6, q7⟩ := hp1
          exact kk _ _ _ _ _ _ _ ⟨hw1, hS1, q3, q4, q5, by simpa using q6, by
            show sb + slots = ab_hsz (hh.set a (.inl (cj, fs.set k v)))
            rw [ab_hsz_set ho (by simp [ab_osz])]; exact q7⟩
        rcases hfn with hfn | ⟨hfn, hi, hdecl⟩
        · exact va_put (D := D) hx hbb hts (ab_clin _ _ hcl) (ab_ct cj) hty hnm hown hK hP hD hp1.2.1 _ hq hcl k hkN (hts _ hl) (fun _ z => z) hfn hd g1 g2 (by rw [hlen]; exact hkl) hdg fin
        · exact va_putF (D := D) hx hbb hts (ab_clin _ _ hcl) (ab_ct cj) hty hnm hown hK hP hD hp1.2.1 _ hq hcl k hkN (hts _ hl) (fun _ z => z) hfn (hini hi) hdecl hd g1 g2 (by rw [hlen]; exact hkl) hdg fin
      · cases h
    · cases h
  · cases h
theorem ab_getsW {idx : Nat} (E : ab_E p R s m args meth c cc own nL ini A fa fx) (hdg : decode cc pc = .ok (.getstatic idx, 3)) (hF : Cond.fieldLink own idx "Roomandhour$Search" "POWERS" "[I" ∈ wsL_law) (kk : ab_W p l e R s m args below meth c Q D A fa ρ0 nL hb sb (pc + 3) (S.1, .retAddr 0 :: S.2.1, S.2.2)) : ab_W p l e R s m args below meth c Q D A fa ρ0 nL hb sb pc S := by
  intro ρ H locs ls st cells slots hp
  obtain ⟨hx, hbb, hml, hown, hts, hini, hA, hCx, -⟩ := E
  exact va_gets hx hbb hCx.2.1 hp.2.1 hown (hts _ hF) (fun _ z => z) hdg (kk _ _ _ _ _ _ _ (ab_pt_push (L := S.1) (T := S.2.1) (h := S.2.2) hp rfl rfl))
theorem ab_ialdW {ty : FieldType} {i : Instr} (E : ab_E p R s m args meth c cc own nL ini A fa fx) (h : ab_iald fx ty S = some S') (hty : (ty = .int ∧ i = .iaload) ∨ (ty = .byte ∧ i = .baload)) (hdg : decode cc pc = .ok (i, 1)) (kk : ab_W p l e R s m args below meth c Q D A fa ρ0 nL hb sb (pc + 1) S') : ab_W p l e R s m args below meth c Q D A fa ρ0 nL hb sb pc S := by
  intro ρ H locs ls st cells slots hp
  obtain ⟨hx, hbb, hml, hown, hts, hini, hA, hCx, -⟩ := E
  obtain ⟨L, T, hh⟩ := S
  unfold ab_iald at h
  split at h
  · rename_i i a T' hT
    dsimp only at hT
    subst hT
    obtain ⟨wv, st1, rfl, b0, -, hp0⟩ := ab_pt_pop hp
    obtain ⟨w, st2, rfl, b1, -, hp1⟩ := ab_pt_pop hp0
    obtain ⟨ad, hr, rfl⟩ := b1
    cases b0
    split at h
    · rename_i tz lst ho
      dsimp only at ho
      split at h
      · rename_i hc
        subst hc
        obtain ⟨v, hv, h⟩ := Option.bind_eq_some_iff.mp h
        cases h
        obtain ⟨h1, h2⟩ := ab_ix_in hv
        obtain ⟨ws, tys, e1, hK, hP, hD, hq, he, hset⟩ := ab_wd_at hp1.1 ho hr
        obtain ⟨cA, f, t0, rfl, hf, ht⟩ := he
        have hfv : f i.toNatClampNeg = v := hf _ _ h2
        have kk1 := kk _ _ _ _ _ _ _ (ab_pt_push hp1 (v := .int v) (w := .int (f i.toNatClampNeg)) (by rw [hfv]; rfl) rfl)
        rcases hty with ⟨rfl, rfl⟩ | ⟨rfl, rfl⟩
        · exact va_iald hx hbb hK hP _ t0 hq ht h1 hdg kk1
        · exact va_bald hx hbb hK hP _ t0 hq ht h1 hdg kk1
      · cases h
    · cases h
  · rename_i i k T' hT
    dsimp only at hT
    subst hT
    obtain ⟨wv, st1, rfl, b0, -, hp0⟩ := ab_pt_pop hp
    obtain ⟨w, st2, rfl, b1, -, hp1⟩ := ab_pt_pop hp0
    cases b0
    cases b1
    split at h
    · rename_i hc
      obtain ⟨hk, rfl⟩ := hc
      obtain ⟨v, hv, h⟩ := Option.bind_eq_some_iff.mp h
      cases h
      obtain ⟨h1, h2⟩ := ab_ix_in hv
      rcases hty with ⟨-, rfl⟩ | ⟨q, -⟩
      · obtain ⟨hnA, hX⟩ := hCx.1 k hk
        have hlt : fa k < s.heap.size := by
          obtain ⟨scr, z, -⟩ := hX
          exact (Array.getElem?_eq_some_iff.mp z).1
        refine va_sld hx hbb hX hlt hnA hp1.2.1 h1 hdg (kk _ _ _ _ _ _ _ (ab_pt_push hp1 (v := .int v) ?_ rfl))
        show Value.int ((fx k).getD i.toNatClampNeg 0) = .int v
        rw [List.getD_eq_getElem?_getD, h2]
        rfl
      · cases q
    · cases h
  · cases h
theorem ab_iastW {ty : FieldType} {g : Int32 → Int32} {i : Instr} (E : ab_E p R s m args meth c cc own nL ini A fa fx) (h : ab_iast ty g S = some S') (hty : (ty = .int ∧ i = .iastore ∧ ∀ x, g x = x) ∨ (ty = .byte ∧ i = .bastore ∧ ∀ x, g x = x.toInt8.toInt32)) (hdg : decode cc pc = .ok (i, 1)) (kk : ab_W p l e R s m args below meth c Q D A fa ρ0 nL hb sb (pc + 1) S') : ab_W p l e R s m args below meth c Q D A fa ρ0 nL hb sb pc S := by
  intro ρ H locs ls st cells slots hp
  obtain ⟨hx, hbb, hml, hown, hts, hini, hA, hCx, -⟩ := E
  obtain ⟨L, T, hh⟩ := S
  unfold ab_iast at h
  split at h
  · rename_i x i a T' hT
    dsimp only at hT
    subst hT
    obtain ⟨wx, st0, rfl, b2, -, hpx⟩ := ab_pt_pop hp
    obtain ⟨wv, st1, rfl, b0, -, hp0⟩ := ab_pt_pop hpx
    obtain ⟨w, st2, rfl, b1, -, hp1⟩ := ab_pt_pop hp0
    obtain ⟨ad, hr, rfl⟩ := b1
    cases b0
    cases b2
    split at h
    · rename_i tz lst ho
      dsimp only at ho
      split at h
      · rename_i hc
        subst hc
        obtain ⟨l2, hv, h⟩ := Option.bind_eq_some_iff.mp h
        cases h
        obtain ⟨h1, rfl⟩ := ab_ux_in hv
        obtain ⟨ws, tys, e1, hK, hP, hD, hq, he, hset⟩ := ab_wd_at hp1.1 ho hr
        obtain ⟨cA, f, t0, rfl, hf, ht⟩ := he
        have fin : ∀ (f2 : Nat → Int32) (H1 : Heap) (locs1 : List Loc), (∀ j, f2 j = if j = i.toNatClampNeg then g x else f j) → va_P D ab_cl (ws.set a (ad, .inl (cA, lst.length, .inl f2))) H1 → va_D A (ws.set a (ad, .inl (cA, lst.length, .inl f2))) → va_S A s.heap H1 locs1 → W p l e R s m args below meth c H1 locs1 cells slots Q (F0 m (pc + 1) ls st2) := by
          intro f2 H1 locs1 hf2 hP1 hD1 hS1
          have hw1 : ab_Wd D A s fa ρ (hh.set a (.inr (.inl (tz, lst.set i.toNatClampNeg (g x))))) H1 := hset _ _ H1 hP1 hD1 ⟨cA, f2, t0, by simp, ab_set_of hf hf2, ht⟩
          obtain ⟨-, -, q3, q4, q5, q6, q7⟩ := hp1
          exact kk _ _ _ _ _ _ _ ⟨hw1, hS1, q3, q4, q5, by simpa using q6, by
            show sb + slots = ab_hsz (hh.set a _)
            rw [ab_hsz_set ho (by simp [ab_osz])]; exact q7⟩
        rcases hty with ⟨rfl, rfl, hg⟩ | ⟨rfl, rfl, hg⟩
        · exact va_iast hx hbb hK hP hD hp1.2.1 _ t0 hq ht h1 hdg (fun H1 locs1 q1 q2 q3 => fin _ H1 locs1 (fun j => by rw [hg]; rfl) q1 q2 q3)
        · exact va_bast hx hbb hK hP hD hp1.2.1 _ t0 hq ht h1 hdg (fun H1 locs1 q1 q2 q3 => fin _ H1 locs1 (fun j => by rw [hg, ← vp_nar_byte]; rfl) q1 q2 q3)
      · cases h
    · cases h
  · cases h
theorem ab_laldW (E : ab_E p R s m args meth c cc own nL ini A fa fx) (h : ab_lald S = some S') (hdg : decode cc pc = .ok (.laload, 1)) (kk : ab_W p l e R s m args below meth c Q D A fa ρ0 nL hb sb (pc + 1) S') : ab_W p l e R s m args below meth c Q D A fa ρ0 nL hb sb pc S := by
  intro ρ H locs ls st cells slots hp
  obtain ⟨hx, hbb, hml, hown, hts, hini, hA, hCx, -⟩ := E
  obtain ⟨L, T, hh⟩ := S
  unfold ab_lald at h
  split at h
  · rename_i i a T' hT
    dsimp only at hT
    subst hT
    obtain ⟨wv, st1, rfl, b0, -, hp0⟩ := ab_pt_pop hp
    obtain ⟨w, st2, rfl, b1, -, hp1⟩ := ab_pt_pop hp0
    obtain ⟨ad, hr, rfl⟩ := b1
    cases b0
    split at h
    · rename_i lst ho
      dsimp only at ho
      obtain ⟨v, hv, h⟩ := Option.bind_eq_some_iff.mp h
      cases h
      obtain ⟨h1, h2⟩ := ab_ix_in hv
      obtain ⟨ws, tys, e1, hK, hP, hD, hq, he, hset⟩ := ab_wd_at hp1.1 ho hr
      obtain ⟨cA, f, t0, rfl, hf, ht⟩ := he
      have hfv : f i.toNatClampNeg = v := hf _ _ h2
      exact va_lald hx hbb hK hP _ t0 hq ht h1 hdg (kk _ _ _ _ _ _ _ (ab_pt_push hp1 (v := .long v) (by rw [hfv]; rfl) rfl))
    · cases h
  · cases h
theorem ab_daldW (E : ab_E p R s m args meth c cc own nL ini A fa fx) (h : ab_dald S = some S') (hdg : decode cc pc = .ok (.daload, 1)) (kk : ab_W p l e R s m args below meth c Q D A fa ρ0 nL hb sb (pc + 1) S') : ab_W p l e R s m args below meth c Q D A fa ρ0 nL hb sb pc S := by
  intro ρ H locs ls st cells slots hp
  obtain ⟨hx, hbb, hml, hown, hts, hini, hA, hCx, -⟩ := E
  obtain ⟨L, T, hh⟩ := S
  unfold ab_dald at h
  split at h
  · rename_i i a T' hT
    dsimp only at hT
    subst hT
    obtain ⟨wv, st1, rfl, b0, -, hp0⟩ := ab_pt_pop hp
    obtain ⟨w, st2, rfl, b1, -, hp1⟩ := ab_pt_pop hp0
    obtain ⟨ad, hr, rfl⟩ := b1
    cases b0
    split at h
    · rename_i lst ho
      dsimp only at ho
      obtain ⟨v, hv, h⟩ := Option.bind_eq_some_iff.mp h
      cases h
      obtain ⟨h1, h2⟩ := ab_ix_in hv
      obtain ⟨ws, tys, e1, hK, hP, hD, hq, he, hset⟩ := ab_wd_at hp1.1 ho hr
      obtain ⟨cA, f, t0, rfl, hf, ht⟩ := he
      have hfv : f i.toNatClampNeg = v := hf _ _ h2
      exact va_dald hx hbb hK hP _ t0 hq ht h1 hdg (kk _ _ _ _ _ _ _ (ab_pt_push hp1 (v := .double v) (by rw [hfv]; rfl) rfl))
    · cases h
  · cases h
theorem ab_lastW (E : ab_E p R s m args meth c cc own nL ini A fa fx) (h : ab_last S = some S') (hdg : decode cc pc = .ok (.lastore, 1)) (kk : ab_W p l e R s m args below meth c Q D A fa ρ0 nL hb sb (pc + 1) S') : ab_W p l e R s m args below meth c Q D A fa ρ0 nL hb sb pc S := by
  intro ρ H locs ls st cells slots hp
  obtain ⟨hx, hbb, hml, hown, hts, hini, hA, hCx, -⟩ := E
  obtain ⟨L, T, hh⟩ := S
  unfold ab_last at h
  split at h
  · rename_i x i a T' hT
    dsimp only at hT
    subst hT
    obtain ⟨wx, st0, rfl, b2, -, hpx⟩ := ab_pt_pop hp
    obtain ⟨wv, st1, rfl, b0, -, hp0⟩ := ab_pt_pop hpx
    obtain ⟨w, st2, rfl, b1, -, hp1⟩ := ab_pt_pop hp0
    obtain ⟨ad, hr, rfl⟩ := b1
    cases b0
    cases b2
    split at h
    · rename_i lst ho
      dsimp only at ho
      obtain ⟨l2, hv, h⟩ := Option.bind_eq_some_iff.mp h
      cases h
      obtain ⟨h1, rfl⟩ := ab_ux_in hv
      obtain ⟨ws, tys, e1, hK, hP, hD, hq, he, hset⟩ := ab_wd_at hp1.1 ho hr
      obtain ⟨cA, f, t0, rfl, hf, ht⟩ := he
      refine va_last hx hbb hK hP hD hp1.2.1 _ t0 hq ht h1 hdg (fun H1 locs1 hP1 hD1 hS1 => ?_)
      have hw1 : ab_Wd D A s fa ρ (hh.set a (.inr (.inr (.inl (lst.set i.toNatClampNeg x))))) H1 := hset _ _ H1 hP1 hD1 ⟨cA, vp_updL f i.toNatClampNeg x, t0, by rw [List.length_set], ab_set_of hf (fun j => rfl), ht⟩
      obtain ⟨-, -, q3, q4, q5, q6, q7⟩ := hp1
      exact kk _ _ _ _ _ _ _ ⟨hw1, hS1, q3, q4, q5, by simpa using q6, by
        show sb + slots = ab_hsz (hh.set a _)
        rw [ab_hsz_set ho (by simp [ab_osz])]; exact q7⟩
    · cases h
  · cases h
theorem ab_dastW (E : ab_E p R s m args meth c cc own nL ini A fa fx) (h : ab_dast S = some S') (hdg : decode cc pc = .ok (.dastore, 1)) (kk : ab_W p l e R s m args below meth c Q D A fa ρ0 nL hb sb (pc + 1) S') : ab_W p l e R s m args below meth c Q D A fa ρ0 nL hb sb pc S := by
  intro ρ H locs ls st cells slots hp
  obtain ⟨hx, hbb, hml, hown, hts, hini, hA, hCx, -⟩ := E
  obtain ⟨L, T, hh⟩ := S
  unfold ab_dast at h
  split at h
  · rename_i x i a T' hT
    dsimp only at hT
    subst hT
    obtain ⟨wx, st0, rfl, b2, -, hpx⟩ := ab_pt_pop hp
    obtain ⟨wv, st1, rfl, b0, -, hp0⟩ := ab_pt_pop hpx
    obtain ⟨w, st2, rfl, b1, -, hp1⟩ := ab_pt_pop hp0
    obtain ⟨ad, hr, rfl⟩ := b1
    cases b0
    cases b2
    split at h
    · rename_i lst ho
      dsimp only at ho
      obtain ⟨l2, hv, h⟩ := Option.bind_eq_some_iff.mp h
      cases h
      obtain ⟨h1, rfl⟩ := ab_ux_in hv
      obtain ⟨ws, tys, e1, hK, hP, hD, hq, he, hset⟩ := ab_wd_at hp1.1 ho hr
      obtain ⟨cA, f, t0, rfl, hf, ht⟩ := he
      refine va_dast hx hbb hK hP hD hp1.2.1 _ t0 hq ht h1 hdg (fun H1 locs1 hP1 hD1 hS1 => ?_)
      have hw1 : ab_Wd D A s fa ρ (hh.set a (.inr (.inr (.inr (.inl (lst.set i.toNatClampNeg x)))))) H1 := hset _ _ H1 hP1 hD1 ⟨cA, vf_upd f i.toNatClampNeg x, t0, by rw [List.length_set], ab_set_of hf (fun j => rfl), ht⟩
      obtain ⟨-, -, q3, q4, q5, q6, q7⟩ := hp1
      exact kk _ _ _ _ _ _ _ ⟨hw1, hS1, q3, q4, q5, by simpa using q6, by
        show sb + slots = ab_hsz (hh.set a _)
        rw [ab_hsz_set ho (by simp [ab_osz])]; exact q7⟩
    · cases h
  · cases h
theorem ab_alenW (E : ab_E p R s m args meth c cc own nL ini A fa fx) (h : ab_alen fx S = some S') (hdg : decode cc pc = .ok (.arraylength, 1)) (kk : ab_W p l e R s m args below meth c Q D A fa ρ0 nL hb sb (pc + 1) S') : ab_W p l e R s m args below meth c Q D A fa ρ0 nL hb sb pc S := by
  intro ρ H locs ls st cells slots hp
  obtain ⟨hx, hbb, hml, hown, hts, hini, hA, hCx, -⟩ := E
  obtain ⟨L, T, hh⟩ := S
  unfold ab_alen at h
  split at h
  · rename_i a T' hT
    dsimp only at hT
    subst hT
    obtain ⟨w, st2, rfl, b1, -, hp1⟩ := ab_pt_pop hp
    obtain ⟨ad, hr, rfl⟩ := b1
    split at h
    · rename_i tz lst ho
      dsimp only at ho
      split at h
      · cases h
        obtain ⟨ws, tys, e1, hK, hP, hD, hq, he, hset⟩ := ab_wd_at hp1.1 ho hr
        obtain ⟨cA, f, t0, rfl, hf, ht⟩ := he
        exact va_alen hx hbb hK hP _ t0 hq ht rfl hdg (kk _ _ _ _ _ _ _ (ab_pt_push hp1 (v := .int (nI lst.length)) rfl rfl))
      · cases h
    · cases h
  · rename_i k T' hT
    dsimp only at hT
    subst hT
    obtain ⟨w, st2, rfl, b1, -, hp1⟩ := ab_pt_pop hp
    cases b1
    split at h
    · rename_i hk
      cases h
      obtain ⟨hnA, hX⟩ := hCx.1 k hk.1
      have hlt : fa k < s.heap.size := by
        obtain ⟨scr, z, -⟩ := hX
        exact (Array.getElem?_eq_some_iff.mp z).1
      exact va_slen hx hbb hX hlt hnA hp1.2.1 hdg (kk _ _ _ _ _ _ _ (ab_pt_push hp1 (v := .int (nI (fx k).length)) rfl rfl))
    · cases h
  · cases h
theorem ab_aaldW (E : ab_E p R s m args meth c cc own nL ini A fa fx) (h : ab_aald S = some S') (hdg : decode cc pc = .ok (.aaload, 1)) (kk : ab_W p l e R s m args below meth c Q D A fa ρ0 nL hb sb (pc + 1) S') : ab_W p l e R s m args below meth c Q D A fa ρ0 nL hb sb pc S := by
  intro ρ H locs ls st cells slots hp
  obtain ⟨hx, hbb, hml, hown, hts, hini, hA, hCx, -⟩ := E
  obtain ⟨L, T, hh⟩ := S
  unfold ab_aald at h
  split at h
  · rename_i i a T' hT
    dsimp only at hT
    subst hT
    obtain ⟨wv, st1, rfl, b0, -, hp0⟩ := ab_pt_pop hp
    obtain ⟨w, st2, rfl, b1, -, hp1⟩ := ab_pt_pop hp0
    obtain ⟨ad, hr, rfl⟩ := b1
    cases b0
    split at h
    · rename_i lst ho
      dsimp only at ho
      obtain ⟨v, hv, h⟩ := Option.bind_eq_some_iff.mp h
      cases h
      obtain ⟨h1, h2⟩ := ab_ix_in hv
      obtain ⟨ws, tys, e1, hK, hP, hD, hq, he, hset⟩ := ab_wd_at hp1.1 ho hr
      obtain ⟨cA, f, t0, rfl, hf, ht⟩ := he
      have hfv := hf _ _ h2
      have hlt : i.toNatClampNeg < lst.length := Nat.not_le.mp fun q => h1 (Or.inr q)
      refine W.aald (v := va_rf (f i.toNatClampNeg)) (ty := .array .int) hx hbb (hP _ _ hq) ((hK.2 t0 _ ht).1 lst.length (fun j => va_rf (f j))) rfl (fun q => by cases q) (by show ¬ (i < 0 ∨ (arrV _ _ _).slots.size ≤ _); rw [arrV_size]; exact h1) (by show (arrV _ _ _).slots[_]? = _; rw [arrV_read _ _ hlt]) rfl rfl hdg (kk _ _ _ _ _ _ _ (ab_pt_push hp1 (v := ab_rf v) hfv ?_))
      cases v <;> rfl
    · cases h
  · cases h
end Sd
