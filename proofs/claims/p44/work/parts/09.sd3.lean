/-! THE MACHINE FOLLOWS THE ABSTRACT ONE: cells that are made, cells that are copied -/
theorem ab_nfok : ∀ (ci : Nat) (q : vw_C), ab_cl[ci]? = some q → q.2.2 = ab_nf ci := by
  intro ci q h
  match ci, h with
  | 0, h => cases h; rfl
  | 1, h => cases h; rfl
  | 2, h => cases h; rfl
  | 3, h => cases h; rfl
  | 4, h => cases h; rfl
  | 5, h => cases h; rfl
  | 6, h => cases h; rfl
  | 7, h => cases h; rfl
  | 8, h => cases h; rfl
  | 9, h => cases h; rfl
  | 10, h => cases h; rfl
  | 11, h => cases h; rfl
  | 12, h => cases h; rfl
  | n + 13, h => simp [ab_cl, vwCl] at h
theorem ab_cpyL {l1 l2 : List Int32} {f g : Nat → Int32} {sp dp n : Nat} (h1 : sp + n ≤ l1.length) (h2 : dp + n ≤ l2.length) (hf : ∀ (j : Nat) (x : Int32), l1[j]? = some x → f j = x) (hg : ∀ (j : Nat) (x : Int32), l2[j]? = some x → g j = x) : (l2.take dp ++ ((l1.drop sp).take n ++ l2.drop (dp + n))).length = l2.length ∧ ∀ (j : Nat) (x : Int32), (l2.take dp ++ ((l1.drop sp).take n ++ l2.drop (dp + n)))[j]? = some x → va_cpy f g sp dp n j = x := by
  constructor
  · simp only [List.length_append, List.length_take, List.length_drop]
    omega
  · intro j x h
    unfold va_cpy
    by_cases a : j < dp
    · rw [if_neg (by omega)]
      rw [List.getElem?_append_left (by simp; omega), List.getElem?_take_of_lt a] at h
      exact hg _ _ h
    · rw [List.getElem?_append_right (by simp; omega)] at h
      have e1 : (l2.take dp).length = dp := by simp; omega
      rw [e1] at h
      by_cases b : j < dp + n
      · rw [if_pos ⟨by omega, b⟩]
        rw [List.getElem?_append_left (by simp; omega), List.getElem?_take_of_lt (by omega), List.getElem?_drop] at h
        exact hf _ _ h
      · rw [if_neg (by omega)]
        rw [List.getElem?_append_right (by simp; omega)] at h
        have e2 : ((l1.drop sp).take n).length = n := by simp; omega
        rw [e2, List.getElem?_drop] at h
        refine hg _ _ ?_
        rw [← h]
        congr 1
        omega
theorem ab_dflt (fa : Nat → Nat) (ρ : List Nat) (ty : FieldType) : ab_v fa ρ (defaultValue ty) (defaultValue ty) ∧ ab_live (defaultValue ty) = true := by
  cases ty <;> exact ⟨rfl, rfl⟩
theorem ab_def_get {ci j : Nat} (h : j < ab_nf ci) : (ab_def ci)[j]? = some (defaultValue (ab_ct ci j)) := by
  simp [ab_def, h]
theorem ab_def_len (ci : Nat) : (ab_def ci).length = ab_nf ci := by simp [ab_def]
section Sd
variable {p : Program} {l : Launch} {e : Env} {R : Room} {s : State} {m : MethodId} {args : Array Value} {below : List Frame} {meth : Method} {c : Code} {Q : State → Prop}
variable {cc : ByteArray} {own : String} {nL : Nat} {ini : Bool} {A : Nat → Prop} {fa : Nat → Nat} {fx : Nat → List Int32} {D : va_G} {ρ0 : List Nat} {hb sb : Nat} {pc : Nat} {S S' : ab_S}
/-- a point behind cells that were made -/
theorem ab_pt_made {L T : List Value} {hh h1 : ab_H} {ρ r1 : List Nat} {H H1 : Heap} {locs : List Loc} {ls : Array Slot} {st : List Value} {cells slots k n : Nat} (hp : ab_Pt D A s fa ρ0 nL hb sb (L, T, hh) ρ H locs ls st cells slots) (hw : ab_Wd D A s fa (ρ ++ r1) (hh ++ h1) H1) (hS : va_S A s.heap H1 locs) (hk : h1.length = k) (hn : ab_hsz h1 = n) : ab_Pt D A s fa ρ0 nL hb sb (L, T, hh ++ h1) (ρ ++ r1) H1 locs ls st (cells + k) (slots + n) := by
  obtain ⟨-, -, ⟨ρ1, q3⟩, q4, q5, q6, q7⟩ := hp
  refine ⟨hw, hS, ⟨ρ1 ++ r1, by rw [q3, List.append_assoc]⟩, ab_L_mono q4, ab_Ts_mono q5, ?_, ?_⟩
  · show hb + (cells + k) = (hh ++ h1).length
    rw [List.length_append, hk, ← (show hb + cells = hh.length from q6)]
    omega
  · show sb + (slots + n) = ab_hsz (hh ++ h1)
    rw [ab_hsz_app, hn, ← (show sb + slots = ab_hsz hh from q7)]
    omega
theorem ab_newW {ci idx : Nat} (E : ab_E p R s m args meth c cc own nL ini A fa fx) (hdg : decode cc pc = .ok (.new idx, 3)) (hF : ab_CL own idx ci) (hcap : S.2.2.length + 1 ≤ hb + R.cells ∧ ab_hsz (S.2.2 ++ [.inl (ci, ab_def ci)]) ≤ sb + R.slots) (kk : ab_W p l e R s m args below meth c Q D A fa ρ0 nL hb sb (pc + 3) (S.1, .ref S.2.2.length :: S.2.1, S.2.2 ++ [.inl (ci, ab_def ci)])) : ab_W p l e R s m args below meth c Q D A fa ρ0 nL hb sb pc S := by
  intro ρ H locs ls st cells slots hp
  obtain ⟨hx, hbb, hml, hown, hts, hini, hA, hCx, -⟩ := E
  obtain ⟨L, T, hh⟩ := S
  obtain ⟨⟨C, TT, N⟩, hcl, h14, hl1, hl2, hl3⟩ := hF
  have hN : N = ab_nf ci := ab_nfok _ _ hcl
  obtain ⟨hty, -⟩ := ab_ctok _ _ hcl
  obtain ⟨ws, tys, hK, hP, hD, hlr, hpush⟩ := ab_wd_push hp.1
  have hlr : ρ.length = hh.length := hlr
  have hsz : ab_hsz [(.inl (ci, ab_def ci) : ab_O)] = N := by
    have : ¬ 13 ≤ ci := by omega
    simp [ab_hsz, ab_osz, this, ab_def_len, hN]
  have q6 : hb + cells = hh.length := hp.2.2.2.2.2.1
  have q7 : sb + slots = ab_hsz hh := hp.2.2.2.2.2.2
  have c1 : hh.length + 1 ≤ hb + R.cells := hcap.1
  have c2 : ab_hsz (hh ++ [.inl (ci, ab_def ci)]) ≤ sb + R.slots := hcap.2
  rw [ab_hsz_app, hsz] at c2
  refine va_new (D := D) (N := N) (T := TT) (C := C) (fs := ab_def ci) hx hbb hts (ab_clin _ _ hcl) (ab_ct ci) hty hown (hts _ hl1) (hts _ hl2) (hts _ hl3) hK hP hD hp.2.1 hA hcl (fun j hj => ?_) (by omega) (by omega) hdg (fun q H1 hP1 hD1 hS1 => ?_)
  · have := ab_def_get (ci := ci) (j := j) (by rw [← hN]; exact hj)
    simp [vp_V, List.getD_eq_getElem?_getD, this]
  · have hw1 : ab_Wd D A s fa (ρ ++ [q]) (hh ++ [.inl (ci, ab_def ci)]) H1 := hpush [] [(q, .inr (ci, ab_def ci))] [.inl (ci, ab_def ci)] H1 (by rw [List.append_nil]; exact hK) hP1 hD1 rfl (fun k q1 o1 h1 h2 => by
      match k, h1, h2 with
      | 0, h1, h2 =>
        cases h1
        cases h2
        refine ⟨_, rfl, rfl, fun j v w hv hw => ?_⟩
        have hj : j < ab_nf ci := by rw [← ab_def_len]; exact (List.getElem?_eq_some_iff.mp hv).1
        rw [ab_def_get hj] at hv hw
        cases hv
        cases hw
        exact ab_dflt _ _ _
      | k + 1, h1, h2 => simp at h1)
    have hp1 := ab_pt_made (k := 1) hp hw1 hS1 rfl hsz
    exact kk _ _ _ _ _ _ _ (ab_pt_push hp1 (v := .ref hh.length) ⟨q, by rw [List.getElem?_append_right (by omega), hlr]; simp, rfl⟩ rfl)
theorem ab_newaW {f : Nat → ab_O} {atype : ArrayType} {ty : FieldType} (E : ab_E p R s m args meth c cc own nL ini A fa fx) (h : ab_newa f S = some S') (hdg : decode cc pc = .ok (.newarray atype, 2)) (harr : Cond.arrayClass ty ∈ wsL_law) (hty : newarray.typeOf atype = ty) (hbt : componentBytes ty ≤ 8)
    (g : Nat → vp_A) (hg : ∀ (N : Nat) (cA : ClassId), vp_cell cA (g N) = arrV cA N (fun _ => defaultValue ty)) (hfg : ∀ (N : Nat) (cA : ClassId) (tys : List (ClassId × FieldType)) (ρ : List Nat), ab_e fa (tys ++ [(cA, ty)]) ρ (.inl (cA, g N)) (f N)) (hsz : ∀ N, ab_osz (f N) = N) (hcap : S'.2.2.length ≤ hb + R.cells ∧ ab_hsz S'.2.2 ≤ sb + R.slots) (kk : ab_W p l e R s m args below meth c Q D A fa ρ0 nL hb sb (pc + 2) S') : ab_W p l e R s m args below meth c Q D A fa ρ0 nL hb sb pc S := by
  intro ρ H locs ls st cells slots hp
  obtain ⟨hx, hbb, hml, hown, hts, hini, hA, hCx, -⟩ := E
  obtain ⟨L, T, hh⟩ := S
  unfold ab_newa at h
  split at h
  · rename_i n T' hT
    dsimp only at hT
    subst hT
    obtain ⟨w, st2, rfl, b1, -, hp1⟩ := ab_pt_pop hp
    cases b1
    split at h
    · cases h
    · rename_i hn
      cases h
      obtain ⟨ws, tys, hK, hP, hD, hlr, hpush⟩ := ab_wd_push hp1.1
      have hlr : ρ.length = hh.length := hlr
      have q6 : hb + cells = hh.length := hp.2.2.2.2.2.1
      have q7 : sb + slots = ab_hsz hh := hp.2.2.2.2.2.2
      have c1 : (hh ++ [f n.toNatClampNeg]).length ≤ hb + R.cells := hcap.1
      have c2 : ab_hsz (hh ++ [f n.toNatClampNeg]) ≤ sb + R.slots := hcap.2
      have hs1 : ab_hsz [f n.toNatClampNeg] = n.toNatClampNeg := by simp [ab_hsz, hsz]
      rw [ab_hsz_app, hs1] at c2
      rw [List.length_append] at c1
      have hmul : n.toNatClampNeg * componentBytes ty ≤ 536870912 := Nat.le_trans (Nat.mul_le_mul (Nat.not_lt.mp fun z => hn (Or.inr z)) hbt) (by decide)
      refine va_newa (D := D) (a0 := g n.toNatClampNeg) hx hbb (by rw [hty]; exact hts _ harr) hty hK hP hD hp1.2.1 hA (hg _) (fun z => hn (Or.inl z)) rfl hmul (by simp at c1; omega) (by omega) hdg (fun q cA H1 hK1 hP1 hD1 hS1 => ?_)
      have hw1 : ab_Wd D A s fa (ρ ++ [q]) (hh ++ [f n.toNatClampNeg]) H1 := hpush [(cA, ty)] [(q, .inl (cA, g n.toNatClampNeg))] [f n.toNatClampNeg] H1 hK1 hP1 hD1 rfl (fun k q1 o1 h1 h2 => by
        match k, h1, h2 with
        | 0, h1, h2 =>
          cases h1
          cases h2
          exact hfg _ _ _ _
        | k + 1, h1, h2 => simp at h1)
      have hp2 := ab_pt_made (k := 1) hp1 hw1 hS1 rfl hs1
      exact kk _ _ _ _ _ _ _ (ab_pt_push hp2 (v := .ref hh.length) ⟨q, by rw [List.getElem?_append_right (by omega), hlr]; simp, rfl⟩ rfl)
  · cases h
theorem ab_objW {idx : Nat} {k : Nat} {L T : List Value} {hh : ab_H} (E : ab_E p R s m args meth c cc own nL ini A fa fx) (hdg : decode cc pc = .ok (.invokespecial idx, 3)) (hF : Cond.methodLink own idx objectInit ∈ wsL_law) (hc : (T.map fun v => v.category).sum ≤ 8) (kk : ab_W p l e R s m args below meth c Q D A fa ρ0 nL hb sb (pc + 3) (L, T, hh)) : ab_W p l e R s m args below meth c Q D A fa ρ0 nL hb sb pc (L, .ref k :: T, hh) := by
  intro ρ H locs ls st cells slots hp
  obtain ⟨hx, hbb, hml, hown, hts, hini, hA, hCx, hfr, hlo⟩ := E
  obtain ⟨w, st2, rfl, b1, -, hp1⟩ := ab_pt_pop hp
  obtain ⟨ad, hr, rfl⟩ := b1
  have hsum : (st2.map fun v => v.category).sum ≤ 8 := by rw [ab_Ts_cat hp1.2.2.2.2.1]; exact hc
  obtain ⟨lv, hl1, -⟩ := hp1.2.2.2.1
  refine W.objInit hx hbb hown (hts _ hF) (hts _ ab_w_oi1) (hts _ ab_w_oi2) rfl (by rw [hml]; exact hl1.1) rfl hdg (by omega) (by have := lv_room (m := m) (pc := pc) (ls := ls) (rest := Value.ref ad :: st2) hsum; omega) ?_
  exact W.eq (g2 := F0 m (pc + 3) ls st2) rfl (kk _ _ _ _ _ _ _ hp1)
theorem ab_copyW {idx : Nat} (E : ab_E p R s m args meth c cc own nL ini A fa fx) (h : ab_copy S = some S') (hdg : decode cc pc = .ok (.invokestatic idx, 3)) (hF : Cond.methodLink own idx arraycopyName ∈ wsL_law) (kk : ab_W p l e R s m args below meth c Q D A fa ρ0 nL hb sb (pc + 3) S') : ab_W p l e R s m args below meth c Q D A fa ρ0 nL hb sb pc S := by
  intro ρ H locs ls st cells slots hp
  obtain ⟨hx, hbb, hml, hown, hts, hini, hA, hCx, hfr, hlo⟩ := E
  obtain ⟨L, T, hh⟩ := S
  unfold ab_copy at h
  split at h
  · rename_i n dp a2 sp a1 T' hT
    dsimp only at hT
    subst hT
    obtain ⟨w0, st1, rfl, b0, -, hp1⟩ := ab_pt_pop hp
    obtain ⟨w1, st2, rfl, b1, -, hp2⟩ := ab_pt_pop hp1
    obtain ⟨w2, st3, rfl, b2, -, hp3⟩ := ab_pt_pop hp2
    obtain ⟨w3, st4, rfl, b3, -, hp4⟩ := ab_pt_pop hp3
    obtain ⟨w4, st5, rfl, b4, -, hp5⟩ := ab_pt_pop hp4
    cases b0
    cases b1
    cases b3
    obtain ⟨ad2, hr2, rfl⟩ := b2
    obtain ⟨ad1, hr1, rfl⟩ := b4
    split at h
    · rename_i l1 l2 ho1 ho2
      dsimp only at ho1 ho2
      split at h
      · cases h
      · rename_i hn
        cases h
        obtain ⟨ws, tys, ps, hK, hP, hD, hat, hset⟩ := ab_wd_all hp5.1
        obtain ⟨e1, hq1, he1⟩ := hat _ _ _ ho1 rfl hr1
        obtain ⟨e2, hq2, he2⟩ := hat _ _ _ ho2 rfl hr2
        obtain ⟨cA1, f1, t1, rfl, hf1, ht1⟩ := he1
        obtain ⟨cA2, f2, t2, rfl, hf2, ht2⟩ := he2
        have hsum : (st5.map fun v => v.category).sum ≤ 8 := by rw [ab_Ts_cat hp5.2.2.2.2.1]; exact Nat.not_lt.mp fun z => hn (Or.inr (Or.inr (Or.inr (Or.inr (Or.inr z)))))
        obtain ⟨lv, hl1, -⟩ := hp5.2.2.2.1
        have c1 : sp.toNatClampNeg + n.toNatClampNeg ≤ l1.length := Nat.not_lt.mp fun z => hn (Or.inr (Or.inr (Or.inr (Or.inl z))))
        have c2 : dp.toNatClampNeg + n.toNatClampNeg ≤ l2.length := Nat.not_lt.mp fun z => hn (Or.inr (Or.inr (Or.inr (Or.inr (Or.inl z)))))
        refine va_copyi hx hbb (by rw [hml]; exact hl1.1.symm) hown (hts _ hF) (hts _ ab_w_cp1) (hts _ ab_w_cp2) (hts _ ab_w_cp3) hK hP hD hp5.2.1 _ _ t1 t2 hq1 hq2 ht1 ht2 rfl (fun z => hn (Or.inr (Or.inr (Or.inl z)))) (fun z => hn (Or.inr (Or.inl z))) (fun z => hn (Or.inl z)) c1 c2 (fun i _ => rfl) (by omega) (Nat.le_trans (Nat.add_le_add hsum (Nat.le_refl _)) (Nat.le_trans (by decide) hlo)) hdg (fun H1 locs1 hP1 hD1 hS1 => ?_)
        obtain ⟨d1, d2⟩ := ab_cpyL c1 c2 hf1 hf2
        have hw1 := hset _ _ _ (oI (l2.take dp.toNatClampNeg ++ ((l1.drop sp.toNatClampNeg).take n.toNatClampNeg ++ l2.drop (dp.toNatClampNeg + n.toNatClampNeg)))) _ H1 ho2 rfl hr2 hP1 hD1 ⟨cA2, _, t2, by rw [d1], d2, ht2⟩
        obtain ⟨-, -, q3, q4, q5, q6, q7⟩ := hp5
        exact kk _ _ _ _ _ _ _ ⟨hw1, hS1, q3, q4, q5, by simpa using q6, by
          show sb + slots = ab_hsz (hh.set a2 _)
          rw [ab_hsz_set ho2 (by simp only [ab_osz]; exact d1)]; exact q7⟩
    · cases h
  · cases h
theorem ab_maxW {idx : Nat} (E : ab_E p R s m args meth c cc own nL ini A fa fx) (h : ab_mm (fun a b => if a < b then b else a) S = some S') (hdg : decode cc pc = .ok (.invokestatic idx, 3)) (hF : Cond.methodLink own idx Lib.Math.max.name ∈ wsL_law) (hcap : S'.2.2.length ≤ hb + R.cells ∧ ab_hsz S'.2.2 ≤ sb + R.slots) (kk : ab_W p l e R s m args below meth c Q D A fa ρ0 nL hb sb (pc + 3) S') : ab_W p l e R s m args below meth c Q D A fa ρ0 nL hb sb pc S := by
  intro ρ H locs ls st cells slots hp
  obtain ⟨hx, hbb, hml, hown, hts, hini, hA, hCx, hfr, hlo⟩ := E
  obtain ⟨L, T, hh⟩ := S
  unfold ab_mm at h
  split at h
  · rename_i y x T' hT
    dsimp only at hT
    subst hT
    obtain ⟨w0, st1, rfl, b0, -, hp1⟩ := ab_pt_pop hp
    obtain ⟨w1, st2, rfl, b1, -, hp2⟩ := ab_pt_pop hp1
    cases b0
    cases b1
    split at h
    · rename_i hc
      cases h
      have hsum : (st2.map fun v => v.category).sum ≤ 8 := by rw [ab_Ts_cat hp2.2.2.2.2.1]; exact hc
      obtain ⟨lv, hl1, -⟩ := hp2.2.2.2.1
      have q6 : hb + cells = hh.length := hp.2.2.2.2.2.1
      have q7 : sb + slots = ab_hsz hh := hp.2.2.2.2.2.2
      have c1 : hh.length ≤ hb + R.cells := hcap.1
      have c2 : ab_hsz hh ≤ sb + R.slots := hcap.2
      exact va_mmax hx hbb (by rw [hml]; exact hl1.1.symm) hown (hts _ hF) (hts _ ab_w_mx1) (hts _ ab_w_mx2) (hts _ ab_w_mx3) (by omega) (by omega) (by omega) (by omega) hdg (kk _ _ _ _ _ _ _ (ab_pt_push hp2 rfl rfl))
    · cases h
  · cases h
theorem ab_minW {idx : Nat} (E : ab_E p R s m args meth c cc own nL ini A fa fx) (h : ab_mm (fun a b => if b < a then b else a) S = some S') (hdg : decode cc pc = .ok (.invokestatic idx, 3)) (hF : Cond.methodLink own idx Lib.Math.min.name ∈ wsL_law) (hcap : S'.2.2.length ≤ hb + R.cells ∧ ab_hsz S'.2.2 ≤ sb + R.slots) (kk : ab_W p l e R s m args below meth c Q D A fa ρ0 nL hb sb (pc + 3) S') : ab_W p l e R s m args below meth c Q D A fa ρ0 nL hb sb pc S := by
  intro ρ H locs ls st cells slots hp
  obtain ⟨hx, hbb, hml, hown, hts, hini, hA, hCx, hfr, hlo⟩ := E
  obtain ⟨L, T, hh⟩ := S
  unfold ab_mm at h
  split at h
  · rename_i y x T' hT
    dsimp only at hT
    subst hT
    obtain ⟨w0, st1, rfl, b0, -, hp1⟩ := ab_pt_pop hp
    obtain ⟨w1, st2, rfl, b1, -, hp2⟩ := ab_pt_pop hp1
    cases b0
    cases b1
    split at h
    · rename_i hc
      cases h
      have hsum : (st2.map fun v => v.category).sum ≤ 8 := by rw [ab_Ts_cat hp2.2.2.2.2.1]; exact hc
      obtain ⟨lv, hl1, -⟩ := hp2.2.2.2.1
      have q6 : hb + cells = hh.length := hp.2.2.2.2.2.1
      have q7 : sb + slots = ab_hsz hh := hp.2.2.2.2.2.2
      have c1 : hh.length ≤ hb + R.cells := hcap.1
      have c2 : ab_hsz hh ≤ sb + R.slots := hcap.2
      exact va_mmin hx hbb (by rw [hml]; exact hl1.1.symm) hown (hts _ hF) (hts _ ab_w_mn1) (hts _ ab_w_mx2) (hts _ ab_w_mn3) (by omega) (by omega) (by omega) (by omega) hdg (kk _ _ _ _ _ _ _ (ab_pt_push hp2 rfl rfl))
    · cases h
  · cases h
end Sd
