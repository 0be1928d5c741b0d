/-! THE MACHINE FOLLOWS THE ABSTRACT ONE: arrays of arrays; every straight instruction; runs of them -/
section Sd
variable {p : Program} {l : Launch} {e : Env} {R : Room} {s : State} {m : MethodId} {args : Array Value} {below : List Frame} {meth : Method} {c : Code} {Q : State → Prop}
variable {cc : ByteArray} {own : String} {nL : Nat} {ini : Bool} {A : Nat → Prop} {fa : Nat → Nat} {fx : Nat → List Int32} {D : va_G} {ρ0 : List Nat} {hb sb : Nat} {pc : Nat} {S S' : ab_S}
theorem ab_mnaW {idx : Nat} (E : ab_E p R s m args meth c cc own nL ini A fa fx) (h : ab_mna S = some S') (hdg : decode cc pc = .ok (.multianewarray idx 2, 4)) (hF : Cond.classLink own idx "[[I" ∈ wsL_law) (hcap : S'.2.2.length ≤ hb + R.cells ∧ ab_hsz S'.2.2 ≤ sb + R.slots) (kk : ab_W p l e R s m args below meth c Q D A fa ρ0 nL hb sb (pc + 4) S') : ab_W p l e R s m args below meth c Q D A fa ρ0 nL hb sb pc S := by
  intro ρ H locs ls st cells slots hp
  obtain ⟨hx, hbb, hml, hown, hts, hini, hA, hCx, -⟩ := E
  obtain ⟨L, T, hh⟩ := S
  unfold ab_mna at h
  split at h
  · rename_i k n T' hT
    dsimp only at hT
    subst hT
    obtain ⟨w, st2, rfl, b1, -, hp1⟩ := ab_pt_pop hp
    obtain ⟨w, st3, rfl, b2, -, hp2⟩ := ab_pt_pop hp1
    cases b1
    cases b2
    split at h
    · cases h
    · rename_i hn
      cases h
      obtain ⟨ws, tys, hK, hP, hD, hlr, hpush⟩ := ab_wd_push hp2.1
      have hlr : ρ.length = hh.length := hlr
      have q6 : hb + cells = hh.length := hp.2.2.2.2.2.1
      have q7 : sb + slots = ab_hsz hh := hp.2.2.2.2.2.2
      obtain ⟨cy, kC, comp, f1, f2, f3⟩ := Cond.arrayClass_spec (hts _ ab_w_arr_int)
      have hKy : va_K D ab_cl [(cy, FieldType.int)] s := ⟨hK.1, fun j q hj => by
        match j, hj with
        | 0, hj =>
          cases hj
          exact ⟨fun n z => ⟨fun j => by simp [arrV], kC, f2, comp, f3⟩, f1⟩
        | j + 1, hj => simp at hj⟩
      obtain ⟨h1, hh1⟩ : ∃ h1 : ab_H, h1 = (oR ((List.range n.toNatClampNeg).map fun i => some (hh.length + 1 + i)) :: List.replicate n.toNatClampNeg (oI (List.replicate k.toNatClampNeg 0))) := ⟨_, rfl⟩
      have c1 : (hh ++ h1).length ≤ hb + R.cells := by rw [hh1]; exact hcap.1
      have c2 : ab_hsz (hh ++ h1) ≤ sb + R.slots := by rw [hh1]; exact hcap.2
      have hl1 : h1.length = 1 + n.toNatClampNeg := by rw [hh1]; simp; omega
      have hs1 : ab_hsz h1 = n.toNatClampNeg + n.toNatClampNeg * k.toNatClampNeg := by
        rw [hh1]
        simp [ab_hsz, ab_osz]
      rw [ab_hsz_app, hs1] at c2
      rw [List.length_append, hl1] at c1
      have n1 : n.toNatClampNeg ≤ 1000 := Nat.not_lt.mp fun z => hn (Or.inr (Or.inr (Or.inl z)))
      have n2 : k.toNatClampNeg ≤ 1000 := Nat.not_lt.mp fun z => hn (Or.inr (Or.inr (Or.inr z)))
      refine va_mna (D := D) (X := ws) (L := []) (f := fun _ => .inr (0, [])) (ty := .int) (cy := cy) (z := (k.toNatClampNeg, .inl fun _ => 0)) hx hbb hown (hts _ hF) hCx.2.2.2.1 (hts _ ab_w_arr_int) f1 hK (by simpa [va_pl] using hP) (by simpa [va_pl] using hD) hp2.2.1 hA (fun z => hn (Or.inl z)) (fun z => hn (Or.inr (Or.inl z))) rfl rfl (by omega) (by show _ * 4 ≤ _; omega) (by omega) rfl rfl (by omega) (by omega) (fun cz => by rw [vp_cell_i]; exact arrV_new cz _ _) hdg (fun q r cA H1 hinj hnin hK1 hP1 hD1 hS1 => ?_)
      obtain ⟨w1, hw1⟩ : ∃ w1 : va_W, w1 = (q, (.inl (cA, n.toNatClampNeg, .inr (.inr (.inr (.inr (fun i => if i < n.toNatClampNeg then some (r i) else none))))) : va_E)) :: (List.range n.toNatClampNeg).map (fun i => (r i, (.inl (cy, k.toNatClampNeg, .inl fun _ => 0) : va_E))) := ⟨_, rfl⟩
      have hww : (ws ++ [(q, (.inl (cA, n.toNatClampNeg, .inr (.inr (.inr (.inr (fun i => if i < n.toNatClampNeg then some (r i) else none))))) : va_E))]) ++ va_pl ([] ++ (List.range n.toNatClampNeg).map r) (vr_up (fun _ => .inr (0, [])) ((List.range n.toNatClampNeg).map r) (.inl (cy, k.toNatClampNeg, .inl fun _ => 0))) = ws ++ w1 := by
        rw [hw1, List.append_assoc]
        congr 1
        show _ :: _ = _ :: _
        congr 1
        simp only [va_pl, List.nil_append, List.map_map]
        refine List.map_congr_left fun i hi => ?_
        simp only [Function.comp]
        rw [vr_up_in (List.mem_map.mpr ⟨i, hi, rfl⟩)]
      rw [hww] at hP1 hD1
      have hfst1 : w1.map Prod.fst = q :: (List.range n.toNatClampNeg).map r := by
        rw [hw1]
        simp [Function.comp_def]
      have hwd : ab_Wd D A s fa (ρ ++ w1.map Prod.fst) (hh ++ h1) H1 := hpush [(cA, .array .int), (cy, .int)] w1 h1 H1 (by have := hK1.app hKy; rwa [List.append_assoc] at this) hP1 hD1 (by rw [hl1, hw1]; simp; omega) (fun j q1 o1 hj1 hj2 => by
        rw [hfst1]
        have hty0 : (tys ++ [(cA, FieldType.array .int), (cy, .int)])[tys.length]? = some (cA, FieldType.array .int) := by rw [List.getElem?_append_right (Nat.le_refl _)]; simp
        have hty1 : (tys ++ [(cA, FieldType.array .int), (cy, .int)])[tys.length + 1]? = some (cy, FieldType.int) := by rw [List.getElem?_append_right (by omega)]; simp
        rw [hw1] at hj1
        rw [hh1] at hj2
        match j, hj1, hj2 with
        | 0, hj1, hj2 =>
          cases hj1
          cases hj2
          refine ⟨cA, _, tys.length, by simp; rfl, fun j x hj => ?_, hty0⟩
          rw [List.getElem?_map] at hj
          by_cases hjn : j < n.toNatClampNeg
          · rw [List.getElem?_range hjn] at hj
            cases hj
            refine ⟨r j, ?_, by simp [hjn, va_rf]⟩
            rw [List.getElem?_append_right (by omega), show hh.length + 1 + j - ρ.length = j + 1 by omega]
            simp [hjn]
          · simp [hjn] at hj
        | j + 1, hj1, hj2 =>
          simp only [List.getElem?_cons_succ] at hj1 hj2
          rw [List.getElem?_replicate] at hj2
          by_cases hjn : j < n.toNatClampNeg
          · rw [if_pos hjn] at hj2
            cases hj2
            rw [List.getElem?_map, List.getElem?_range hjn] at hj1
            cases hj1
            refine ⟨cy, fun _ => 0, tys.length + 1, by simp, fun i x hi => ?_, hty1⟩
            rw [List.getElem?_replicate] at hi
            split at hi
            · cases hi; rfl
            · cases hi
          · rw [if_neg hjn] at hj2
            cases hj2)
      have hp3 := ab_pt_made (k := 1 + n.toNatClampNeg) (n := n.toNatClampNeg + n.toNatClampNeg * k.toNatClampNeg) hp2 hwd hS1 hl1 hs1
      have hv : ab_v fa (ρ ++ w1.map Prod.fst) (.ref hh.length) (.ref q) := ⟨q, by rw [hfst1, List.getElem?_append_right (by omega), hlr]; simp, rfl⟩
      have hk := kk _ _ _ _ _ _ _ (by
        have := ab_pt_push hp3 (v := .ref hh.length) hv rfl
        rw [hh1] at this
        exact this)
      rw [Nat.add_assoc, Nat.add_assoc]
      exact hk
  · cases h
end Sd
