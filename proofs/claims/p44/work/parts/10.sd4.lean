/-! THE MACHINE FOLLOWS THE ABSTRACT ONE: arrays of rows: made, stored into -/
section Sr
variable {p : Program} {l : Launch} {e : Env} {R : Room} {s : State} {m : MethodId} {args : Array Value} {below : List Frame} {meth : Method} {c : Code} {H : Heap} {locs : List Loc} {cells slots : Nat} {Q : State → Prop}
variable {cc : ByteArray} {pc : Nat} {ls : Array Slot} {rest : List Value} {D : va_G} {cl : List vw_C} {tys : List (ClassId × FieldType)} {ws : va_W} {A : Nat → Prop} {H0 : Heap} {a : Nat}
/-- a new array of rows of ints, all null (after the kit's row for objects) -/
theorem sd_newA (hexec : p.tables.exec = Jvm.exec) (hb : c.code = cc) {own : String} {index : Nat} (hown : s.vm.findClass own = some m.cls) (hclink : (Cond.classLink own index "[I").before args s = true) (hover : va_AOA .int s) (hK : va_K D cl tys s) (hP : va_P D cl ws H) (hD : va_D A ws) (hS : va_S A H0 H locs) (hA : ∀ q, H0.size ≤ q → A q)
    {n : Int32} {N' : Nat} (hn : ¬ n < 0) (hN : n.toNatClampNeg = N') (hbytes : N' * 4 ≤ 536870912) (hcells : cells + 1 ≤ R.cells) (hslots : slots + N' ≤ R.slots) (hdg : decode cc pc = .ok (.anewarray index, 3))
    (kk : ∀ (q : Nat) (cA : ClassId) (H1 : Heap), va_K D cl (tys ++ [(cA, .array .int)]) s → va_P D cl (ws ++ [(q, .inl (cA, N', .inr (.inr (.inr (.inr (fun _ => none))))))]) H1 → va_D A (ws ++ [(q, .inl (cA, N', .inr (.inr (.inr (.inr (fun _ => none))))))]) → va_S A H0 H1 locs →
      W p l e R s m args below meth c H1 locs (cells + 1) (slots + N') Q (F0 m (pc + 3) ls (.ref q :: rest))) : W p l e R s m args below meth c H locs cells slots Q (F0 m pc ls (.int n :: rest)) := by
  subst hN
  have et : (FieldType.array .int).toString = "[I" := by decide +kernel
  refine W.anewA (t := .int) hexec hb hown (by rw [et]; exact hclink) (va_AOA.use hover) rfl hdg rfl hn hbytes hcells hslots fun cA kA comp f1 f2 f3 f4 => ?_
  generalize hH1 : H.push ({ cls := cA, slots := Array.replicate n.toNatClampNeg .null, vm := .none } : Cell) = H1
  have z1 : H1.size = H.size + 1 := by rw [← hH1, Array.size_push]
  have e1 : H1[H.size]? = some (arrV cA n.toNatClampNeg (fun _ => .null)) := by rw [← hH1, Array.getElem?_push_size, ← arrV_new]
  have o1 : ∀ q : Nat, q < H.size → H1[q]? = H[q]? := fun q hq => by rw [← hH1, Array.getElem?_push, if_neg (Nat.ne_of_lt hq)]
  have hAr : ArrOfT s cA (.array .int) := fun N z => ⟨(fun k h => by cases h), kA, f2, comp, f3⟩
  have hk : ∀ (k : Nat) (x : Nat × va_E), ws[k]? = some x → H1[x.1]? = H[x.1]? := fun k x hx => o1 x.1 ((hP k x hx).lt)
  refine kk H.size cA H1 ⟨hK.1, fun k x hx => ?_⟩ ((hP.kept hk).app (fun k x hx => ?_)) (hD.push hP rfl (hA _ hS.1)) ⟨Nat.le_trans hS.1 (by omega), fun x h1 h2 => (o1 x (Nat.lt_of_lt_of_le h1 hS.1)).trans (hS.2.1 x h1 h2), hS.2.2⟩
  · by_cases hl : k < tys.length
    · rw [List.getElem?_append_left hl] at hx
      exact hK.2 k x hx
    · rw [List.getElem?_append_right (by omega)] at hx
      have hz : k - tys.length < 1 := (List.getElem?_eq_some_iff.mp hx).1
      rw [show k - tys.length = 0 by omega] at hx
      cases hx
      exact ⟨hAr, f1⟩
  · have hz : k < 1 := (List.getElem?_eq_some_iff.mp hx).1
    rw [show k = 0 by omega] at hx
    cases hx
    show H1[H.size]? = some (vp_cell _ _)
    rw [vp_cell_q]
    exact e1
/-- a row of ints goes into an array of rows -/
theorem sd_aast (hexec : p.tables.exec = Jvm.exec) (hb : c.code = cc) (hover : va_AOA .int s) (hK : va_K D cl tys s) (hP : va_P D cl ws H) (hD : va_D A ws) (hS : va_S A H0 H locs) (q0 t0 qk tk : Nat) {cA cB : ClassId} {n v nv : Nat} {f : Nat → Option Nat} {g : Nat → Int32} (ha : ws[q0]? = some (a, .inl (cA, n, .inr (.inr (.inr (.inr f)))))) (ht : tys[t0]? = some (cA, .array .int)) (hv : ws[qk]? = some (v, .inl (cB, nv, .inl g))) (htk : tys[tk]? = some (cB, .int)) {i : Int32} (hin : vp_in i n) (hdg : decode cc pc = .ok (.aastore, 1))
    (kk : ∀ (H1 : Heap) (locs1 : List Loc), va_P D cl (ws.set q0 (a, .inl (cA, n, .inr (.inr (.inr (.inr (va_up f i.toNatClampNeg (some v)))))))) H1 → va_D A (ws.set q0 (a, .inl (cA, n, .inr (.inr (.inr (.inr (va_up f i.toNatClampNeg (some v)))))))) → va_S A H0 H1 locs1 → W p l e R s m args below meth c H1 locs1 cells slots Q (F0 m (pc + 1) ls rest)) : W p l e R s m args below meth c H locs cells slots Q (F0 m pc ls (.ref v :: .int i :: .ref a :: rest)) := by
  have hlt : i.toNatClampNeg < n := Nat.not_le.mp fun q => hin (Or.inr q)
  have h0 : ¬ i < 0 := fun q => hin (Or.inl q)
  obtain ⟨comp, c0, kA, f1, f2, f3, f4, f5⟩ := arrayOverA_spec (va_AOA.use (A := args) hover)
  have r1 : s.vm.findClass ("[" ++ (FieldType.array .int).toString) = some cA := (hK.2 t0 _ ht).2
  have r2 : s.vm.findClass ("[" ++ FieldType.int.toString) = some cB := (hK.2 tk _ htk).2
  have et : (FieldType.array .int).toString = "[" ++ FieldType.int.toString := by decide +kernel
  cases Option.some.inj (f5.symm.trans r1)
  cases Option.some.inj (f1.symm.trans (by rw [et]; exact r2))
  obtain ⟨kC, hkC, -⟩ := Vm.findClass_spec f1
  refine W.aast hexec hb (hP q0 _ ha) (fun q h => by cases h) (fun h => by cases h) f3 f4 rfl hkC ⟨h0, by show _ < (arrV _ _ _).slots.size; rw [arrV_size]; exact hlt⟩ (hP qk _ hv) (fun q h => by cases h) hkC (va_asg _ _) rfl rfl hdg fun H1 e z oq => ?_
  refine kk H1 _ (hP.set hD ha ?_ oq) (hD.set ha) (hS.put z oq (hD.2 q0 _ ha))
  show H1[a]? = some (vp_cell _ _)
  rw [e]
  rw [vp_cell_q, vp_cell_q, arrV_store]
  congr 2
  funext q
  by_cases hq : q = i.toNatClampNeg
  · subst hq
    simp [updV, va_up, va_rf]
  · simp [updV, va_up, hq]
end Sr
section Sd
variable {p : Program} {l : Launch} {e : Env} {R : Room} {s : State} {m : MethodId} {args : Array Value} {below : List Frame} {meth : Method} {c : Code} {Q : State → Prop}
variable {cc : ByteArray} {own : String} {nL : Nat} {ini : Bool} {A : Nat → Prop} {fa : Nat → Nat} {fx : Nat → List Int32} {D : va_G} {ρ0 : List Nat} {hb sb : Nat} {pc : Nat} {S S' : ab_S}
theorem ab_anewW {idx : Nat} (E : ab_E p R s m args meth c cc own nL ini A fa fx) (h : ab_newa (fun n => oR (List.replicate n none)) S = some S') (hdg : decode cc pc = .ok (.anewarray idx, 3)) (hF : Cond.classLink own idx "[I" ∈ wsL_law) (hcap : S'.2.2.length ≤ hb + R.cells ∧ ab_hsz S'.2.2 ≤ sb + R.slots) (kk : ab_W p l e R s m args below meth c Q D A fa ρ0 nL hb sb (pc + 3) S') : ab_W p l e R s m args below meth c Q D A fa ρ0 nL hb sb pc S := by
  intro ρ H locs ls st cells slots hp
  obtain ⟨hx, hbb, hml, hown, hts, hini, hA, hCx, -⟩ := E
  obtain ⟨L, T, hh⟩ := S
  unfold ab_newa at h
  split at h
  · rename_i n T' hT
    dsimp only at hT
    subst hT
    obtain ⟨w, st2, rfl, b1, -, hp1⟩ := ab_pt_pop hp
    cases b1
    split at h
    · cases h
    · rename_i hn
      cases h
      obtain ⟨ws, tys, hK, hP, hD, hlr, hpush⟩ := ab_wd_push hp1.1
      have hlr : ρ.length = hh.length := hlr
      have q6 : hb + cells = hh.length := hp.2.2.2.2.2.1
      have q7 : sb + slots = ab_hsz hh := hp.2.2.2.2.2.2
      have c1 : (hh ++ [oR (List.replicate n.toNatClampNeg none)]).length ≤ hb + R.cells := hcap.1
      have c2 : ab_hsz (hh ++ [oR (List.replicate n.toNatClampNeg none)]) ≤ sb + R.slots := hcap.2
      have hs1 : ab_hsz [oR (List.replicate n.toNatClampNeg none)] = n.toNatClampNeg := by simp [ab_hsz, ab_osz]
      rw [ab_hsz_app, hs1] at c2
      rw [List.length_append] at c1
      have n1 : n.toNatClampNeg ≤ 100000 := Nat.not_lt.mp fun z => hn (Or.inr z)
      refine sd_newA (D := D) hx hbb hown (hts _ hF) hCx.2.2.2.1 hK hP hD hp1.2.1 hA (fun z => hn (Or.inl z)) rfl (by omega) (by simp at c1; omega) (by omega) hdg (fun q cA H1 hK1 hP1 hD1 hS1 => ?_)
      have hw1 : ab_Wd D A s fa (ρ ++ [q]) (hh ++ [oR (List.replicate n.toNatClampNeg none)]) H1 := hpush [(cA, .array .int)] [(q, .inl (cA, n.toNatClampNeg, .inr (.inr (.inr (.inr (fun _ => none))))))] [oR (List.replicate n.toNatClampNeg none)] H1 hK1 hP1 hD1 rfl (fun k q1 o1 h1 h2 => by
        match k, h1, h2 with
        | 0, h1, h2 =>
          cases h1
          cases h2
          refine ⟨cA, fun _ => none, tys.length, by rw [List.length_replicate], fun j x hj => ?_, by simp⟩
          rw [List.getElem?_replicate] at hj
          split at hj
          · cases hj; rfl
          · cases hj
        | k + 1, h1, h2 => simp at h1)
      have hp2 := ab_pt_made (k := 1) hp1 hw1 hS1 rfl hs1
      exact kk _ _ _ _ _ _ _ (ab_pt_push hp2 (v := .ref hh.length) ⟨q, by rw [List.getElem?_append_right (by omega), hlr]; simp, rfl⟩ rfl)
  · cases h
theorem ab_aastW (E : ab_E p R s m args meth c cc own nL ini A fa fx) (h : ab_aast S = some S') (hdg : decode cc pc = .ok (.aastore, 1)) (kk : ab_W p l e R s m args below meth c Q D A fa ρ0 nL hb sb (pc + 1) S') : ab_W p l e R s m args below meth c Q D A fa ρ0 nL hb sb pc S := by
  intro ρ H locs ls st cells slots hp
  obtain ⟨hx, hbb, hml, hown, hts, hini, hA, hCx, -⟩ := E
  obtain ⟨L, T, hh⟩ := S
  unfold ab_aast at h
  split at h
  · rename_i v i a T' hT
    dsimp only at hT
    subst hT
    obtain ⟨wv, st0, rfl, b2, -, hpx⟩ := ab_pt_pop hp
    obtain ⟨wi, st1, rfl, b0, -, hp0⟩ := ab_pt_pop hpx
    obtain ⟨w, st2, rfl, b1, -, hp1⟩ := ab_pt_pop hp0
    obtain ⟨ad, hr, rfl⟩ := b1
    obtain ⟨av, hrv, rfl⟩ := b2
    cases b0
    split at h
    · rename_i lv lst ho2 ho
      dsimp only at ho ho2
      obtain ⟨l2, hv, h⟩ := Option.bind_eq_some_iff.mp h
      cases h
      obtain ⟨h1, rfl⟩ := ab_ux_in hv
      obtain ⟨ws, tys, ps, hK, hP, hD, hat, hset⟩ := ab_wd_all hp1.1
      obtain ⟨e1, hq1, he1⟩ := hat _ _ _ ho2 rfl hrv
      obtain ⟨e2, hq2, he2⟩ := hat _ _ _ ho rfl hr
      obtain ⟨cA1, f1, t1, rfl, hf1, ht1⟩ := he1
      obtain ⟨cA2, f2, t2, rfl, hf2, ht2⟩ := he2
      refine sd_aast hx hbb hCx.2.2.2.1 hK hP hD hp1.2.1 _ t2 _ t1 hq2 ht2 hq1 ht1 h1 hdg (fun H1 locs1 hP1 hD1 hS1 => ?_)
      have hw1 := hset _ _ _ (oR (lst.set i.toNatClampNeg (some v))) _ H1 ho rfl hr hP1 hD1 ⟨cA2, _, t2, by rw [List.length_set], fun j x hj => by
        by_cases z : j = i.toNatClampNeg
        · subst z
          have hk : i.toNatClampNeg < lst.length := Nat.not_le.mp fun q => h1 (Or.inr q)
          rw [List.getElem?_set_self hk] at hj
          cases hj
          rw [va_up_self]
          exact ⟨av, hrv, rfl⟩
        · rw [List.getElem?_set_ne (fun y => z y.symm)] at hj
          rw [va_up_ne _ _ z]
          exact hf2 j x hj, ht2⟩
      obtain ⟨-, -, q3, q4, q5, q6, q7⟩ := hp1
      exact kk _ _ _ _ _ _ _ ⟨hw1, hS1, q3, q4, q5, by simpa using q6, by
        show sb + slots = ab_hsz (hh.set a _)
        rw [ab_hsz_set ho (by simp [ab_osz])]; exact q7⟩
    · cases h
  · cases h
end Sd
