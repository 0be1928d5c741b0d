/-! EVERY METHOD follows its abstract run -/
def ab_okE (mt : Nat → Option ab_M) (qt : Nat → Option ab_Q) (q : ab_Q) (M : ab_M) (pc : Nat) (t : ab_T) : Prop := match t.1 with
  | .athrow => q.2.2.2.2 = [] ∧ ab_okX q.1.cls q.2.1 pc t.2.2.1.1
  | .invokevirtual _ => ab_okK mt qt q.1.cls q.2.1 M q.2.2.2.2 pc t
  | .invokespecial _ => ab_okK mt qt q.1.cls q.2.1 M q.2.2.2.2 pc t
  | .invokestatic _ => ab_okK mt qt q.1.cls q.2.1 M q.2.2.2.2 pc t
  | .ireturn => ab_okV q.2.1 q.2.2.1 pc t
  | .lreturn => ab_okV q.2.1 q.2.2.1 pc t
  | .freturn => ab_okV q.2.1 q.2.2.1 pc t
  | .dreturn => ab_okV q.2.1 q.2.2.1 pc t
  | .areturn => ab_okV q.2.1 q.2.2.1 pc t
  | .return_ => ab_okV q.2.1 q.2.2.1 pc t
  | _ => ab_okB q.2.1 M pc t
def ab_okM (mt : Nat → Option ab_M) (qt : Nat → Option ab_Q) (q : ab_Q) (M : ab_M) : Prop :=
  plainName q.1.cls = true ∧ ab_okN q M ∧ (q.2.2.2.1 = true → q.1.name = "<init>") ∧ (M.2.1 = [] → q.2.2.2.2 = []) ∧ ab_tg M 0 0 = true ∧ (∀ (k : Nat) (B : Nat × List ab_I × ab_T), M.2.2[k]? = some B → B.2.2.1 = .nop → B.2.2.2.2.1.1 ≠ 7) ∧ ∀ (k : Nat) (B : Nat × List ab_I × ab_T), M.2.2[k]? = some B → ab_okR q.2.1 q.1.cls q.2.2.2.1 B.1 B.2.1 ∧ ab_okE mt qt q M (ab_end B.1 B.2.1) B.2.2
def ab_CN (l : Launch) (D : va_G) (A : Nat → Prop) (fa : Nat → Nat) (fx : Nat → List Int32) (mt : Nat → Option ab_M) (qt : Nat → Option ab_Q) (n : Nat) : Prop :=
  ∀ (d' i : Nat) (M' : ab_M) (q' : ab_Q) (as' : List Value) (h0 : ab_H) (r1 : Option Value ⊕ Nat) (h1 : ab_H), mt i = some M' → qt i = some q' → ab_go mt fx n d' i 0 (ab_in M'.1 as' h0) = some (r1, h1) → as'.length ≤ M'.1 → (∀ v ∈ as', v.category = 1) → ab_Con l D A fa fx q' M'.1 d' as' h0 r1 h1
section Al
variable {p : Program} {l : Launch} {e : Env} {R : Room} {s : State} {m : MethodId} {args : Array Value} {below : List Frame} {meth : Method} {c : Code} {Q : State → Prop}
variable {A : Nat → Prop} {fa : Nat → Nat} {fx : Nat → List Int32} {D : va_G} {ρ0 : List Nat} {hb sb : Nat}
variable {mt : Nat → Option ab_M} {qt : Nat → Option ab_Q} {M : ab_M} {q : ab_Q} {mi d : Nat} {r : Option Value ⊕ Nat} {h' : ab_H}
theorem ab_blkW (hrot : ρ0 = [] ∨ ∀ (k : Nat) (B : Nat × List ab_I × ab_T), M.2.2[k]? = some B → B.2.2.1 = .nop → B.2.2.2.2.1.1 ≠ 7) (E : ab_E p R s m args meth c q.2.1 q.1.cls M.1 q.2.2.2.1 A fa fx) (hxt : M.2.1 ≠ [] → c.exceptionTable.toList = tableOf q.2.2.2.2) (hM : mt mi = some M) (hok : ∀ (k : Nat) (B : Nat × List ab_I × ab_T), M.2.2[k]? = some B → ab_okR q.2.1 q.1.cls q.2.2.2.1 B.1 B.2.1 ∧ ab_okE mt qt q M (ab_end B.1 B.2.1) B.2.2) (hR : d + 8 ≤ R.frames ∧ 100 * d + 200 ≤ R.locals) (hcap : h'.length ≤ hb + R.cells ∧ ab_hsz h' ≤ sb + R.slots)
    (HV : ∀ (n pc : Nat) (t : ab_T) (S : ab_S), ab_okV q.2.1 q.2.2.1 pc t → ab_term mt (ab_go mt fx n) d mi M.2.1 t S = some (r, h') → ab_W p l e R s m args below meth c Q D A fa ρ0 M.1 hb sb pc S)
    (HX : ∀ (pc x : Nat) (S : ab_S), q.2.2.2.2 = [] → ab_okX q.1.cls q.2.1 pc x → (S.2.1.map fun v => v.category).sum ≤ 8 → r = .inr x → h' = S.2.2 ++ [.inl (99, [])] → ab_W p l e R s m args below meth c Q D A fa ρ0 M.1 hb sb pc S)
    (HU : ∀ (x : Nat) (L T1 : List Value) (pc2 : Nat) (q : Addr) (ce : Cell) (ρ2 : List Nat) (H1 : Heap) (locs1 : List Loc) (ls : Array Slot) (rest : List Value) (cells1 slots1 : Nat), r = .inr x → M.2.1 = [] → H1[q]? = some ce → ce.vm = .none → s.vm.findClass (ab_exn x) = some ce.cls → ab_Pt D A s fa ρ0 M.1 hb sb (L, T1, h') ρ2 H1 locs1 ls rest cells1 slots1 → vx_W p l e R s m args below meth c H1 locs1 cells1 slots1 Q (F0 m pc2 ls rest) q) :
    ∀ n : Nat, (∀ j, j < n → ab_CN l D A fa fx mt qt j) → ∀ (k : Nat) (B : Nat × List ab_I × ab_T) (S : ab_S), M.2.2[k]? = some B → ab_go mt fx n d mi k S = some (r, h') → ab_W p l e R s m args below meth c Q D A fa ρ0 M.1 hb sb B.1 S := by
  intro n
  induction n with
  | zero =>
    intro _ k B S _ h
    cases h
  | succ n ih =>
    intro hcon k B S hB h
    have ih := ih (fun j hj => hcon j (by omega))
    unfold ab_go at h
    rw [hM] at h
    dsimp only at h
    rw [hB] at h
    dsimp only at h
    obtain ⟨S1, h1, h2⟩ := Option.bind_eq_some_iff.mp h
    obtain ⟨k1, k2⟩ := hok k B hB
    have hr2 : ρ0 = [] ∨ (B.2.2.1 = .nop → B.2.2.2.2.1.1 ≠ 7) := hrot.imp id (fun z => z k B hB)
    have hle := ab_term_le (ab_go_le n) h2
    refine ab_runW E h1 k1 ⟨Nat.le_trans hle.1 hcap.1, Nat.le_trans hle.2 hcap.2⟩ ?_
    generalize ab_end B.1 B.2.1 = pc at k2 ⊢
    generalize B.2.2 = t at k2 h2 hr2
    obtain ⟨i, len, aux, tgs⟩ := t
    unfold ab_okE at k2
    split at k2
    · rename_i hi
      dsimp only at hi
      subst hi
      simp only [ab_term] at h2
      split at h2
      · rename_i hs
        cases h2
        exact HX _ _ _ k2.1 k2.2 hs rfl rfl
      · cases h2
    · rename_i j hi
      dsimp only at hi
      subst hi
      exact ab_calW E hxt k2 h2 hR hcap (hcon n (by omega)) ih HU
    · rename_i j hi
      dsimp only at hi
      subst hi
      exact ab_calW E hxt k2 h2 hR hcap (hcon n (by omega)) ih HU
    · rename_i j hi
      dsimp only at hi
      subst hi
      exact ab_calW E hxt k2 h2 hR hcap (hcon n (by omega)) ih HU
    · exact HV n _ _ _ k2 h2
    · exact HV n _ _ _ k2 h2
    · exact HV n _ _ _ k2 h2
    · exact HV n _ _ _ k2 h2
    · exact HV n _ _ _ k2 h2
    · exact HV n _ _ _ k2 h2
    · exact ab_brW hr2 E k2 h2 ih
theorem ab_entry {nL : Nat} {as' as : List Value} {ρ : List Nat} {h : ab_H} {sv : State} (hT : ab_Ts fa ρ as' as) (hc : ∀ v ∈ as', v.category = 1) (hlen : as'.length ≤ nL) (hw : ab_Wd D A sv fa ρ h sv.heap) : ab_Pt D A sv fa ρ nL h.length (ab_hsz h) (ab_in nL as' h) ρ sv.heap [] ((lg_sl as ++ List.replicate (nL - (lg_sl as).length) Slot.unset).toArray) [] 0 0 := by
  have hl := ab_sl_len hT hc
  refine ⟨hw, va_S.rf, ⟨[], by simp⟩, ⟨lv_args 0 as, lv_entry as (by omega), by simp [ab_in]; omega, fun i v hi hv => ?_⟩, trivial, rfl, rfl⟩
  simp only [ab_in] at hi
  by_cases z : i < as'.length
  · rw [List.getElem?_append_left z] at hi
    have := ab_Ts_get 0 hT hc i v hi
    rwa [Nat.zero_add] at this
  · rw [List.getElem?_append_right (by omega), List.getElem?_replicate] at hi
    split at hi
    · cases hi
      cases hv
    · cases hi
end Al
theorem ab_all {l : Launch} {D : va_G} {A : Nat → Prop} {fa : Nat → Nat} {fx : Nat → List Int32} {mt : Nat → Option ab_M} {qt : Nat → Option ab_Q} (hl : l.stackTraces = false) (hok : ∀ (i : Nat) (M : ab_M) (q : ab_Q), mt i = some M → qt i = some q → ab_okM mt qt q M) : ∀ n : Nat, ab_CN l D A fa fx mt qt n := by
  intro n
  induction n using Nat.strongRecOn with
  | ind n ih =>
    intro d i M q as' h r h' hM hq hgo hlen hcat ρ
    obtain ⟨hpl, hN, hini, hnh, h00, hnr, hblk⟩ := hok i M q hM hq
    have hle : ab_le h h' := by have := ab_go_le _ _ _ _ _ _ _ hgo; exact this
    obtain ⟨B0, hB0, hB00⟩ := ab_tg_of h00
    -- the body, whatever the head word is
    have body : ∀ (p : Program) (e : Env) (s : State) (m : MethodId) (args : Array Value) (below : List Frame) (meth : Method) (c : Code), p.tables.exec = Jvm.exec → c.code = q.2.1 → meth.sig.returnType = q.2.2.1 → meth.locks = false → c.maxLocals = M.1 → s.vm.findClass q.1.cls = some m.cls → meth.name = q.1.name → (∀ w ∈ wsL_law, w.before args s = true) → c.exceptionTable.toList = tableOf q.2.2.2.2 → ab_Pc D A fa fx ρ as' h args s →
        W p l e (ab_rm d (h'.length - h.length) (ab_hsz h' - ab_hsz h)) s m args below meth c s.heap [] 0 0 (vx_MQ below (ab_QR D A fa ρ r h') (ab_XR D A fa ρ r h') args s (h'.length - h.length) (ab_hsz h' - ab_hsz h) A) (entryFrame m args M.1) := by
      intro p e s m args below meth c hx hb hr hlocks hml hown hnm hts hxt hP
      obtain ⟨as, rfl, hT, hW, hA, hCx⟩ := hP
      have E : ab_E p (ab_rm d (h'.length - h.length) (ab_hsz h' - ab_hsz h)) s m as.toArray meth c q.2.1 q.1.cls M.1 q.2.2.2.1 A fa fx := ⟨hx, hb, hml, hown, hts, fun z => hnm.trans (hini z), hA, hCx, by simp only [ab_rm]; omega, by simp only [ab_rm]; omega⟩
      have hmc : h.length + (h'.length - h.length) = h'.length := by have := hle.1; omega
      have hms : ab_hsz h + (ab_hsz h' - ab_hsz h) = ab_hsz h' := by have := hle.2; omega
      have key := ab_blkW (p := p) (e := e) (below := below) (ρ0 := ρ) (hb := h.length) (sb := ab_hsz h) (d := d) (mi := i) (r := r) (h' := h') (Q := vx_MQ below (ab_QR D A fa ρ r h') (ab_XR D A fa ρ r h') as.toArray s (h'.length - h.length) (ab_hsz h' - ab_hsz h) A) (.inr hnr) E (fun _ => hxt) hM hblk ⟨by simp only [ab_rm]; omega, by simp only [ab_rm]; omega⟩ ⟨by simp only [ab_rm]; omega, by simp only [ab_rm]; omega⟩
        (fun n pc t S hv ht => ab_retW E hlocks hr hv ht hmc hms)
        (fun pc x S hh hX hs hrx hhx => by
          subst hrx
          subst hhx
          exact ab_thrW E hl hlocks (fun z hz => by rw [hxt, hh] at hz; exact absurd hz List.not_mem_nil) hX hs ⟨rfl, rfl⟩ (by rw [hmc]; simp) (by rw [hms, ab_hsz_app]; rfl))
        (fun x L T1 pc2 q9 ce ρ2 H1 locs1 ls rest cells1 slots1 hrx hM0 g1 g2 g3 g4 => by
          subst hrx
          have hnil := hnh hM0
          obtain ⟨f1, f2, ⟨r0, rfl⟩, -, -, f6, f7⟩ := g4
          have f6 : h.length + cells1 = h'.length := f6
          have f7 : ab_hsz h + slots1 = ab_hsz h' := f7
          refine vx_out (fun z hz => by rw [hxt, hnil] at hz; exact absurd hz List.not_mem_nil) hlocks g1 g2 g3 (fun t ht hal => ⟨rfl, ⟨r0, ab_Wd_mv hal (fun _ _ => by rw [ht]) f1⟩, ab_vaF (ρ := []) f2 (by rw [ht]; exact Nat.le_refl _) (fun _ _ => by rw [ht])⟩) f2.2.2 (by omega) (by omega))
        n (fun j hj => ih j hj) 0 B0 (ab_in M.1 as' h) hB0 hgo
      rw [hB00] at key
      rw [lg_entry_eq]
      exact key _ _ _ _ _ _ _ (ab_entry hT hcat hlen hW)
    cases hhc : q.2.2.2.2 with
    | nil =>
      refine vx_ofW (cc := q.2.1) (maxL := M.1) (ret := q.2.2.1) hpl (ab_ws0 hhc) ?_
      intro p e s m args below meth c s₁ B hml hnt hP
      have hts := atoms_spec (ws := ab_ws q M.1) B.pre
      exact body p e s m args below meth c B.exec B.bytes B.returns B.notSynchronized hml (findClass_of_methodNamed B.named) (name_of_methodNamed B.named B.method).1 (fun w hw => hts w (List.mem_cons_of_mem _ hw)) (by
        rw [hhc]
        exact List.eq_nil_iff_forall_not_mem.mpr hnt) hP
    | cons a b =>
      have hne : q.2.2.2.2 ≠ [] := by rw [hhc]; exact List.cons_ne_nil _ _
      refine vx_ofWH (cc := q.2.1) (maxL := M.1) (ret := q.2.2.1) (hh := q.2.2.2.2) hpl (ab_ws1 hne) ?_
      intro p e s m args below meth c s₁ B hml hP
      have hts := atoms_spec (ws := ab_ws q M.1) B.pre
      exact body p e s m args below meth c B.exec B.bytes B.returns B.notSynchronized hml (findClass_of_methodNamed B.named) (name_of_methodNamed B.named B.method).1 (fun w hw => hts w (List.mem_cons_of_mem _ hw)) (vx_table (x := q.1) B (hts _ (by rw [ab_ws1 hne]; exact List.mem_cons_self))) hP
