/-! CONTRACTS of methods, out of the abstract machine's runs -/
theorem ab_Nw_mv {s U : State} (hW : s.WarmedH U.vm) (h : ∀ w ∈ ab_nest, va_Nw w s) : ∀ w ∈ ab_nest, va_Nw w U := by
  intro w hw
  have h1 := h w hw
  rcases ab_nest_w w hw with ⟨a, i, b, n, d, hh, rfl⟩ | ⟨a, i, x, hh, rfl⟩
  · exact va_Nw.warmF hW h1
  · exact va_Nw.warmM hW h1
theorem ab_bad_mv {s U : State} (hW : s.WarmedH U.vm) (h : ∀ w ∈ ab_bad, va_Nw w s) : ∀ w ∈ ab_bad, va_Nw w U := by
  intro w hw
  have h1 := h w hw
  have h2 := List.all_eq_true.mp ab_bad_k w hw
  split at h2
  · exact va_Nw.warmC hW h1
  · exact va_Nw.warmD hW h1
  · cases h2
theorem va_AOA_mv {ty : FieldType} {s U : State} (hW : s.WarmedH U.vm) (h : va_AOA ty s) : va_AOA ty U := by
  have h1 : (Cond.arrayOver (.array ty)).before #[] (s.setVm U.vm) = true := by rw [Cond.arrayOver_setVmC hW.alike]; exact h
  unfold va_AOA
  simp only [Cond.before, Cond.holds, Cond.value, State.vm_setVm] at h1 ⊢
  exact h1
theorem ab_Cx_mv {A : Nat → Prop} {fa : Nat → Nat} {fx : Nat → List Int32} {s U : State} (hW : s.WarmedH U.vm) (hq : ∀ a : Nat, a < s.heap.size → ¬ A a → U.heap[a]? = s.heap[a]?) (h : ab_Cx A fa fx s) : ab_Cx A fa fx U := by
  obtain ⟨h1, h2, h3, h4, h5, h6, h7, h8, h9, h10⟩ := h
  refine ⟨fun k hk => ?_, va_Z.moved hW.alike (h2.kept hq), ab_Nw_mv hW h3, va_AOA_mv hW h4, vx_Zq.moved hW.alike (h5.kept hq), vx_Zq.moved hW.alike (h6.kept hq), fun q hq => ?_, ab_bad_mv hW h8, trivial, ?_⟩
  · obtain ⟨a, b⟩ := h1 k hk
    have hlt : fa k < s.heap.size := by
      obtain ⟨scr, z, -⟩ := b
      exact (Array.getElem?_eq_some_iff.mp z).1
    exact ⟨a, ab_Xf.moved hW.alike (b.kept (hq _ hlt a))⟩
  · obtain ⟨sa, h⟩ := h7 q hq
    exact ⟨sa, vk_R.warm hW h⟩
  · have a := (h1 1 (by decide)).1
    have hlt : fa 1 < s.heap.size := by
      obtain ⟨scr, z, -⟩ := h10
      exact (Array.getElem?_eq_some_iff.mp z).1
    exact va_X.moved hW.alike (h10.kept (hq _ hlt a))
theorem ab_Wd_mv {D : va_G} {A : Nat → Prop} {s t : State} {fa : Nat → Nat} {ρ : List Nat} {h : ab_H} {H H1 : Heap} (hvm : s.vm.Alike t.vm) (hq : ∀ q : Nat, q < H.size → H1[q]? = H[q]?) (hw : ab_Wd D A s fa ρ h H) : ab_Wd D A t fa ρ h H1 := by
  obtain ⟨ws, tys, ps, hK, hP, hD, e1, e2, e3⟩ := hw
  exact ⟨ws, tys, ps, va_K.moved hvm hK, hP.kept (fun k x hx => hq x.1 (hP k x hx).lt), hD, e1, e2, e3⟩
theorem ab_Ts_take {fa : Nat → Nat} {ρ : List Nat} : ∀ (n : Nat) {S st : List Value}, ab_Ts fa ρ S st → ab_Ts fa ρ (S.take n) (st.take n) ∧ ab_Ts fa ρ (S.drop n) (st.drop n)
  | 0, _, _, h => ⟨trivial, h⟩
  | n + 1, [], [], h => ⟨trivial, trivial⟩
  | n + 1, [], _ :: _, h => h.elim
  | n + 1, _ :: _, [], h => h.elim
  | n + 1, _ :: _, _ :: _, h => ⟨⟨h.1, (ab_Ts_take n h.2).1⟩, (ab_Ts_take n h.2).2⟩
theorem ab_Ts_app {fa : Nat → Nat} {ρ : List Nat} : ∀ {S st S1 st1 : List Value}, ab_Ts fa ρ S st → ab_Ts fa ρ S1 st1 → ab_Ts fa ρ (S ++ S1) (st ++ st1)
  | [], [], _, _, _, h => h
  | [], _ :: _, _, _, h, _ => h.elim
  | _ :: _, [], _, _, h, _ => h.elim
  | _ :: _, _ :: _, _, _, h, h1 => ⟨h.1, ab_Ts_app h.2 h1⟩
theorem ab_Ts_rev {fa : Nat → Nat} {ρ : List Nat} : ∀ {S st : List Value}, ab_Ts fa ρ S st → ab_Ts fa ρ S.reverse st.reverse
  | [], [], h => trivial
  | [], _ :: _, h => h.elim
  | _ :: _, [], h => h.elim
  | v :: S, w :: st, h => by
    rw [List.reverse_cons, List.reverse_cons]
    exact ab_Ts_app (ab_Ts_rev h.2) ⟨h.1, trivial⟩
theorem ab_Ts_get {fa : Nat → Nat} {ρ : List Nat} : ∀ {S st : List Value} (b : Nat), ab_Ts fa ρ S st → (∀ v ∈ S, v.category = 1) → ∀ (i : Nat) (v : Value), S[i]? = some v → ∃ w, (b + i, w) ∈ lv_args b st ∧ ab_v fa ρ v w
  | [], _, _, _, _, i, v, h => by simp at h
  | _ :: _, [], _, h, _, _, _, _ => h.elim
  | u :: S, w :: st, b, h, hc, i, v, hi => by
    have hcu : w.category = 1 := by rw [ab_v_cat h.1.1]; exact hc u List.mem_cons_self
    cases i with
    | zero =>
      cases hi
      exact ⟨w, List.mem_cons_self, h.1.1⟩
    | succ i =>
      obtain ⟨w2, a1, a2⟩ := ab_Ts_get (b + 1) h.2 (fun x hx => hc x (List.mem_cons_of_mem _ hx)) i v (by simpa using hi)
      refine ⟨w2, ?_, a2⟩
      unfold lv_args
      rw [if_neg (by omega)]
      rw [show b + 1 + i = b + (i + 1) by omega] at a1
      exact List.mem_cons_of_mem _ a1
theorem ab_sl_len {fa : Nat → Nat} {ρ : List Nat} : ∀ {S st : List Value}, ab_Ts fa ρ S st → (∀ v ∈ S, v.category = 1) → (lg_sl st).length = S.length
  | [], [], _, _ => rfl
  | [], _ :: _, h, _ => h.elim
  | _ :: _, [], h, _ => h.elim
  | u :: S, w :: st, h, hc => by
    have hcu : ¬ w.category = 2 := by
      have : w.category = 1 := by rw [ab_v_cat h.1.1]; exact hc u List.mem_cons_self
      omega
    have ih := ab_sl_len h.2 (fun x hx => hc x (List.mem_cons_of_mem _ hx))
    unfold lg_sl at ih ⊢
    rw [List.flatMap_cons, if_neg hcu, List.length_append, ih]
    simp
    omega
/-- name, code, what it answers, is it a constructor, its table -/
abbrev ab_Q : Type := MethodName × ByteArray × Option FieldType × Bool × List (Nat × Nat × Nat × Nat)
def ab_hd (q : ab_Q) (nL : Nat) : Cond := match q.2.2.2.2 with
  | [] => Cond.code q.1 q.2.1 nL q.2.2.1
  | hh => Cond.codeWith q.1 q.2.1 nL q.2.2.1 hh
def ab_ws (q : ab_Q) (nL : Nat) : List Cond := ab_hd q nL :: wsL_law
def ab_rm (d mc ms : Nat) : Room := { frames := d + 8, cells := mc, slots := ms, locals := 100 * d + 200 }
def ab_Pc (D : va_G) (A : Nat → Prop) (fa : Nat → Nat) (fx : Nat → List Int32) (ρ : List Nat) (as' : List Value) (h : ab_H) : Array Value → State → Prop := fun a U =>
  ∃ as : List Value, a = as.toArray ∧ ab_Ts fa ρ as' as ∧ ab_Wd D A U fa ρ h U.heap ∧ (∀ q, U.heap.size ≤ q → A q) ∧ ab_Cx A fa fx U
def ab_Qc (D : va_G) (A : Nat → Prop) (fa : Nat → Nat) (ρ : List Nat) (v' : Option Value) (h' : ab_H) : Array Value → State → Outcome → State → Prop := fun _ st o t =>
  (∃ (w : Option Value) (ρ1 : List Nat), o = .returned w ∧ ab_Ts fa (ρ ++ ρ1) v'.toList w.toList ∧ ab_Wd D A t fa (ρ ++ ρ1) h' t.heap) ∧ va_F A st t
def ab_Xc (D : va_G) (A : Nat → Prop) (fa : Nat → Nat) (ρ : List Nat) (x : Nat) (h' : ab_H) : String → State → State → Prop := fun E st t =>
  E = ab_exn x ∧ (∃ ρ1 : List Nat, ab_Wd D A t fa (ρ ++ ρ1) h' t.heap) ∧ va_F A st t
def ab_QR (D : va_G) (A : Nat → Prop) (fa : Nat → Nat) (ρ : List Nat) (r : Option Value ⊕ Nat) (h' : ab_H) : Array Value → State → Outcome → State → Prop := match r with
  | .inl v => ab_Qc D A fa ρ v h'
  | .inr _ => fun _ _ _ _ => False
def ab_XR (D : va_G) (A : Nat → Prop) (fa : Nat → Nat) (ρ : List Nat) (r : Option Value ⊕ Nat) (h' : ab_H) : String → State → State → Prop := match r with
  | .inl _ => fun _ _ _ => False
  | .inr x => ab_Xc D A fa ρ x h'
def ab_Con (l : Launch) (D : va_G) (A : Nat → Prop) (fa : Nat → Nat) (fx : Nat → List Int32) (q : ab_Q) (nL d : Nat) (as' : List Value) (h : ab_H) (r : Option Value ⊕ Nat) (h' : ab_H) : Prop :=
  ∀ ρ : List Nat, vx_Met l q.1 (ab_ws q nL) (ab_rm d (h'.length - h.length) (ab_hsz h' - ab_hsz h)) (ab_Pc D A fa fx ρ as' h) (ab_QR D A fa ρ r h') (ab_XR D A fa ρ r h') (h'.length - h.length) (ab_hsz h' - ab_hsz h) A
theorem ab_blind {D : va_G} {A : Nat → Prop} {fa : Nat → Nat} {fx : Nat → List Int32} {ρ : List Nat} {as' : List Value} {h : ab_H} : FrameBlind (ab_Pc D A fa fx ρ as' h) := by
  intro a U g mk hp
  obtain ⟨as, h1, h2, h3, h4, h5⟩ := hp
  exact ⟨as, h1, h2, ab_Wd_mv (t := U.calling g mk a) (Vm.Alike.refl U.vm) (fun _ _ => rfl) h3, h4, ab_Cx_mv (U := U.calling g mk a) (State.WarmedH.refl U) (fun _ _ _ => rfl) h5⟩
/-- a contract that returns, in the kit's plain form -/
theorem ab_met {l : Launch} {D : va_G} {A : Nat → Prop} {fa : Nat → Nat} {fx : Nat → List Int32} {q : ab_Q} {nL d : Nat} {as' : List Value} {h h' : ab_H} {v : Option Value} (hC : ab_Con l D A fa fx q nL d as' h (.inl v) h') (ρ : List Nat) :
    Met l q.1 (ab_ws q nL) (ab_rm d (h'.length - h.length) (ab_hsz h' - ab_hsz h)) (ab_Pc D A fa fx ρ as' h) (ab_Qc D A fa ρ v h') (h'.length - h.length) (ab_hsz h' - ab_hsz h) A := by
  intro p e ha hc hk s m args below hf happ hP hK
  obtain ⟨n, o, h1, h2, h3, h4⟩ := hC ρ p e ha hc hk s m args below hf happ hP hK
  refine ⟨n, o, h1, h2, h3, ?_⟩
  rcases h4 with h4 | ⟨q, -, E, ce, L, h5, -⟩
  · exact h4
  · exact h5.elim
section Ca
variable {p : Program} {l : Launch} {e : Env} {R : Room} {s : State} {m : MethodId} {args : Array Value} {below : List Frame} {meth : Method} {c : Code} {Q : State → Prop}
variable {cc : ByteArray} {own : String} {nL : Nat} {ini : Bool} {A : Nat → Prop} {fa : Nat → Nat} {fx : Nat → List Int32} {D : va_G} {ρ0 : List Nat} {hb sb : Nat} {pc : Nat}
theorem ab_cells {h h' : ab_H} {x y : Nat} (hle : ab_le h h') (h1 : x + y = h.length) : x + (y + (h'.length - h.length)) = h'.length := by
  have := hle.1
  omega
theorem ab_slots {h h' : ab_H} {x y : Nat} (hle : ab_le h h') (h1 : x + y = ab_hsz h) : x + (y + (ab_hsz h' - ab_hsz h)) = ab_hsz h' := by
  have := hle.2
  omega
/-- behind a call that returned -/
theorem ab_backW {L T T1 : List Value} {h h' : ab_H} {v : Option Value} {ρ : List Nat} {H : Heap} {locs : List Loc} {ls : Array Slot} {st rest : List Value} {cells slots : Nat} {a : Array Value} (hp : ab_Pt D A s fa ρ0 nL hb sb (L, T, h) ρ H locs ls st cells slots) (hT : ab_Ts fa ρ T1 rest) (hA : ∀ q, s.heap.size ≤ q → A q) (hle : ab_le h h')
    (hr : va_Run p l e R s m args below meth c H locs cells slots (h'.length - h.length) (ab_hsz h' - ab_hsz h) (F0 m pc ls st) rest (ab_Qc D A fa ρ v h' a) A) (kk : ab_W p l e R s m args below meth c Q D A fa ρ0 nL hb sb (pc + 3) (L, v.toList ++ T1, h')) : W p l e R s m args below meth c H locs cells slots Q (F0 m pc ls st) := by
  intro T0 hT0 X
  obtain ⟨w, st₀, t, T', Lc, h0, X', hL, e1, e2, ⟨⟨w2, ρ1, hv, hrel, hwd⟩, hz, hk⟩, stp⟩ := hr T0 hT0 X
  cases hv
  rw [h0] at hz hk
  obtain ⟨hp1, hS, ⟨r0, hr0⟩, hl, hts, hc, hs⟩ := hp
  have hal : t.vm.Alike s.vm := by rw [← e2]; exact X'.warmed.alike.symm
  have hw : ab_Wd D A s fa (ρ ++ ρ1) h' T'.heap := by rw [e1]; exact ab_Wd_mv hal (fun _ _ => rfl) hwd
  have hS1 : va_S A s.heap T'.heap (locs ++ Lc) := ⟨Nat.le_trans hS.1 (by rw [e1]; exact hz), fun q h1 h2 => by rw [e1, hk q (Nat.lt_of_lt_of_le h1 hS.1) h2]; exact hS.2.1 q h1 h2, fun q hq => by
    rcases List.mem_append.mp hq with z | z
    · exact hS.2.2 q z
    · exact hL q z⟩
  obtain ⟨t2, a1, b1⟩ := kk (ρ ++ ρ1) T'.heap (locs ++ Lc) ls (w.toList ++ rest) _ _ ⟨hw, hS1, ⟨r0 ++ ρ1, by rw [hr0, List.append_assoc]⟩, ab_L_mono hl, ab_Ts_app hrel (ab_Ts_mono hT), ab_cells hle hc, ab_slots hle hs⟩ T' rfl X'
  exact ⟨t2, stp t2 a1, b1⟩
/-- behind a call that threw -/
theorem ab_backX {L T T1 : List Value} {h h' : ab_H} {x : Nat} {ρ : List Nat} {H : Heap} {locs : List Loc} {ls : Array Slot} {st rest : List Value} {cells slots : Nat} {a : Array Value} (hp : ab_Pt D A s fa ρ0 nL hb sb (L, T, h) ρ H locs ls st cells slots) (hT : ab_Ts fa ρ T1 rest) (hA : ∀ q, s.heap.size ≤ q → A q) (hle : ab_le h h')
    (hr : vx_Run p l e R s m args below meth c H locs cells slots (h'.length - h.length) (ab_hsz h' - ab_hsz h) (F0 m pc ls st) rest (fun _ _ _ => False) (ab_Xc D A fa ρ x h') A) (kk : ∀ (q : Addr) (ce : Cell) (ρ2 : List Nat) (H1 : Heap) (locs1 : List Loc) (cells1 slots1 : Nat), H1[q]? = some ce → ce.vm = .none → s.vm.findClass (ab_exn x) = some ce.cls → ab_Pt D A s fa ρ0 nL hb sb (L, T1, h') ρ2 H1 locs1 ls rest cells1 slots1 → vx_W p l e R s m args below meth c H1 locs1 cells1 slots1 Q (F0 m pc ls rest) q) : W p l e R s m args below meth c H locs cells slots Q (F0 m pc ls st) := by
  intro T0 hT0 X
  rcases hr T0 hT0 X with ⟨v, st₀, t, T', Lc, h0, X', hL, e1, e2, hF, stp⟩ | ⟨q, st₀, t, T', Lc, E, ce, h0, X', hL, e1, e2, ⟨rfl, ⟨ρ1, hwd⟩, hz, hk⟩, hce, hcv, hcl, stp⟩
  · exact hF.elim
  · rw [h0] at hz hk
    obtain ⟨hp1, hS, ⟨r0, hr0⟩, hl, hts, hc, hs⟩ := hp
    have hal : t.vm.Alike s.vm := by rw [← e2]; exact X'.warmed.alike.symm
    have hw : ab_Wd D A s fa (ρ ++ ρ1) h' T'.heap := by rw [e1]; exact ab_Wd_mv hal (fun _ _ => rfl) hwd
    have hS1 : va_S A s.heap T'.heap (locs ++ Lc) := ⟨Nat.le_trans hS.1 (by rw [e1]; exact hz), fun q h1 h2 => by rw [e1, hk q (Nat.lt_of_lt_of_le h1 hS.1) h2]; exact hS.2.1 q h1 h2, fun q hq => by
      rcases List.mem_append.mp hq with z | z
      · exact hS.2.2 q z
      · exact hL q z⟩
    obtain ⟨t2, a1, b1⟩ := kk q ce (ρ ++ ρ1) T'.heap (locs ++ Lc) _ _ (by rw [e1]; exact hce) hcv hcl ⟨hw, hS1, ⟨r0 ++ ρ1, by rw [hr0, List.append_assoc]⟩, ab_L_mono hl, ab_Ts_mono hT, ab_cells hle hc, ab_slots hle hs⟩ T' rfl X'
    exact ⟨t2, stp.trans a1, b1⟩
end Ca
