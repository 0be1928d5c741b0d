/-! THE PRINTED METHODS ARE GOOD: by a program over their blocks -/
def ab_ckS (o : Nat) (ini : Bool) (x : ab_I) : Bool := match x.1 with
  | .getfield i => lkF.contains (o, i, x.2.2.1, x.2.2.2)
  | .putfield i => lkP.contains (o, ini, i, x.2.2.1, x.2.2.2)
  | .getstatic i => lkS.contains (o, i)
  | .new i => lkC.contains (o, i, x.2.2.1)
  | .anewarray i => lkN.contains (o, i)
  | .invokespecial i => lkO.contains (o, i)
  | .invokestatic i => lkA.contains (o, i, x.2.2.1)
  | .ldc i => lkK.contains (o, i, x.2.2.1)
  | .ldc_w i => lkK.contains (o, i, x.2.2.1)
  | .ldc2_w i => lkJ.contains (o, i, x.2.2.1)
  | _ => true
theorem ab_ckS_ok {o : Nat} {ini : Bool} {x : ab_I} (h : ab_ckS o ini x = true) : ab_okS (ab_own o) ini x := by
  obtain ⟨i, n, a, b⟩ := x
  cases i <;> first
    | trivial
    | (have h2 := lkA_ok _ (List.contains_iff_mem.mp h)
       match a, h2 with
       | 0, h2 => exact h2
       | 1, h2 => exact h2
       | _ + 2, h2 => exact h2)
    | exact lkF_ok _ (List.contains_iff_mem.mp h)
    | exact lkP_ok _ (List.contains_iff_mem.mp h)
    | exact lkS_ok _ (List.contains_iff_mem.mp h)
    | exact lkC_ok _ (List.contains_iff_mem.mp h)
    | exact lkO_ok _ (List.contains_iff_mem.mp h)
    | exact lkA_ok _ (List.contains_iff_mem.mp h)
    | exact lkK_ok _ (List.contains_iff_mem.mp h)
    | exact lkJ_ok _ (List.contains_iff_mem.mp h)
    | exact lkN_ok _ (List.contains_iff_mem.mp h)
def ab_ckR (cc : ByteArray) (o : Nat) (ini : Bool) : Nat → List ab_I → Bool
  | _, [] => true
  | pc, x :: r => decide (decode cc pc = .ok (x.1, x.2.1)) && (x.2.1 == ab_ln x.1 && (ab_ckS o ini x && ab_ckR cc o ini (pc + x.2.1) r))
theorem ab_ckR_ok {cc : ByteArray} {o : Nat} {ini : Bool} : ∀ {l : List ab_I} {pc : Nat}, ab_ckR cc o ini pc l = true → ab_okR cc (ab_own o) ini pc l
  | [], _, _ => trivial
  | x :: r, pc, h => by
    unfold ab_ckR at h
    simp only [Bool.and_eq_true, decide_eq_true_eq, beq_iff_eq] at h
    exact ⟨⟨h.1, h.2.1, ab_ckS_ok h.2.2.1⟩, ab_ckR_ok h.2.2.2⟩
def ab_ckJ (M : ab_M) (k pc : Nat) (off : Int) : Bool := decide ((pc : Int) + off = ((((pc : Int) + off).toNat : Nat) : Int)) && ab_tg M k ((pc : Int) + off).toNat
theorem ab_ckJ_ok {M : ab_M} {k pc : Nat} {off : Int} (h : ab_ckJ M k pc off = true) : ab_jm M k pc off := by
  unfold ab_ckJ at h
  simp only [Bool.and_eq_true, decide_eq_true_eq] at h
  exact h
def ab_ckH (o : Nat) (M : ab_M) (hh : List (Nat × Nat × Nat × Nat)) (pc : Nat) : Bool := M.2.1.isEmpty
theorem ab_exc_cast {x : Nat} (h : x < 4) : Cond.castable (ab_exn x) (ab_exn x) ∈ ab_bad := by
  match x, h with
  | 0, _ => exact lkX_0.2.2.2.2.2.1
  | 1, _ => exact lkX_1.2.2.2.2.2.1
  | 2, _ => exact lkX_2.2.2.2.2.2.1
  | 3, _ => exact lkX_3.2.2.2.2.2.1
  | n + 4, h => omega
theorem ab_ckH_ok {o : Nat} {M : ab_M} {hh : List (Nat × Nat × Nat × Nat)} {pc : Nat} (h : ab_ckH o M hh pc = true) : M.2.1 = [] ∨ ab_okH (ab_own o) M hh pc := Or.inl (List.isEmpty_iff.mp h)
def ab_kn (i : Instr) : Nat := match i with
  | .invokevirtual _ => 0
  | .invokespecial _ => 1
  | _ => 2
def ab_kx (i : Instr) : Nat := match i with
  | .invokevirtual j => j
  | .invokespecial j => j
  | .invokestatic j => j
  | _ => 0
def ab_ckK (o : Nat) (cc : ByteArray) (M : ab_M) (hh : List (Nat × Nat × Nat × Nat)) (pc : Nat) (t : ab_T) : Bool :=
  decide (decode cc pc = .ok (t.1, 3)) && (lkM.contains (o, ab_kn t.1, ab_kx t.1, t.2.2.1) && (ab_tg M (ab_at t 0) (pc + 3) && ab_ckH o M hh pc))
theorem ab_ckK_ok {o : Nat} {cc : ByteArray} {M : ab_M} {hh : List (Nat × Nat × Nat × Nat)} {pc : Nat} {t : ab_T} (hk : ab_ki (ab_kn t.1) (ab_kx t.1) = t.1) (h : ab_ckK o cc M hh pc t = true) : ab_okK ab_mt ab_qt (ab_own o) cc M hh pc t := by
  unfold ab_ckK at h
  simp only [Bool.and_eq_true, decide_eq_true_eq] at h
  obtain ⟨h1, h2, h3, h4⟩ := h
  obtain ⟨M', q', k1, k2, k3, k4⟩ := lkM_ok _ (List.contains_iff_mem.mp h2)
  exact ⟨M', q', k1, k2, k3, k4 cc pc t hk.symm (by rw [hk]; exact h1) rfl, h3, fun _ => ab_ckH_ok h4⟩
def ab_ckV (cc : ByteArray) (ret : Option FieldType) (pc : Nat) (t : ab_T) : Bool := decide (decode cc pc = .ok (t.1, 1)) && match t.1 with
  | .ireturn => (t.2.2.1.1 == 0 && decide (ret = some .int)) || (t.2.2.1.1 == 1 && decide (ret = some .boolean))
  | .lreturn => decide (ret = some .long)
  | .freturn => decide (ret = some .float)
  | .dreturn => decide (ret = some .double)
  | .areturn => match ret with
    | some (.object _) => true
    | some (.array _) => true
    | _ => false
  | .return_ => decide (ret = none)
  | _ => false
theorem ab_ckV_ok {cc : ByteArray} {ret : Option FieldType} {pc : Nat} {t : ab_T} (h : ab_ckV cc ret pc t = true) : ab_okV cc ret pc t := by
  obtain ⟨i, n, aux, tg⟩ := t
  unfold ab_ckV at h
  simp only [Bool.and_eq_true, decide_eq_true_eq] at h
  obtain ⟨h1, h2⟩ := h
  cases i <;> first
    | (exact ⟨h1, by simpa using h2⟩)
    | (refine ⟨h1, ?_⟩
       dsimp only at h2
       split at h2
       · exact ⟨_, rfl, Or.inl ⟨_, rfl⟩⟩
       · exact ⟨_, rfl, Or.inr ⟨_, rfl⟩⟩
       · cases h2)
    | cases h2
def ab_ckX (o : Nat) (cc : ByteArray) (pc x is : Nat) : Bool := o == ab_o11 && (decide (x < 4) && (ab_strs.any (fun q => q.1 == is) && (decide (decode cc pc = .ok (.new (ab_xk x).1, 3)) && (decide (decode cc (pc + 3) = .ok (.dup, 1)) && ((decide (decode cc (pc + 4) = .ok (.ldc is, 2)) && (decide (decode cc (pc + 6) = .ok (.invokespecial (ab_xk x).2, 3)) && decide (decode cc (pc + 9) = .ok (.athrow, 1)))) || (decide (decode cc (pc + 4) = .ok (.ldc_w is, 3)) && (decide (decode cc (pc + 7) = .ok (.invokespecial (ab_xk x).2, 3)) && decide (decode cc (pc + 10) = .ok (.athrow, 1)))))))))
theorem ab_ckX_ok {o : Nat} {cc : ByteArray} {pc x is : Nat} (h : ab_ckX o cc pc x is = true) : ab_okX (ab_own o) cc pc x := by
  unfold ab_ckX at h
  simp only [Bool.and_eq_true, decide_eq_true_eq, beq_iff_eq, Bool.or_eq_true] at h
  obtain ⟨ho, hx, hs, d0, d3, hd⟩ := h
  obtain ⟨q, hq, hq2⟩ := List.any_eq_true.mp hs
  have hq2 : q.1 = is := by simpa using hq2
  subst hq2
  subst ho
  refine ⟨rfl, hx, ?_⟩
  match x, hx with
  | 0, _ => obtain ⟨k1, k2, k3, k4, k5, k6, k7, k8, y0, y1, y2, y5⟩ := lkX_0; exact ⟨_, q.1, _, q.2, _, _, _, y0, y1, y2, y5, by decide, k7, k8, k1, k2, hq, k3, k4, k5, d0, d3, hd⟩
  | 1, _ => obtain ⟨k1, k2, k3, k4, k5, k6, k7, k8, y0, y1, y2, y5⟩ := lkX_1; exact ⟨_, q.1, _, q.2, _, _, _, y0, y1, y2, y5, by decide, k7, k8, k1, k2, hq, k3, k4, k5, d0, d3, hd⟩
  | 2, _ => obtain ⟨k1, k2, k3, k4, k5, k6, k7, k8, y0, y1, y2, y5⟩ := lkX_2; exact ⟨_, q.1, _, q.2, _, _, _, y0, y1, y2, y5, by decide, k7, k8, k1, k2, hq, k3, k4, k5, d0, d3, hd⟩
  | 3, _ => obtain ⟨k1, k2, k3, k4, k5, k6, k7, k8, y0, y1, y2, y5⟩ := lkX_3; exact ⟨_, q.1, _, q.2, _, _, _, y0, y1, y2, y5, by decide, k7, k8, k1, k2, hq, k3, k4, k5, d0, d3, hd⟩
  | n + 4, h => omega
def ab_ckB (cc : ByteArray) (M : ab_M) (pc : Nat) (t : ab_T) : Bool := match t.1 with
  | .nop => ab_tg M (ab_at t 0) pc
  | .goto off => decide (decode cc pc = .ok (t.1, 3)) && ab_ckJ M (ab_at t 0) pc off
  | .if_icmp _ off => decide (decode cc pc = .ok (t.1, 3)) && (ab_ckJ M (ab_at t 0) pc off && ab_tg M (ab_at t 1) (pc + 3))
  | .ifCond _ off => decide (decode cc pc = .ok (t.1, 3)) && (ab_ckJ M (ab_at t 0) pc off && ab_tg M (ab_at t 1) (pc + 3))
  | .ifnull off => decide (decode cc pc = .ok (t.1, 3)) && (ab_ckJ M (ab_at t 0) pc off && ab_tg M (ab_at t 1) (pc + 3))
  | .ifnonnull off => decide (decode cc pc = .ok (t.1, 3)) && (ab_ckJ M (ab_at t 0) pc off && ab_tg M (ab_at t 1) (pc + 3))
  | .tableswitch dflt lo hi offs => decide (decode cc pc = .ok (t.1, t.2.1)) && (decide (0 < t.2.2.2.length) && (decide (hi = lo + ((t.2.2.2.length - 1 : Nat) : Int) - 1) && (decide (offs.size = t.2.2.2.length - 1) && (ab_ckJ M (ab_at t (t.2.2.2.length - 1)) pc dflt && (List.range offs.size).all fun i => ab_ckJ M (ab_at t i) pc (offs.getD i 0)))))
  | .lookupswitch dflt ps => decide (decode cc pc = .ok (t.1, t.2.1)) && ((ps.toList.zip (ps.toList.drop 1)).all (fun (a, next) => a.1 < next.1) && (ab_ckJ M (ab_at t (t.2.2.2.length - 1)) pc dflt && (List.range ps.toList.length).all fun i => ab_ckJ M (ab_at t i) pc (ps.toList.getD i (0, 0)).2))
  | _ => false
theorem ab_ckB_ok {cc : ByteArray} {M : ab_M} {pc : Nat} {t : ab_T} (h : ab_ckB cc M pc t = true) : ab_okB cc M pc t := by
  obtain ⟨i, n, aux, tg⟩ := t
  cases i with
  | nop => exact h
  | goto off =>
    obtain ⟨h1, h2⟩ := Bool.and_eq_true_iff.mp h
    exact ⟨of_decide_eq_true h1, ab_ckJ_ok h2⟩
  | if_icmp c off =>
    obtain ⟨h1, h2⟩ := Bool.and_eq_true_iff.mp h
    obtain ⟨h2, h3⟩ := Bool.and_eq_true_iff.mp h2
    exact ⟨of_decide_eq_true h1, ab_ckJ_ok h2, h3⟩
  | ifCond c off =>
    obtain ⟨h1, h2⟩ := Bool.and_eq_true_iff.mp h
    obtain ⟨h2, h3⟩ := Bool.and_eq_true_iff.mp h2
    exact ⟨of_decide_eq_true h1, ab_ckJ_ok h2, h3⟩
  | ifnull off =>
    obtain ⟨h1, h2⟩ := Bool.and_eq_true_iff.mp h
    obtain ⟨h2, h3⟩ := Bool.and_eq_true_iff.mp h2
    exact ⟨of_decide_eq_true h1, ab_ckJ_ok h2, h3⟩
  | ifnonnull off =>
    obtain ⟨h1, h2⟩ := Bool.and_eq_true_iff.mp h
    obtain ⟨h2, h3⟩ := Bool.and_eq_true_iff.mp h2
    exact ⟨of_decide_eq_true h1, ab_ckJ_ok h2, h3⟩
  | tableswitch dflt lo hi offs =>
    obtain ⟨h1, h2⟩ := Bool.and_eq_true_iff.mp h
    obtain ⟨h2, h3⟩ := Bool.and_eq_true_iff.mp h2
    obtain ⟨h3, h4⟩ := Bool.and_eq_true_iff.mp h3
    obtain ⟨h4, h5⟩ := Bool.and_eq_true_iff.mp h4
    obtain ⟨h5, h6⟩ := Bool.and_eq_true_iff.mp h5
    exact ⟨of_decide_eq_true h1, of_decide_eq_true h2, of_decide_eq_true h3, of_decide_eq_true h4, ab_ckJ_ok h5, fun i hi => ab_ckJ_ok (List.all_eq_true.mp h6 i (List.mem_range.mpr hi))⟩
  | lookupswitch dflt ps =>
    obtain ⟨h1, h2⟩ := Bool.and_eq_true_iff.mp h
    obtain ⟨h2, h3⟩ := Bool.and_eq_true_iff.mp h2
    obtain ⟨h3, h4⟩ := Bool.and_eq_true_iff.mp h3
    exact ⟨of_decide_eq_true h1, h2, ab_ckJ_ok h3, fun i hi => ab_ckJ_ok (List.all_eq_true.mp h4 i (List.mem_range.mpr hi))⟩
  | _ => cases h
def ab_ckE (o : Nat) (q : ab_Q) (M : ab_M) (pc : Nat) (t : ab_T) : Bool := match t.1 with
  | .athrow => q.2.2.2.2.isEmpty && ab_ckX o q.2.1 pc t.2.2.1.1 t.2.2.1.2.1
  | .invokevirtual _ => ab_ckK o q.2.1 M q.2.2.2.2 pc t
  | .invokespecial _ => ab_ckK o q.2.1 M q.2.2.2.2 pc t
  | .invokestatic _ => ab_ckK o q.2.1 M q.2.2.2.2 pc t
  | .ireturn => ab_ckV q.2.1 q.2.2.1 pc t
  | .lreturn => ab_ckV q.2.1 q.2.2.1 pc t
  | .freturn => ab_ckV q.2.1 q.2.2.1 pc t
  | .dreturn => ab_ckV q.2.1 q.2.2.1 pc t
  | .areturn => ab_ckV q.2.1 q.2.2.1 pc t
  | .return_ => ab_ckV q.2.1 q.2.2.1 pc t
  | _ => ab_ckB q.2.1 M pc t
theorem ab_ckE_ok {o : Nat} {q : ab_Q} {M : ab_M} {pc : Nat} {t : ab_T} (ho : q.1.cls = ab_own o) (h : ab_ckE o q M pc t = true) : ab_okE ab_mt ab_qt q M pc t := by
  obtain ⟨i, n, aux, tg⟩ := t
  cases i with
  | athrow =>
    obtain ⟨h1, h2⟩ := Bool.and_eq_true_iff.mp h
    exact ⟨List.isEmpty_iff.mp h1, by rw [ho]; exact ab_ckX_ok h2⟩
  | invokevirtual j => exact (by rw [ho]; exact ab_ckK_ok rfl h : ab_okK ab_mt ab_qt q.1.cls q.2.1 M q.2.2.2.2 pc _)
  | invokespecial j => exact (by rw [ho]; exact ab_ckK_ok rfl h : ab_okK ab_mt ab_qt q.1.cls q.2.1 M q.2.2.2.2 pc _)
  | invokestatic j => exact (by rw [ho]; exact ab_ckK_ok rfl h : ab_okK ab_mt ab_qt q.1.cls q.2.1 M q.2.2.2.2 pc _)
  | ireturn => exact ab_ckV_ok h
  | lreturn => exact ab_ckV_ok h
  | freturn => exact ab_ckV_ok h
  | dreturn => exact ab_ckV_ok h
  | areturn => exact ab_ckV_ok h
  | return_ => exact ab_ckV_ok h
  | nop  => exact ab_ckB_ok (cc := q.2.1) (M := M) (pc := pc) (t := (.nop, n, aux, tg)) h
  | goto off => exact ab_ckB_ok (cc := q.2.1) (M := M) (pc := pc) (t := (.goto off, n, aux, tg)) h
  | if_icmp c off => exact ab_ckB_ok (cc := q.2.1) (M := M) (pc := pc) (t := (.if_icmp c off, n, aux, tg)) h
  | ifCond c off => exact ab_ckB_ok (cc := q.2.1) (M := M) (pc := pc) (t := (.ifCond c off, n, aux, tg)) h
  | ifnull off => exact ab_ckB_ok (cc := q.2.1) (M := M) (pc := pc) (t := (.ifnull off, n, aux, tg)) h
  | ifnonnull off => exact ab_ckB_ok (cc := q.2.1) (M := M) (pc := pc) (t := (.ifnonnull off, n, aux, tg)) h
  | tableswitch a1 a2 a3 a4 => exact ab_ckB_ok (cc := q.2.1) (M := M) (pc := pc) (t := (.tableswitch a1 a2 a3 a4, n, aux, tg)) h
  | lookupswitch a1 a2 => exact ab_ckB_ok (cc := q.2.1) (M := M) (pc := pc) (t := (.lookupswitch a1 a2, n, aux, tg)) h
  | _ => exact (Bool.false_ne_true h).elim
def ab_ckM (o : Nat) (q : ab_Q) (M : ab_M) : Bool := M.2.2.all fun B => ab_ckR q.2.1 o q.2.2.2.1 B.1 B.2.1 && ab_ckE o q M (ab_end B.1 B.2.1) B.2.2
theorem ab_ckM_ok {o : Nat} {q : ab_Q} {M : ab_M} (ho : q.1.cls = ab_own o) (h : ab_ckM o q M = true) : ∀ (k : Nat) (B : Nat × List ab_I × ab_T), M.2.2[k]? = some B → ab_okR q.2.1 q.1.cls q.2.2.2.1 B.1 B.2.1 ∧ ab_okE ab_mt ab_qt q M (ab_end B.1 B.2.1) B.2.2 := by
  intro k B hB
  have h1 := List.all_eq_true.mp h B (List.mem_of_getElem? hB)
  obtain ⟨h2, h3⟩ := Bool.and_eq_true_iff.mp h1
  exact ⟨by rw [ho]; exact ab_ckR_ok h2, ab_ckE_ok ho h3⟩
def ab_nr (M : ab_M) : Bool := M.2.2.all fun B => match B.2.2.1 with
  | .nop => B.2.2.2.2.1.1 != 7
  | _ => true
theorem ab_nr_ok {M : ab_M} (h : ab_nr M = true) : ∀ (k : Nat) (B : Nat × List ab_I × ab_T), M.2.2[k]? = some B → B.2.2.1 = .nop → B.2.2.2.2.1.1 ≠ 7 := by
  intro k B hB hn
  have h1 := List.all_eq_true.mp h B (List.mem_of_getElem? hB)
  simp only [hn] at h1
  simpa using h1
theorem ab_mok {o : Nat} {q : ab_Q} {M : ab_M} (ho : q.1.cls = ab_own o) (hp : plainName q.1.cls = true) (hN : ab_okN q M) (hi : q.2.2.2.1 = true → q.1.name = "<init>") (hh : M.2.1 = [] → q.2.2.2.2 = []) (h0 : ab_tg M 0 0 = true) (hnr : ab_nr M = true) (h : ab_ckM o q M = true) : ab_okM ab_mt ab_qt q M := ⟨hp, hN, hi, hh, h0, ab_nr_ok hnr, ab_ckM_ok ho h⟩
theorem aM_X0_init : ab_okM ab_mt ab_qt aq_X0_init am_X0_init := ab_mok (o := 0) rfl (by decide +kernel) aN_X0_init (fun _ => rfl) (fun _ => rfl) rfl (by decide +kernel) (by decide +kernel)
theorem aM_X0_enumerate : ab_okM ab_mt ab_qt aq_X0_enumerate am_X0_enumerate := ab_mok (o := 0) rfl (by decide +kernel) aN_X0_enumerate (fun h => by cases h) (fun _ => rfl) rfl (by decide +kernel) (by decide +kernel)
theorem aM_X0_someKeeps : ab_okM ab_mt ab_qt aq_X0_someKeeps am_X0_someKeeps := ab_mok (o := 0) rfl (by decide +kernel) aN_X0_someKeeps (fun h => by cases h) (fun _ => rfl) rfl (by decide +kernel) (by decide +kernel)
theorem aM_X0_countTimetables : ab_okM ab_mt ab_qt aq_X0_countTimetables am_X0_countTimetables := ab_mok (o := 0) rfl (by decide +kernel) aN_X0_countTimetables (fun h => by cases h) (fun _ => rfl) rfl (by decide +kernel) (by decide +kernel)
theorem aM_X0_stands : ab_okM ab_mt ab_qt aq_X0_stands am_X0_stands := ab_mok (o := 0) rfl (by decide +kernel) aN_X0_stands (fun h => by cases h) (fun _ => rfl) rfl (by decide +kernel) (by decide +kernel)
theorem aM_X0_walk : ab_okM ab_mt ab_qt aq_X0_walk am_X0_walk := ab_mok (o := 0) rfl (by decide +kernel) aN_X0_walk (fun h => by cases h) (fun _ => rfl) rfl (by decide +kernel) (by decide +kernel)
theorem aM_X0_clashesWithNone : ab_okM ab_mt ab_qt aq_X0_clashesWithNone am_X0_clashesWithNone := ab_mok (o := 0) rfl (by decide +kernel) aN_X0_clashesWithNone (fun h => by cases h) (fun _ => rfl) rfl (by decide +kernel) (by decide +kernel)
theorem aM_X0_look : ab_okM ab_mt ab_qt aq_X0_look am_X0_look := ab_mok (o := 0) rfl (by decide +kernel) aN_X0_look (fun h => by cases h) (fun _ => rfl) rfl (by decide +kernel) (by decide +kernel)
theorem aM_X1_init : ab_okM ab_mt ab_qt aq_X1_init am_X1_init := ab_mok (o := 1) rfl (by decide +kernel) aN_X1_init (fun _ => rfl) (fun _ => rfl) rfl (by decide +kernel) (by decide +kernel)
theorem aM_X1_spread : ab_okM ab_mt ab_qt aq_X1_spread am_X1_spread := ab_mok (o := 1) rfl (by decide +kernel) aN_X1_spread (fun h => by cases h) (fun _ => rfl) rfl (by decide +kernel) (by decide +kernel)
theorem aM_X1_fill : ab_okM ab_mt ab_qt aq_X1_fill am_X1_fill := ab_mok (o := 1) rfl (by decide +kernel) aN_X1_fill (fun h => by cases h) (fun _ => rfl) rfl (by decide +kernel) (by decide +kernel)
theorem aM_X1_isFree : ab_okM ab_mt ab_qt aq_X1_isFree am_X1_isFree := ab_mok (o := 1) rfl (by decide +kernel) aN_X1_isFree (fun h => by cases h) (fun _ => rfl) rfl (by decide +kernel) (by decide +kernel)
theorem aM_X2_init : ab_okM ab_mt ab_qt aq_X2_init am_X2_init := ab_mok (o := 2) rfl (by decide +kernel) aN_X2_init (fun _ => rfl) (fun _ => rfl) rfl (by decide +kernel) (by decide +kernel)
theorem aM_X2_faults : ab_okM ab_mt ab_qt aq_X2_faults am_X2_faults := ab_mok (o := 2) rfl (by decide +kernel) aN_X2_faults (fun h => by cases h) (fun _ => rfl) rfl (by decide +kernel) (by decide +kernel)
theorem aM_X2_pairFaults : ab_okM ab_mt ab_qt aq_X2_pairFaults am_X2_pairFaults := ab_mok (o := 2) rfl (by decide +kernel) aN_X2_pairFaults (fun h => by cases h) (fun _ => rfl) rfl (by decide +kernel) (by decide +kernel)
theorem aM_X2_toldBroken : ab_okM ab_mt ab_qt aq_X2_toldBroken am_X2_toldBroken := ab_mok (o := 2) rfl (by decide +kernel) aN_X2_toldBroken (fun h => by cases h) (fun _ => rfl) rfl (by decide +kernel) (by decide +kernel)
theorem aM_X2_isGood : ab_okM ab_mt ab_qt aq_X2_isGood am_X2_isGood := ab_mok (o := 2) rfl (by decide +kernel) aN_X2_isGood (fun h => by cases h) (fun _ => rfl) rfl (by decide +kernel) (by decide +kernel)
theorem aM_X2_coverOfTeacher : ab_okM ab_mt ab_qt aq_X2_coverOfTeacher am_X2_coverOfTeacher := ab_mok (o := 2) rfl (by decide +kernel) aN_X2_coverOfTeacher (fun h => by cases h) (fun _ => rfl) rfl (by decide +kernel) (by decide +kernel)
theorem aM_X2_longestDay : ab_okM ab_mt ab_qt aq_X2_longestDay am_X2_longestDay := ab_mok (o := 2) rfl (by decide +kernel) aN_X2_longestDay (fun h => by cases h) (fun _ => rfl) rfl (by decide +kernel) (by decide +kernel)
theorem aM_X2_lessonsIn : ab_okM ab_mt ab_qt aq_X2_lessonsIn am_X2_lessonsIn := ab_mok (o := 2) rfl (by decide +kernel) aN_X2_lessonsIn (fun h => by cases h) (fun _ => rfl) rfl (by decide +kernel) (by decide +kernel)
theorem aM_X2_weightOf : ab_okM ab_mt ab_qt aq_X2_weightOf am_X2_weightOf := ab_mok (o := 2) rfl (by decide +kernel) aN_X2_weightOf (fun h => by cases h) (fun _ => rfl) rfl (by decide +kernel) (by decide +kernel)
theorem aM_X2_gapsIn : ab_okM ab_mt ab_qt aq_X2_gapsIn am_X2_gapsIn := ab_mok (o := 2) rfl (by decide +kernel) aN_X2_gapsIn (fun h => by cases h) (fun _ => rfl) rfl (by decide +kernel) (by decide +kernel)
theorem aM_X3_init : ab_okM ab_mt ab_qt aq_X3_init am_X3_init := ab_mok (o := 4) rfl (by decide +kernel) aN_X3_init (fun _ => rfl) (fun _ => rfl) rfl (by decide +kernel) (by decide +kernel)
theorem aM_X3_ask : ab_okM ab_mt ab_qt aq_X3_ask am_X3_ask := ab_mok (o := 4) rfl (by decide +kernel) aN_X3_ask (fun h => by cases h) (fun _ => rfl) rfl (by decide +kernel) (by decide +kernel)
theorem aM_X3_pairIndex : ab_okM ab_mt ab_qt aq_X3_pairIndex am_X3_pairIndex := ab_mok (o := 4) rfl (by decide +kernel) aN_X3_pairIndex (fun h => by cases h) (fun _ => rfl) rfl (by decide +kernel) (by decide +kernel)
theorem aM_X3_valueIndex : ab_okM ab_mt ab_qt aq_X3_valueIndex am_X3_valueIndex := ab_mok (o := 4) rfl (by decide +kernel) aN_X3_valueIndex (fun h => by cases h) (fun _ => rfl) rfl (by decide +kernel) (by decide +kernel)
theorem aM_X3_learnGround : ab_okM ab_mt ab_qt aq_X3_learnGround am_X3_learnGround := ab_mok (o := 4) rfl (by decide +kernel) aN_X3_learnGround (fun h => by cases h) (fun _ => rfl) rfl (by decide +kernel) (by decide +kernel)
theorem aM_X3_groundPartners : ab_okM ab_mt ab_qt aq_X3_groundPartners am_X3_groundPartners := ab_mok (o := 4) rfl (by decide +kernel) aN_X3_groundPartners (fun h => by cases h) (fun _ => rfl) rfl (by decide +kernel) (by decide +kernel)
theorem aM_X3_openLesson : ab_okM ab_mt ab_qt aq_X3_openLesson am_X3_openLesson := ab_mok (o := 4) rfl (by decide +kernel) aN_X3_openLesson (fun h => by cases h) (fun _ => rfl) rfl (by decide +kernel) (by decide +kernel)
theorem aM_X3_keep : ab_okM ab_mt ab_qt aq_X3_keep am_X3_keep := ab_mok (o := 4) rfl (by decide +kernel) aN_X3_keep (fun h => by cases h) (fun _ => rfl) rfl (by decide +kernel) (by decide +kernel)
theorem aM_X3_keepPair : ab_okM ab_mt ab_qt aq_X3_keepPair am_X3_keepPair := ab_mok (o := 4) rfl (by decide +kernel) aN_X3_keepPair (fun h => by cases h) (fun _ => rfl) rfl (by decide +kernel) (by decide +kernel)
theorem aM_X3_keepRooms : ab_okM ab_mt ab_qt aq_X3_keepRooms am_X3_keepRooms := ab_mok (o := 4) rfl (by decide +kernel) aN_X3_keepRooms (fun h => by cases h) (fun _ => rfl) rfl (by decide +kernel) (by decide +kernel)
theorem aM_X3_dropLonelyStarts : ab_okM ab_mt ab_qt aq_X3_dropLonelyStarts am_X3_dropLonelyStarts := ab_mok (o := 4) rfl (by decide +kernel) aN_X3_dropLonelyStarts (fun h => by cases h) (fun _ => rfl) rfl (by decide +kernel) (by decide +kernel)
theorem aM_X3_isLonelyStart : ab_okM ab_mt ab_qt aq_X3_isLonelyStart am_X3_isLonelyStart := ab_mok (o := 4) rfl (by decide +kernel) aN_X3_isLonelyStart (fun h => by cases h) (fun _ => rfl) rfl (by decide +kernel) (by decide +kernel)
theorem aM_X3_barLesson : ab_okM ab_mt ab_qt aq_X3_barLesson am_X3_barLesson := ab_mok (o := 4) rfl (by decide +kernel) aN_X3_barLesson (fun h => by cases h) (fun _ => rfl) rfl (by decide +kernel) (by decide +kernel)
theorem aM_X3_barTeacher : ab_okM ab_mt ab_qt aq_X3_barTeacher am_X3_barTeacher := ab_mok (o := 4) rfl (by decide +kernel) aN_X3_barTeacher (fun h => by cases h) (fun _ => rfl) rfl (by decide +kernel) (by decide +kernel)
theorem aM_X3_allow : ab_okM ab_mt ab_qt aq_X3_allow am_X3_allow := ab_mok (o := 4) rfl (by decide +kernel) aN_X3_allow (fun h => by cases h) (fun _ => rfl) rfl (by decide +kernel) (by decide +kernel)
theorem aM_X3_costWeights : ab_okM ab_mt ab_qt aq_X3_costWeights am_X3_costWeights := ab_mok (o := 4) rfl (by decide +kernel) aN_X3_costWeights (fun h => by cases h) (fun _ => rfl) rfl (by decide +kernel) (by decide +kernel)
theorem aM_X3_costChanges : ab_okM ab_mt ab_qt aq_X3_costChanges am_X3_costChanges := ab_mok (o := 4) rfl (by decide +kernel) aN_X3_costChanges (fun h => by cases h) (fun _ => rfl) rfl (by decide +kernel) (by decide +kernel)
theorem aM_X3_costShares : ab_okM ab_mt ab_qt aq_X3_costShares am_X3_costShares := ab_mok (o := 4) rfl (by decide +kernel) aN_X3_costShares (fun h => by cases h) (fun _ => rfl) rfl (by decide +kernel) (by decide +kernel)
theorem aM_X3_price : ab_okM ab_mt ab_qt aq_X3_price am_X3_price := ab_mok (o := 4) rfl (by decide +kernel) aN_X3_price (fun h => by cases h) (fun _ => rfl) rfl (by decide +kernel) (by decide +kernel)
theorem aM_X4_init : ab_okM ab_mt ab_qt aq_X4_init am_X4_init := ab_mok (o := 5) rfl (by decide +kernel) aN_X4_init (fun _ => rfl) (fun _ => rfl) rfl (by decide +kernel) (by decide +kernel)
theorem aM_X4_moveOne : ab_okM ab_mt ab_qt aq_X4_moveOne am_X4_moveOne := ab_mok (o := 5) rfl (by decide +kernel) aN_X4_moveOne (fun h => by cases h) (fun _ => rfl) rfl (by decide +kernel) (by decide +kernel)
theorem aM_X4_extend : ab_okM ab_mt ab_qt aq_X4_extend am_X4_extend := ab_mok (o := 5) rfl (by decide +kernel) aN_X4_extend (fun h => by cases h) (fun _ => rfl) rfl (by decide +kernel) (by decide +kernel)
theorem aM_X4_isIn : ab_okM ab_mt ab_qt aq_X4_isIn am_X4_isIn := ab_mok (o := 5) rfl (by decide +kernel) aN_X4_isIn (fun h => by cases h) (fun _ => rfl) rfl (by decide +kernel) (by decide +kernel)
theorem aM_X4_weigh : ab_okM ab_mt ab_qt aq_X4_weigh am_X4_weigh := ab_mok (o := 5) rfl (by decide +kernel) aN_X4_weigh (fun h => by cases h) (fun _ => rfl) rfl (by decide +kernel) (by decide +kernel)
theorem aM_X5_init : ab_okM ab_mt ab_qt aq_X5_init am_X5_init := ab_mok (o := 6) rfl (by decide +kernel) aN_X5_init (fun _ => rfl) (fun _ => rfl) rfl (by decide +kernel) (by decide +kernel)
theorem aM_X5_keepable : ab_okM ab_mt ab_qt aq_X5_keepable am_X5_keepable := ab_mok (o := 6) rfl (by decide +kernel) aN_X5_keepable (fun h => by cases h) (fun _ => rfl) rfl (by decide +kernel) (by decide +kernel)
theorem aM_X5_stubborn : ab_okM ab_mt ab_qt aq_X5_stubborn am_X5_stubborn := ab_mok (o := 6) rfl (by decide +kernel) aN_X5_stubborn (fun h => by cases h) (fun _ => rfl) rfl (by decide +kernel) (by decide +kernel)
theorem aM_X5_refresh : ab_okM ab_mt ab_qt aq_X5_refresh am_X5_refresh := ab_mok (o := 6) rfl (by decide +kernel) aN_X5_refresh (fun h => by cases h) (fun _ => rfl) rfl (by decide +kernel) (by decide +kernel)
theorem aM_X5_isKept : ab_okM ab_mt ab_qt aq_X5_isKept am_X5_isKept := ab_mok (o := 6) rfl (by decide +kernel) aN_X5_isKept (fun h => by cases h) (fun _ => rfl) rfl (by decide +kernel) (by decide +kernel)
theorem aM_X6_init : ab_okM ab_mt ab_qt aq_X6_init am_X6_init := ab_mok (o := 7) rfl (by decide +kernel) aN_X6_init (fun _ => rfl) (fun _ => rfl) rfl (by decide +kernel) (by decide +kernel)
theorem aM_X6_allSlots : ab_okM ab_mt ab_qt aq_X6_allSlots am_X6_allSlots := ab_mok (o := 7) rfl (by decide +kernel) aN_X6_allSlots (fun h => by cases h) (fun _ => rfl) rfl (by decide +kernel) (by decide +kernel)
theorem aM_X6_allRules : ab_okM ab_mt ab_qt aq_X6_allRules am_X6_allRules := ab_mok (o := 7) rfl (by decide +kernel) aN_X6_allRules (fun h => by cases h) (fun _ => rfl) rfl (by decide +kernel) (by decide +kernel)
theorem aM_X6_areLessons : ab_okM ab_mt ab_qt aq_X6_areLessons am_X6_areLessons := ab_mok (o := 7) rfl (by decide +kernel) aN_X6_areLessons (fun h => by cases h) (fun _ => rfl) rfl (by decide +kernel) (by decide +kernel)
theorem aM_X6_dayOf : ab_okM ab_mt ab_qt aq_X6_dayOf am_X6_dayOf := ab_mok (o := 7) rfl (by decide +kernel) aN_X6_dayOf (fun h => by cases h) (fun _ => rfl) rfl (by decide +kernel) (by decide +kernel)
theorem aM_X6_hourOf : ab_okM ab_mt ab_qt aq_X6_hourOf am_X6_hourOf := ab_mok (o := 7) rfl (by decide +kernel) aN_X6_hourOf (fun h => by cases h) (fun _ => rfl) rfl (by decide +kernel) (by decide +kernel)
theorem aM_X6_dayMask : ab_okM ab_mt ab_qt aq_X6_dayMask am_X6_dayMask := ab_mok (o := 7) rfl (by decide +kernel) aN_X6_dayMask (fun h => by cases h) (fun _ => rfl) rfl (by decide +kernel) (by decide +kernel)
theorem aM_X6_lastHours : ab_okM ab_mt ab_qt aq_X6_lastHours am_X6_lastHours := ab_mok (o := 7) rfl (by decide +kernel) aN_X6_lastHours (fun h => by cases h) (fun _ => rfl) rfl (by decide +kernel) (by decide +kernel)
theorem aM_X6_lastSlot : ab_okM ab_mt ab_qt aq_X6_lastSlot am_X6_lastSlot := ab_mok (o := 7) rfl (by decide +kernel) aN_X6_lastSlot (fun h => by cases h) (fun _ => rfl) rfl (by decide +kernel) (by decide +kernel)
theorem aM_X6_cover : ab_okM ab_mt ab_qt aq_X6_cover am_X6_cover := ab_mok (o := 7) rfl (by decide +kernel) aN_X6_cover (fun h => by cases h) (fun _ => rfl) rfl (by decide +kernel) (by decide +kernel)
theorem aM_X6_staysInDay : ab_okM ab_mt ab_qt aq_X6_staysInDay am_X6_staysInDay := ab_mok (o := 7) rfl (by decide +kernel) aN_X6_staysInDay (fun h => by cases h) (fun _ => rfl) rfl (by decide +kernel) (by decide +kernel)
theorem aM_X6_hasSeats : ab_okM ab_mt ab_qt aq_X6_hasSeats am_X6_hasSeats := ab_mok (o := 7) rfl (by decide +kernel) aN_X6_hasSeats (fun h => by cases h) (fun _ => rfl) rfl (by decide +kernel) (by decide +kernel)
theorem aM_X6_shareClass : ab_okM ab_mt ab_qt aq_X6_shareClass am_X6_shareClass := ab_mok (o := 7) rfl (by decide +kernel) aN_X6_shareClass (fun h => by cases h) (fun _ => rfl) rfl (by decide +kernel) (by decide +kernel)
theorem aM_X6_shareTeacher : ab_okM ab_mt ab_qt aq_X6_shareTeacher am_X6_shareTeacher := ab_mok (o := 7) rfl (by decide +kernel) aN_X6_shareTeacher (fun h => by cases h) (fun _ => rfl) rfl (by decide +kernel) (by decide +kernel)
theorem aM_X6_weightOfValue : ab_okM ab_mt ab_qt aq_X6_weightOfValue am_X6_weightOfValue := ab_mok (o := 7) rfl (by decide +kernel) aN_X6_weightOfValue (fun h => by cases h) (fun _ => rfl) rfl (by decide +kernel) (by decide +kernel)
theorem aM_X6_hasRuleWithSlot : ab_okM ab_mt ab_qt aq_X6_hasRuleWithSlot am_X6_hasRuleWithSlot := ab_mok (o := 7) rfl (by decide +kernel) aN_X6_hasRuleWithSlot (fun h => by cases h) (fun _ => rfl) rfl (by decide +kernel) (by decide +kernel)
theorem aM_X6_canBeRule : ab_okM ab_mt ab_qt aq_X6_canBeRule am_X6_canBeRule := ab_mok (o := 7) rfl (by decide +kernel) aN_X6_canBeRule (fun h => by cases h) (fun _ => rfl) rfl (by decide +kernel) (by decide +kernel)
theorem aM_X6_pairKept : ab_okM ab_mt ab_qt aq_X6_pairKept am_X6_pairKept := ab_mok (o := 7) rfl (by decide +kernel) aN_X6_pairKept (fun h => by cases h) (fun _ => rfl) rfl (by decide +kernel) (by decide +kernel)
theorem aM_X7_init : ab_okM ab_mt ab_qt aq_X7_init am_X7_init := ab_mok (o := 8) rfl (by decide +kernel) aN_X7_init (fun _ => rfl) (fun _ => rfl) rfl (by decide +kernel) (by decide +kernel)
theorem aM_X7_seek : ab_okM ab_mt ab_qt aq_X7_seek am_X7_seek := ab_mok (o := 8) rfl (by decide +kernel) aN_X7_seek (fun h => by cases h) (fun _ => rfl) rfl (by decide +kernel) (by decide +kernel)
theorem aM_X7_cheapest : ab_okM ab_mt ab_qt aq_X7_cheapest am_X7_cheapest := ab_mok (o := 8) rfl (by decide +kernel) aN_X7_cheapest (fun h => by cases h) (fun _ => rfl) rfl (by decide +kernel) (by decide +kernel)
theorem aM_X7_behind : ab_okM ab_mt ab_qt aq_X7_behind am_X7_behind := ab_mok (o := 8) rfl (by decide +kernel) aN_X7_behind (fun h => by cases h) (fun _ => rfl) rfl (by decide +kernel) (by decide +kernel)
theorem aM_X7_existsBehind : ab_okM ab_mt ab_qt aq_X7_existsBehind am_X7_existsBehind := ab_mok (o := 8) rfl (by decide +kernel) aN_X7_existsBehind (fun h => by cases h) (fun _ => rfl) rfl (by decide +kernel) (by decide +kernel)
theorem aM_X7_restrict : ab_okM ab_mt ab_qt aq_X7_restrict am_X7_restrict := ab_mok (o := 8) rfl (by decide +kernel) aN_X7_restrict (fun h => by cases h) (fun _ => rfl) rfl (by decide +kernel) (by decide +kernel)
theorem aM_X7_lessen : ab_okM ab_mt ab_qt aq_X7_lessen am_X7_lessen := ab_mok (o := 8) rfl (by decide +kernel) aN_X7_lessen (fun h => by cases h) (fun _ => rfl) rfl (by decide +kernel) (by decide +kernel)
theorem aM_X7_explore : ab_okM ab_mt ab_qt aq_X7_explore am_X7_explore := ab_mok (o := 8) rfl (by decide +kernel) aN_X7_explore (fun h => by cases h) (fun _ => rfl) rfl (by decide +kernel) (by decide +kernel)
theorem aM_X7_narrow : ab_okM ab_mt ab_qt aq_X7_narrow am_X7_narrow := ab_mok (o := 8) rfl (by decide +kernel) aN_X7_narrow (fun h => by cases h) (fun _ => rfl) rfl (by decide +kernel) (by decide +kernel)
theorem aM_X7_withinDayLimit : ab_okM ab_mt ab_qt aq_X7_withinDayLimit am_X7_withinDayLimit := ab_mok (o := 8) rfl (by decide +kernel) aN_X7_withinDayLimit (fun h => by cases h) (fun _ => rfl) rfl (by decide +kernel) (by decide +kernel)
theorem aM_X7_tightest : ab_okM ab_mt ab_qt aq_X7_tightest am_X7_tightest := ab_mok (o := 8) rfl (by decide +kernel) aN_X7_tightest (fun h => by cases h) (fun _ => rfl) rfl (by decide +kernel) (by decide +kernel)
theorem aM_X7_seat : ab_okM ab_mt ab_qt aq_X7_seat am_X7_seat := ab_mok (o := 8) rfl (by decide +kernel) aN_X7_seat (fun h => by cases h) (fun _ => rfl) rfl (by decide +kernel) (by decide +kernel)
theorem aM_X7_takenRooms : ab_okM ab_mt ab_qt aq_X7_takenRooms am_X7_takenRooms := ab_mok (o := 8) rfl (by decide +kernel) aN_X7_takenRooms (fun h => by cases h) (fun _ => rfl) rfl (by decide +kernel) (by decide +kernel)
theorem aM_X7_record : ab_okM ab_mt ab_qt aq_X7_record am_X7_record := ab_mok (o := 8) rfl (by decide +kernel) aN_X7_record (fun h => by cases h) (fun _ => rfl) rfl (by decide +kernel) (by decide +kernel)
theorem aM_X7_lowest : ab_okM ab_mt ab_qt aq_X7_lowest am_X7_lowest := ab_mok (o := 8) rfl (by decide +kernel) aN_X7_lowest (fun h => by cases h) (fun _ => rfl) rfl (by decide +kernel) (by decide +kernel)
theorem aM_X7_cheapestSlot : ab_okM ab_mt ab_qt aq_X7_cheapestSlot am_X7_cheapestSlot := ab_mok (o := 8) rfl (by decide +kernel) aN_X7_cheapestSlot (fun h => by cases h) (fun _ => rfl) rfl (by decide +kernel) (by decide +kernel)
theorem aM_X7_sureGaps : ab_okM ab_mt ab_qt aq_X7_sureGaps am_X7_sureGaps := ab_mok (o := 8) rfl (by decide +kernel) aN_X7_sureGaps (fun h => by cases h) (fun _ => rfl) rfl (by decide +kernel) (by decide +kernel)
theorem aM_X7_canFill : ab_okM ab_mt ab_qt aq_X7_canFill am_X7_canFill := ab_mok (o := 8) rfl (by decide +kernel) aN_X7_canFill (fun h => by cases h) (fun _ => rfl) rfl (by decide +kernel) (by decide +kernel)
theorem aM_X7_lowestShares : ab_okM ab_mt ab_qt aq_X7_lowestShares am_X7_lowestShares := ab_mok (o := 8) rfl (by decide +kernel) aN_X7_lowestShares (fun h => by cases h) (fun _ => rfl) rfl (by decide +kernel) (by decide +kernel)
theorem aM_X7_mustEndLast : ab_okM ab_mt ab_qt aq_X7_mustEndLast am_X7_mustEndLast := ab_mok (o := 8) rfl (by decide +kernel) aN_X7_mustEndLast (fun h => by cases h) (fun _ => rfl) rfl (by decide +kernel) (by decide +kernel)
theorem aM_X8_init : ab_okM ab_mt ab_qt aq_X8_init am_X8_init := ab_mok (o := 9) rfl (by decide +kernel) aN_X8_init (fun _ => rfl) (fun _ => rfl) rfl (by decide +kernel) (by decide +kernel)
theorem aM_X8_mostSeated : ab_okM ab_mt ab_qt aq_X8_mostSeated am_X8_mostSeated := ab_mok (o := 9) rfl (by decide +kernel) aN_X8_mostSeated (fun h => by cases h) (fun _ => rfl) rfl (by decide +kernel) (by decide +kernel)
theorem aM_X8_fewestUnseated : ab_okM ab_mt ab_qt aq_X8_fewestUnseated am_X8_fewestUnseated := ab_mok (o := 9) rfl (by decide +kernel) aN_X8_fewestUnseated (fun h => by cases h) (fun _ => rfl) rfl (by decide +kernel) (by decide +kernel)
theorem aM_X8_roomsFor : ab_okM ab_mt ab_qt aq_X8_roomsFor am_X8_roomsFor := ab_mok (o := 9) rfl (by decide +kernel) aN_X8_roomsFor (fun h => by cases h) (fun _ => rfl) rfl (by decide +kernel) (by decide +kernel)
theorem aM_X9_init : ab_okM ab_mt ab_qt aq_X9_init am_X9_init := ab_mok (o := 10) rfl (by decide +kernel) aN_X9_init (fun _ => rfl) (fun _ => rfl) rfl (by decide +kernel) (by decide +kernel)
theorem aM_X9_begin : ab_okM ab_mt ab_qt aq_X9_begin am_X9_begin := ab_mok (o := 10) rfl (by decide +kernel) aN_X9_begin (fun h => by cases h) (fun _ => rfl) rfl (by decide +kernel) (by decide +kernel)
theorem aM_X9_copyFrom : ab_okM ab_mt ab_qt aq_X9_copyFrom am_X9_copyFrom := ab_mok (o := 10) rfl (by decide +kernel) aN_X9_copyFrom (fun h => by cases h) (fun _ => rfl) rfl (by decide +kernel) (by decide +kernel)
theorem aM_X9_valueOf : ab_okM ab_mt ab_qt aq_X9_valueOf am_X9_valueOf := ab_mok (o := 10) rfl (by decide +kernel) aN_X9_valueOf (fun h => by cases h) (fun _ => rfl) rfl (by decide +kernel) (by decide +kernel)
theorem aM_X9_differences : ab_okM ab_mt ab_qt aq_X9_differences am_X9_differences := ab_mok (o := 10) rfl (by decide +kernel) aN_X9_differences (fun h => by cases h) (fun _ => rfl) rfl (by decide +kernel) (by decide +kernel)
theorem aM_X9_standsIn : ab_okM ab_mt ab_qt aq_X9_standsIn am_X9_standsIn := ab_mok (o := 10) rfl (by decide +kernel) aN_X9_standsIn (fun h => by cases h) (fun _ => rfl) rfl (by decide +kernel) (by decide +kernel)
theorem aM_X10_init : ab_okM ab_mt ab_qt aq_X10_init am_X10_init := ab_mok (o := 11) rfl (by decide +kernel) aN_X10_init (fun _ => rfl) (fun _ => rfl) rfl (by decide +kernel) (by decide +kernel)
theorem aM_X10_refresh : ab_okM ab_mt ab_qt aq_X10_refresh am_X10_refresh := ab_mok (o := 11) rfl (by decide +kernel) aN_X10_refresh (fun h => by cases h) (fun _ => rfl) rfl (by decide +kernel) (by decide +kernel)
theorem aM_X10_told : ab_okM ab_mt ab_qt aq_X10_told am_X10_told := ab_mok (o := 11) rfl (by decide +kernel) aN_X10_told (fun h => by cases h) (fun _ => rfl) rfl (by decide +kernel) (by decide +kernel)
theorem aM_X10_isOpen : ab_okM ab_mt ab_qt aq_X10_isOpen am_X10_isOpen := ab_mok (o := 11) rfl (by decide +kernel) aN_X10_isOpen (fun h => by cases h) (fun _ => rfl) rfl (by decide +kernel) (by decide +kernel)
theorem aM_X10_leastWeight : ab_okM ab_mt ab_qt aq_X10_leastWeight am_X10_leastWeight := ab_mok (o := 11) rfl (by decide +kernel) aN_X10_leastWeight (fun h => by cases h) (fun _ => rfl) rfl (by decide +kernel) (by decide +kernel)
theorem aM_X10_leastOf : ab_okM ab_mt ab_qt aq_X10_leastOf am_X10_leastOf := ab_mok (o := 11) rfl (by decide +kernel) aN_X10_leastOf (fun h => by cases h) (fun _ => rfl) rfl (by decide +kernel) (by decide +kernel)
theorem aM_X10_begin : ab_okM ab_mt ab_qt aq_X10_begin am_X10_begin := ab_mok (o := 11) rfl (by decide +kernel) aN_X10_begin (fun h => by cases h) (fun _ => rfl) rfl (by decide +kernel) (by decide +kernel)
theorem aM_X10_dropLonely : ab_okM ab_mt ab_qt aq_X10_dropLonely am_X10_dropLonely := ab_mok (o := 11) rfl (by decide +kernel) aN_X10_dropLonely (fun h => by cases h) (fun _ => rfl) rfl (by decide +kernel) (by decide +kernel)
theorem aM_X10_isLonely : ab_okM ab_mt ab_qt aq_X10_isLonely am_X10_isLonely := ab_mok (o := 11) rfl (by decide +kernel) aN_X10_isLonely (fun h => by cases h) (fun _ => rfl) rfl (by decide +kernel) (by decide +kernel)
theorem aM_X10_hasPartner : ab_okM ab_mt ab_qt aq_X10_hasPartner am_X10_hasPartner := ab_mok (o := 11) rfl (by decide +kernel) aN_X10_hasPartner (fun h => by cases h) (fun _ => rfl) rfl (by decide +kernel) (by decide +kernel)
theorem aM_X10_dropCrowded : ab_okM ab_mt ab_qt aq_X10_dropCrowded am_X10_dropCrowded := ab_mok (o := 11) rfl (by decide +kernel) aN_X10_dropCrowded (fun h => by cases h) (fun _ => rfl) rfl (by decide +kernel) (by decide +kernel)
theorem aM_X10_lessonsOf : ab_okM ab_mt ab_qt aq_X10_lessonsOf am_X10_lessonsOf := ab_mok (o := 11) rfl (by decide +kernel) aN_X10_lessonsOf (fun h => by cases h) (fun _ => rfl) rfl (by decide +kernel) (by decide +kernel)
theorem aM_X10_crowdGroup : ab_okM ab_mt ab_qt aq_X10_crowdGroup am_X10_crowdGroup := ab_mok (o := 11) rfl (by decide +kernel) aN_X10_crowdGroup (fun h => by cases h) (fun _ => rfl) rfl (by decide +kernel) (by decide +kernel)
theorem aM_X10_coverLeft : ab_okM ab_mt ab_qt aq_X10_coverLeft am_X10_coverLeft := ab_mok (o := 11) rfl (by decide +kernel) aN_X10_coverLeft (fun h => by cases h) (fun _ => rfl) rfl (by decide +kernel) (by decide +kernel)
theorem aM_X10_coverOfSet : ab_okM ab_mt ab_qt aq_X10_coverOfSet am_X10_coverOfSet := ab_mok (o := 11) rfl (by decide +kernel) aN_X10_coverOfSet (fun h => by cases h) (fun _ => rfl) rfl (by decide +kernel) (by decide +kernel)
theorem aM_X10_lengthOfSet : ab_okM ab_mt ab_qt aq_X10_lengthOfSet am_X10_lengthOfSet := ab_mok (o := 11) rfl (by decide +kernel) aN_X10_lengthOfSet (fun h => by cases h) (fun _ => rfl) rfl (by decide +kernel) (by decide +kernel)
theorem aM_X10_dropAll : ab_okM ab_mt ab_qt aq_X10_dropAll am_X10_dropAll := ab_mok (o := 11) rfl (by decide +kernel) aN_X10_dropAll (fun h => by cases h) (fun _ => rfl) rfl (by decide +kernel) (by decide +kernel)
theorem aM_X10_dropCovering : ab_okM ab_mt ab_qt aq_X10_dropCovering am_X10_dropCovering := ab_mok (o := 11) rfl (by decide +kernel) aN_X10_dropCovering (fun h => by cases h) (fun _ => rfl) rfl (by decide +kernel) (by decide +kernel)
theorem aM_X11_init : ab_okM ab_mt ab_qt aq_X11_init am_X11_init := ab_mok (o := 3) rfl (by decide +kernel) aN_X11_init (fun _ => rfl) (fun _ => rfl) rfl (by decide +kernel) (by decide +kernel)
theorem aM_X11_setGrid : ab_okM ab_mt ab_qt aq_X11_setGrid am_X11_setGrid := ab_mok (o := 3) rfl (by decide +kernel) aN_X11_setGrid (fun h => by cases h) (fun _ => rfl) rfl (by decide +kernel) (by decide +kernel)
theorem aM_X11_addClass : ab_okM ab_mt ab_qt aq_X11_addClass am_X11_addClass := ab_mok (o := 3) rfl (by decide +kernel) aN_X11_addClass (fun h => by cases h) (fun _ => rfl) rfl (by decide +kernel) (by decide +kernel)
theorem aM_X11_addTeacher : ab_okM ab_mt ab_qt aq_X11_addTeacher am_X11_addTeacher := ab_mok (o := 3) rfl (by decide +kernel) aN_X11_addTeacher (fun h => by cases h) (fun _ => rfl) rfl (by decide +kernel) (by decide +kernel)
theorem aM_X11_addRoom : ab_okM ab_mt ab_qt aq_X11_addRoom am_X11_addRoom := ab_mok (o := 3) rfl (by decide +kernel) aN_X11_addRoom (fun h => by cases h) (fun _ => rfl) rfl (by decide +kernel) (by decide +kernel)
theorem aM_X11_addLesson : ab_okM ab_mt ab_qt aq_X11_addLesson am_X11_addLesson := ab_mok (o := 3) rfl (by decide +kernel) aN_X11_addLesson (fun h => by cases h) (fun _ => rfl) rfl (by decide +kernel) (by decide +kernel)
theorem aM_X11_addRule : ab_okM ab_mt ab_qt aq_X11_addRule am_X11_addRule := ab_mok (o := 3) rfl (by decide +kernel) aN_X11_addRule (fun h => by cases h) (fun _ => rfl) rfl (by decide +kernel) (by decide +kernel)
theorem aM_X11_left : ab_okM ab_mt ab_qt aq_X11_left am_X11_left := ab_mok (o := 3) rfl (by decide +kernel) aN_X11_left (fun h => by cases h) (fun _ => rfl) rfl (by decide +kernel) (by decide +kernel)
theorem aM_X11_leftAt : ab_okM ab_mt ab_qt aq_X11_leftAt am_X11_leftAt := ab_mok (o := 3) rfl (by decide +kernel) aN_X11_leftAt (fun h => by cases h) (fun _ => rfl) rfl (by decide +kernel) (by decide +kernel)
theorem aM_X11_first : ab_okM ab_mt ab_qt aq_X11_first am_X11_first := ab_mok (o := 3) rfl (by decide +kernel) aN_X11_first (fun h => by cases h) (fun _ => rfl) rfl (by decide +kernel) (by decide +kernel)
theorem aM_X11_next : ab_okM ab_mt ab_qt aq_X11_next am_X11_next := ab_mok (o := 3) rfl (by decide +kernel) aN_X11_next (fun h => by cases h) (fun _ => rfl) rfl (by decide +kernel) (by decide +kernel)
theorem aM_X11_place : ab_okM ab_mt ab_qt aq_X11_place am_X11_place := ab_mok (o := 3) rfl (by decide +kernel) aN_X11_place (fun h => by cases h) (fun _ => rfl) rfl (by decide +kernel) (by decide +kernel)
theorem aM_X11_at : ab_okM ab_mt ab_qt aq_X11_at am_X11_at := ab_mok (o := 3) rfl (by decide +kernel) aN_X11_at (fun h => by cases h) (fun _ => rfl) rfl (by decide +kernel) (by decide +kernel)
theorem aM_X11_broken : ab_okM ab_mt ab_qt aq_X11_broken am_X11_broken := ab_mok (o := 3) rfl (by decide +kernel) aN_X11_broken (fun h => by cases h) (fun _ => rfl) rfl (by decide +kernel) (by decide +kernel)
theorem aM_X11_groundFaults : ab_okM ab_mt ab_qt aq_X11_groundFaults am_X11_groundFaults := ab_mok (o := 3) rfl (by decide +kernel) aN_X11_groundFaults (fun h => by cases h) (fun _ => rfl) rfl (by decide +kernel) (by decide +kernel)
theorem aM_X11_image : ab_okM ab_mt ab_qt aq_X11_image am_X11_image := ab_mok (o := 3) rfl (by decide +kernel) aN_X11_image (fun h => by cases h) (fun _ => rfl) rfl (by decide +kernel) (by decide +kernel)
theorem aM_X11_restore : ab_okM ab_mt ab_qt aq_X11_restore am_X11_restore := ab_mok (o := 3) rfl (by decide +kernel) aN_X11_restore (fun h => by cases h) (fun _ => rfl) rfl (by decide +kernel) (by decide +kernel)
theorem aM_X11_core : ab_okM ab_mt ab_qt aq_X11_core am_X11_core := ab_mok (o := 3) rfl (by decide +kernel) aN_X11_core (fun h => by cases h) (fun _ => rfl) rfl (by decide +kernel) (by decide +kernel)
theorem aM_X11_cores : ab_okM ab_mt ab_qt aq_X11_cores am_X11_cores := ab_mok (o := 3) rfl (by decide +kernel) aN_X11_cores (fun h => by cases h) (fun _ => rfl) rfl (by decide +kernel) (by decide +kernel)
theorem aM_X11_coreAt : ab_okM ab_mt ab_qt aq_X11_coreAt am_X11_coreAt := ab_mok (o := 3) rfl (by decide +kernel) aN_X11_coreAt (fun h => by cases h) (fun _ => rfl) rfl (by decide +kernel) (by decide +kernel)
theorem aM_X11_isNeeded : ab_okM ab_mt ab_qt aq_X11_isNeeded am_X11_isNeeded := ab_mok (o := 3) rfl (by decide +kernel) aN_X11_isNeeded (fun h => by cases h) (fun _ => rfl) rfl (by decide +kernel) (by decide +kernel)
theorem aM_X11_matched : ab_okM ab_mt ab_qt aq_X11_matched am_X11_matched := ab_mok (o := 3) rfl (by decide +kernel) aN_X11_matched (fun h => by cases h) (fun _ => rfl) rfl (by decide +kernel) (by decide +kernel)
theorem aM_X11_unfit : ab_okM ab_mt ab_qt aq_X11_unfit am_X11_unfit := ab_mok (o := 3) rfl (by decide +kernel) aN_X11_unfit (fun h => by cases h) (fun _ => rfl) rfl (by decide +kernel) (by decide +kernel)
theorem aM_X11_setWeights : ab_okM ab_mt ab_qt aq_X11_setWeights am_X11_setWeights := ab_mok (o := 3) rfl (by decide +kernel) aN_X11_setWeights (fun h => by cases h) (fun _ => rfl) rfl (by decide +kernel) (by decide +kernel)
theorem aM_X11_weight : ab_okM ab_mt ab_qt aq_X11_weight am_X11_weight := ab_mok (o := 3) rfl (by decide +kernel) aN_X11_weight (fun h => by cases h) (fun _ => rfl) rfl (by decide +kernel) (by decide +kernel)
theorem aM_X11_best : ab_okM ab_mt ab_qt aq_X11_best am_X11_best := ab_mok (o := 3) rfl (by decide +kernel) aN_X11_best (fun h => by cases h) (fun _ => rfl) rfl (by decide +kernel) (by decide +kernel)
theorem aM_X11_bound : ab_okM ab_mt ab_qt aq_X11_bound am_X11_bound := ab_mok (o := 3) rfl (by decide +kernel) aN_X11_bound (fun h => by cases h) (fun _ => rfl) rfl (by decide +kernel) (by decide +kernel)
theorem aM_X11_improve : ab_okM ab_mt ab_qt aq_X11_improve am_X11_improve := ab_mok (o := 3) rfl (by decide +kernel) aN_X11_improve (fun h => by cases h) (fun _ => rfl) rfl (by decide +kernel) (by decide +kernel)
theorem aM_X11_away : ab_okM ab_mt ab_qt aq_X11_away am_X11_away := ab_mok (o := 3) rfl (by decide +kernel) aN_X11_away (fun h => by cases h) (fun _ => rfl) rfl (by decide +kernel) (by decide +kernel)
theorem aM_X11_against : ab_okM ab_mt ab_qt aq_X11_against am_X11_against := ab_mok (o := 3) rfl (by decide +kernel) aN_X11_against (fun h => by cases h) (fun _ => rfl) rfl (by decide +kernel) (by decide +kernel)
theorem aM_X11_fairest : ab_okM ab_mt ab_qt aq_X11_fairest am_X11_fairest := ab_mok (o := 3) rfl (by decide +kernel) aN_X11_fairest (fun h => by cases h) (fun _ => rfl) rfl (by decide +kernel) (by decide +kernel)
theorem aM_X11_examDays : ab_okM ab_mt ab_qt aq_X11_examDays am_X11_examDays := ab_mok (o := 3) rfl (by decide +kernel) aN_X11_examDays (fun h => by cases h) (fun _ => rfl) rfl (by decide +kernel) (by decide +kernel)
theorem aM_X11_examDay : ab_okM ab_mt ab_qt aq_X11_examDay am_X11_examDay := ab_mok (o := 3) rfl (by decide +kernel) aN_X11_examDay (fun h => by cases h) (fun _ => rfl) rfl (by decide +kernel) (by decide +kernel)
theorem aM_X11_errors : ab_okM ab_mt ab_qt aq_X11_errors am_X11_errors := ab_mok (o := 3) rfl (by decide +kernel) aN_X11_errors (fun h => by cases h) (fun _ => rfl) rfl (by decide +kernel) (by decide +kernel)
theorem aM_X11_take : ab_okM ab_mt ab_qt aq_X11_take am_X11_take := ab_mok (o := 3) rfl (by decide +kernel) aN_X11_take (fun h => by cases h) (fun _ => rfl) rfl (by decide +kernel) (by decide +kernel)
theorem aM_X11_needTimetable : ab_okM ab_mt ab_qt aq_X11_needTimetable am_X11_needTimetable := ab_mok (o := 3) rfl (by decide +kernel) aN_X11_needTimetable (fun h => by cases h) (fun _ => rfl) rfl (by decide +kernel) (by decide +kernel)
theorem aM_X11_needLesson : ab_okM ab_mt ab_qt aq_X11_needLesson am_X11_needLesson := ab_mok (o := 3) rfl (by decide +kernel) aN_X11_needLesson (fun h => by cases h) (fun _ => rfl) rfl (by decide +kernel) (by decide +kernel)
theorem aM_X11_needTeacher : ab_okM ab_mt ab_qt aq_X11_needTeacher am_X11_needTeacher := ab_mok (o := 3) rfl (by decide +kernel) aN_X11_needTeacher (fun h => by cases h) (fun _ => rfl) rfl (by decide +kernel) (by decide +kernel)
theorem aM_X11_needRoom : ab_okM ab_mt ab_qt aq_X11_needRoom am_X11_needRoom := ab_mok (o := 3) rfl (by decide +kernel) aN_X11_needRoom (fun h => by cases h) (fun _ => rfl) rfl (by decide +kernel) (by decide +kernel)
theorem aM_X11_needSlot : ab_okM ab_mt ab_qt aq_X11_needSlot am_X11_needSlot := ab_mok (o := 3) rfl (by decide +kernel) aN_X11_needSlot (fun h => by cases h) (fun _ => rfl) rfl (by decide +kernel) (by decide +kernel)
theorem aM_X11_needDay : ab_okM ab_mt ab_qt aq_X11_needDay am_X11_needDay := ab_mok (o := 3) rfl (by decide +kernel) aN_X11_needDay (fun h => by cases h) (fun _ => rfl) rfl (by decide +kernel) (by decide +kernel)
theorem aM_X11_needRule : ab_okM ab_mt ab_qt aq_X11_needRule am_X11_needRule := ab_mok (o := 3) rfl (by decide +kernel) aN_X11_needRule (fun h => by cases h) (fun _ => rfl) rfl (by decide +kernel) (by decide +kernel)
theorem aM_J6_bitCount_0f7a4 : ab_okM ab_mt ab_qt aq_J6_bitCount_0f7a4 am_J6_bitCount_0f7a4 := ab_mok (o := 12) rfl (by decide +kernel) aN_J6_bitCount_0f7a4 (fun h => by cases h) (fun _ => rfl) rfl (by decide +kernel) (by decide +kernel)
theorem aM_J7_fill_53178 : ab_okM ab_mt ab_qt aq_J7_fill_53178 am_J7_fill_53178 := ab_mok (o := 13) rfl (by decide +kernel) aN_J7_fill_53178 (fun h => by cases h) (fun _ => rfl) rfl (by decide +kernel) (by decide +kernel)
theorem aM_J6_numberOfLeadingZeros_0f7a4 : ab_okM ab_mt ab_qt aq_J6_numberOfLeadingZeros_0f7a4 am_J6_numberOfLeadingZeros_0f7a4 := ab_mok (o := 12) rfl (by decide +kernel) aN_J6_numberOfLeadingZeros_0f7a4 (fun h => by cases h) (fun _ => rfl) rfl (by decide +kernel) (by decide +kernel)
theorem aM_X12_init : ab_okM ab_mt ab_qt aq_X12_init am_X12_init := ab_mok (o := 14) rfl (by decide +kernel) aN_X12_init (fun _ => rfl) (fun _ => rfl) rfl (by decide +kernel) (by decide +kernel)
theorem aM_X12_slots : ab_okM ab_mt ab_qt aq_X12_slots am_X12_slots := ab_mok (o := 14) rfl (by decide +kernel) aN_X12_slots (fun h => by cases h) (fun _ => rfl) rfl (by decide +kernel) (by decide +kernel)
theorem aM_X12_covers : ab_okM ab_mt ab_qt aq_X12_covers am_X12_covers := ab_mok (o := 14) rfl (by decide +kernel) aN_X12_covers (fun h => by cases h) (fun _ => rfl) rfl (by decide +kernel) (by decide +kernel)
theorem aM_X12_last : ab_okM ab_mt ab_qt aq_X12_last am_X12_last := ab_mok (o := 14) rfl (by decide +kernel) aN_X12_last (fun h => by cases h) (fun _ => rfl) rfl (by decide +kernel) (by decide +kernel)
theorem aM_X12_fits : ab_okM ab_mt ab_qt aq_X12_fits am_X12_fits := ab_mok (o := 14) rfl (by decide +kernel) aN_X12_fits (fun h => by cases h) (fun _ => rfl) rfl (by decide +kernel) (by decide +kernel)
theorem aM_X12_busy : ab_okM ab_mt ab_qt aq_X12_busy am_X12_busy := ab_mok (o := 14) rfl (by decide +kernel) aN_X12_busy (fun h => by cases h) (fun _ => rfl) rfl (by decide +kernel) (by decide +kernel)
theorem aM_X12_keeps : ab_okM ab_mt ab_qt aq_X12_keeps am_X12_keeps := ab_mok (o := 14) rfl (by decide +kernel) aN_X12_keeps (fun h => by cases h) (fun _ => rfl) rfl (by decide +kernel) (by decide +kernel)
theorem aM_X12_isGround : ab_okM ab_mt ab_qt aq_X12_isGround am_X12_isGround := ab_mok (o := 14) rfl (by decide +kernel) aN_X12_isGround (fun h => by cases h) (fun _ => rfl) rfl (by decide +kernel) (by decide +kernel)
theorem aM_X12_lists : ab_okM ab_mt ab_qt aq_X12_lists am_X12_lists := ab_mok (o := 14) rfl (by decide +kernel) aN_X12_lists (fun h => by cases h) (fun _ => rfl) rfl (by decide +kernel) (by decide +kernel)
theorem aM_X12_canKeep : ab_okM ab_mt ab_qt aq_X12_canKeep am_X12_canKeep := ab_mok (o := 14) rfl (by decide +kernel) aN_X12_canKeep (fun h => by cases h) (fun _ => rfl) rfl (by decide +kernel) (by decide +kernel)
theorem aM_X12_weight : ab_okM ab_mt ab_qt aq_X12_weight am_X12_weight := ab_mok (o := 14) rfl (by decide +kernel) aN_X12_weight (fun h => by cases h) (fun _ => rfl) rfl (by decide +kernel) (by decide +kernel)
theorem aM_X12_shares : ab_okM ab_mt ab_qt aq_X12_shares am_X12_shares := ab_mok (o := 14) rfl (by decide +kernel) aN_X12_shares (fun h => by cases h) (fun _ => rfl) rfl (by decide +kernel) (by decide +kernel)
theorem aM_L_next : ab_okM ab_mt ab_qt aq_L_next am_L_next := ab_mok (o := 15) rfl (by decide +kernel) aN_L_next (fun h => by cases h) (fun _ => rfl) rfl (by decide +kernel) (by decide +kernel)
theorem aM_L_begin : ab_okM ab_mt ab_qt aq_L_begin am_L_begin := ab_mok (o := 15) rfl (by decide +kernel) aN_L_begin (fun h => by cases h) (fun _ => rfl) rfl (by decide +kernel) (by decide +kernel)
theorem aM_L_isTable : ab_okM ab_mt ab_qt aq_L_isTable am_L_isTable := ab_mok (o := 15) rfl (by decide +kernel) aN_L_isTable (fun h => by cases h) (fun _ => rfl) rfl (by decide +kernel) (by decide +kernel)
theorem aM_L_tables : ab_okM ab_mt ab_qt aq_L_tables am_L_tables := ab_mok (o := 15) rfl (by decide +kernel) aN_L_tables (fun h => by cases h) (fun _ => rfl) rfl (by decide +kernel) (by decide +kernel)
theorem aM_L_cores : ab_okM ab_mt ab_qt aq_L_cores am_L_cores := ab_mok (o := 15) rfl (by decide +kernel) aN_L_cores (fun h => by cases h) (fun _ => rfl) rfl (by decide +kernel) (by decide +kernel)
theorem aM_L_moves : ab_okM ab_mt ab_qt aq_L_moves am_L_moves := ab_mok (o := 15) rfl (by decide +kernel) aN_L_moves (fun h => by cases h) (fun _ => rfl) rfl (by decide +kernel) (by decide +kernel)
theorem aM_L_exams : ab_okM ab_mt ab_qt aq_L_exams am_L_exams := ab_mok (o := 15) rfl (by decide +kernel) aN_L_exams (fun h => by cases h) (fun _ => rfl) rfl (by decide +kernel) (by decide +kernel)
theorem aM_X8_fitsSome : ab_okM ab_mt ab_qt aq_X8_fitsSome am_X8_fitsSome := ab_mok (o := 9) rfl (by decide +kernel) aN_X8_fitsSome (fun h => by cases h) (fun _ => rfl) rfl (by decide +kernel) (by decide +kernel)
