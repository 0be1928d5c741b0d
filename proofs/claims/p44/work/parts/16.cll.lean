/-! THE ENDS OF BLOCKS: calls -/
def ab_np (q : ab_Q) : Option Nat := (parseMethodDescriptor q.1.desc).map (fun d => d.parameters.length)
/-- what a method's names must be, to be called -/
def ab_okN (q : ab_Q) (M : ab_M) : Prop := ab_hd q M.1 ∈ wsL_law ∧ Cond.initialized q.1.cls ∈ wsL_law ∧ q.1.cls ≠ "java/lang/invoke/MethodHandle" ∧ q.1.cls ≠ "java/lang/invoke/VarHandle" ∧ M.1 ≤ 60
def ab_okC (own : String) (cc : ByteArray) (pc : Nat) (t : ab_T) (q : ab_Q) : Prop :=
  (t.2.2.1.2.2 < 50 ∧ q.2.2.2.2 = [] ∧ ∃ (idx k : Nat) (cq : vw_C), t.1 = .invokevirtual idx ∧ decode cc pc = .ok (.invokevirtual idx, 3) ∧ ab_cl[t.2.2.1.2.2]? = some cq ∧ cq.1 = q.1.cls ∧ Cond.methodLink own idx q.1 ∈ wsL_law ∧ Cond.instanceMethod q.1 ∈ wsL_law ∧ Cond.selects q.1.cls q.1 q.1 ∈ wsL_law ∧ t.2.2.1.2.1 = k + 1 ∧ ab_np q = some k) ∨
  (50 ≤ t.2.2.1.2.2 ∧ t.2.2.1.2.2 < 100 ∧ q.2.2.2.2 = [] ∧ ∃ (idx k : Nat) (cq : vw_C) (host : String), t.1 = .invokevirtual idx ∧ decode cc pc = .ok (.invokevirtual idx, 3) ∧ ab_cl[t.2.2.1.2.2 % 50]? = some cq ∧ cq.1 = q.1.cls ∧ Cond.methodLinkNest own idx q.1 host ∈ ab_nest ∧ Cond.instanceMethod q.1 ∈ wsL_law ∧ Cond.selects q.1.cls q.1 q.1 ∈ wsL_law ∧ t.2.2.1.2.1 = k + 1 ∧ ab_np q = some k) ∨
  (t.2.2.1.2.2 = 100 ∧ q.2.2.2.2 = [] ∧ ∃ (idx k : Nat), t.1 = .invokespecial idx ∧ decode cc pc = .ok (.invokespecial idx, 3) ∧ q.1.name = "<init>" ∧ q.2.2.1 = none ∧ Cond.methodLink own idx q.1 ∈ wsL_law ∧ Cond.instanceMethod q.1 ∈ wsL_law ∧ t.2.2.1.2.1 = k + 1 ∧ ab_np q = some k) ∨
  (t.2.2.1.2.2 = 101 ∧ q.2.2.2.2 = [] ∧ ∃ (idx k : Nat) (host : String), t.1 = .invokespecial idx ∧ decode cc pc = .ok (.invokespecial idx, 3) ∧ q.1.name = "<init>" ∧ q.2.2.1 = none ∧ Cond.methodLinkNest own idx q.1 host ∈ ab_nest ∧ Cond.instanceMethod q.1 ∈ wsL_law ∧ t.2.2.1.2.1 = k + 1 ∧ ab_np q = some k) ∨
  (t.2.2.1.2.2 = 200 ∧ q.2.2.2.2 = [] ∧ ∃ (idx : Nat), t.1 = .invokestatic idx ∧ decode cc pc = .ok (.invokestatic idx, 3) ∧ Cond.methodLink own idx q.1 ∈ wsL_law ∧ Cond.static q.1 ∈ wsL_law ∧ ab_np q = some t.2.2.1.2.1) ∨
  (t.2.2.1.2.2 = 201 ∧ q.2.2.2.2 ≠ [] ∧ ∃ (idx : Nat), t.1 = .invokestatic idx ∧ decode cc pc = .ok (.invokestatic idx, 3) ∧ Cond.methodLink own idx q.1 ∈ wsL_law ∧ Cond.static q.1 ∈ wsL_law ∧ ab_np q = some t.2.2.1.2.1) ∨
  (t.2.2.1.2.2 = 203 ∧ q.2.2.2.2 = [] ∧ ∃ (idx : Nat) (host : String), t.1 = .invokestatic idx ∧ decode cc pc = .ok (.invokestatic idx, 3) ∧ Cond.methodLinkNest own idx q.1 host ∈ ab_nest ∧ Cond.static q.1 ∈ wsL_law ∧ ab_np q = some t.2.2.1.2.1)
def ab_okH (own : String) (M : ab_M) (hh : List (Nat × Nat × Nat × Nat)) (pc : Nat) : Prop := False
theorem ab_wsin {q : ab_Q} {nL : Nat} (h : ab_hd q nL ∈ wsL_law) : ∀ w ∈ ab_ws q nL, w ∈ wsL_law := fun w hw => (List.mem_cons.mp hw).elim (fun z => z ▸ h) id
theorem ab_ws0 {q : ab_Q} {nL : Nat} (h : q.2.2.2.2 = []) : ab_ws q nL = Cond.code q.1 q.2.1 nL q.2.2.1 :: wsL_law := by
  unfold ab_ws ab_hd
  rw [h]
theorem ab_ws1 {q : ab_Q} {nL : Nat} (h : q.2.2.2.2 ≠ []) : ab_ws q nL = Cond.codeWith q.1 q.2.1 nL q.2.2.1 q.2.2.2.2 :: wsL_law := by
  unfold ab_ws ab_hd
  split
  · rename_i z
    exact absurd z h
  · rfl
section Cl
variable {p : Program} {l : Launch} {e : Env} {R : Room} {s : State} {m : MethodId} {args : Array Value} {below : List Frame} {meth : Method} {c : Code} {Q : State → Prop}
variable {cc : ByteArray} {own : String} {nL : Nat} {ini : Bool} {A : Nat → Prop} {fa : Nat → Nat} {fx : Nat → List Int32} {D : va_G} {ρ0 : List Nat} {hb sb : Nat} {pc : Nat}
/-- the run of a callee that returns, whatever the kind of its call -/
theorem ab_runQ {t : ab_T} {q : ab_Q} {nLc d : Nat} {v : Option Value} {h h1 : ab_H} {L T : List Value} {ρ : List Nat} {H : Heap} {locs : List Loc} {ls : Array Slot} {st : List Value} {cells slots : Nat}
    (E : ab_E p R s m args meth c cc own nL ini A fa fx) (hk : ab_okC own cc pc t q) (hN : ab_hd q nLc ∈ wsL_law ∧ Cond.initialized q.1.cls ∈ wsL_law ∧ q.1.cls ≠ "java/lang/invoke/MethodHandle" ∧ q.1.cls ≠ "java/lang/invoke/VarHandle" ∧ nLc ≤ 60) (hR : d + 9 ≤ R.frames ∧ 100 * d + 300 ≤ R.locals)
    (hp : ab_Pt D A s fa ρ0 nL hb sb (L, T, h) ρ H locs ls st cells slots) (hlen : t.2.2.1.2.1 ≤ T.length) (hsum : ((T.drop t.2.2.1.2.1).map fun v => v.category).sum ≤ 8) (hrc : 200 ≤ t.2.2.1.2.2 ∨ ab_rcv t.2.2.1.2.2 (T.take t.2.2.1.2.1).reverse h = true)
    (hf : cells + (h1.length - h.length) ≤ R.cells ∧ slots + (ab_hsz h1 - ab_hsz h) ≤ R.slots)
    (hC : ab_Con l D A fa fx q nLc d (T.take t.2.2.1.2.1).reverse h (.inl v) h1) : ∃ a : Array Value, va_Run p l e R s m args below meth c H locs cells slots (h1.length - h.length) (ab_hsz h1 - ab_hsz h) (F0 m pc ls st) (st.drop t.2.2.1.2.1) (ab_Qc D A fa ρ v h1 a) A := by
  obtain ⟨hx, hbb, hml, hown, hts, hini, hA, hCx, -⟩ := E
  obtain ⟨hT1, hT2⟩ := ab_Ts_take t.2.2.1.2.1 hp.2.2.2.2.1
  have hTr := ab_Ts_rev hT1
  have hsum2 : ((st.drop t.2.2.1.2.1).map fun v => v.category).sum ≤ 8 := by rw [ab_Ts_cat hT2]; exact hsum
  have hlst : t.2.2.1.2.1 ≤ st.length := by rw [ab_Ts_len hp.2.2.2.2.1]; exact hlen
  have hM := ab_met hC ρ
  obtain ⟨lv, hlv, -⟩ := hp.2.2.2.1
  have hwin := ab_wsin hN.1
  have hRm : (ab_rm d (h1.length - h.length) (ab_hsz h1 - ab_hsz h)).frames + 1 ≤ R.frames ∧ 8 + (nLc + 11) + (ab_rm d (h1.length - h.length) (ab_hsz h1 - ab_hsz h)).locals ≤ R.locals := by
    have := hN.2.2.2.2
    constructor <;> simp only [ab_rm] <;> omega
  have fix : CallFix p m c cc nL s args wsL_law own := ⟨hx, hbb, hml, hown, hts⟩
  have pcw : ∀ (as : List Value), as = (st.take t.2.2.1.2.1).reverse → ∀ U : State, U.heap = H → s.WarmedH U.vm → ab_Pc D A fa fx ρ (T.take t.2.2.1.2.1).reverse h as.toArray U := fun as has U hU hW => by
    subst has
    refine ⟨_, rfl, hTr, ?_, fun q hq => hA q (Nat.le_trans hp.2.1.1 (by rw [← hU]; exact hq)), ab_Cx_mv hW (fun a h1 h2 => by rw [hU]; exact hp.2.1.2.1 a h1 h2) hCx⟩
    rw [hU]
    exact ab_Wd_mv hW.alike (fun _ _ => rfl) hp.1
  -- the receiver
  have rcv : ∀ k, t.2.2.1.2.1 = k + 1 → t.2.2.1.2.2 < 200 → ∃ (b : Nat) (As : List Value), (st.take t.2.2.1.2.1).reverse = .ref b :: As ∧ As.length = k ∧ st = As.reverse ++ .ref b :: st.drop t.2.2.1.2.1 ∧ (t.2.2.1.2.2 < 100 → ∀ cq : vw_C, ab_cl[t.2.2.1.2.2 % 50]? = some cq → ∃ cellB : Cell, H[b]? = some cellB ∧ cellB.vm.isStatics = false ∧ s.vm.findClass cq.1 = some cellB.cls) := by
    intro k hk1 hk2
    rcases hrc with z | z
    · omega
    · unfold ab_rcv at z
      split at z
      · rename_i kr tl hq
        rw [hq] at hTr
        obtain ⟨w, As, hw, ⟨b, hb1, rfl⟩, -, hAs⟩ := ab_Ts_cons hTr
        refine ⟨b, As, hw, ?_, ?_, ?_⟩
        · have := congrArg List.length hw
          simp only [List.length_reverse, List.length_take, List.length_cons] at this
          omega
        · have h2 : st.take t.2.2.1.2.1 = As.reverse ++ [.ref b] := by
            have := congrArg List.reverse hw
            rw [List.reverse_reverse, List.reverse_cons] at this
            exact this
          have h3 := List.take_append_drop t.2.2.1.2.1 st
          rw [h2, List.append_assoc] at h3
          exact h3.symm
        · intro h100 cq hcq
          rw [if_neg (by omega)] at z
          split at z
          · rename_i ci fs ho
            have hci : ci = t.2.2.1.2.2 % 50 := by simpa using z
            subst hci
            obtain ⟨ws, tys, e1, j0, hK, hP, hD, hq2, he, -⟩ := ab_wd_at hp.1 ho (ab_ngh hcq) hb1
            obtain ⟨gs, rfl, -⟩ := he
            exact va_recv hK hP hcq hq2
          · cases z
      · cases z
  have hroom := lv_room (m := m) (pc := pc) (ls := ls) (rest := st) hsum2
  rcases hk with ⟨hr, hh, idx, k, cq, ht, hdg, hcq, hcl, hl1, hl2, hl3, hna, hnp⟩ | ⟨hr0, hr, hh, idx, k, cq, host, ht, hdg, hcq, hcl, hl1, hl2, hl3, hna, hnp⟩ | ⟨hr, hh, idx, k, ht, hdg, hnm, hret, hl1, hl2, hna, hnp⟩ | ⟨hr, hh, idx, k, host, ht, hdg, hnm, hret, hl1, hl2, hna, hnp⟩ | ⟨hr, hh, idx, ht, hdg, hl1, hl2, hnp⟩ | ⟨hr, hh, idx, ht, hdg, hl1, hl2, hnp⟩ | ⟨hr, hh, idx, host, ht, hdg, hl1, hl2, hnp⟩
  · obtain ⟨b, As, e1, e2, e3, e4⟩ := rcv k hna (by omega)
    rw [Nat.mod_eq_of_lt hr] at e4
    exact ⟨_, va_runV (C := q.1.cls) (b := b) (As := As) fix hM (cwV k hts (ab_goodIn (fun w hw => by
      rcases List.mem_append.mp hw with z | z
      · simp only [List.mem_cons, List.not_mem_nil, or_false] at z
        rcases z with rfl | rfl | rfl | rfl
        · exact hl1
        · exact hl2
        · exact hl3
        · exact hN.2.1
      · exact hwin w z)) (ab_ws0 hh) rfl rfl ⟨rfl, hN.2.2.1, hN.2.2.2.1, hnp⟩ hRm) ⟨ab_blind, by rw [← hcl]; exact e4 (by omega) cq hcq, pcw _ e1.symm⟩ rfl e2 hlv.1 e3 hroom hdg hf⟩
  · obtain ⟨b, As, e1, e2, e3, e4⟩ := rcv k hna (by omega)
    exact ⟨_, va_runVN (C := q.1.cls) (host := host) (b := b) (As := As) fix hM ⟨va_cnB k hts (ab_goodIn hwin) (ab_ws0 hh) rfl rfl (hCx.2.2.1 _ hl1) (hts _ hN.2.1) ⟨hN.2.2.1, hN.2.2.2.1, hnp⟩ hRm, hts _ hl2, hts _ hl3⟩ ⟨ab_blind, by rw [← hcl]; exact e4 (by omega) cq hcq, pcw _ e1.symm⟩ rfl e2 hlv.1 e3 hroom hdg hf⟩
  · obtain ⟨b, As, e1, e2, e3, e4⟩ := rcv k hna (by omega)
    exact ⟨_, va_runI (b := b) (As := As) fix hM (cwI k hts (ab_goodIn hwin) (by rw [ab_ws0 hh, hret]) rfl rfl (hts _ hN.2.1) (hts _ hl1) (hts _ hl2) hnm ⟨hN.2.2.1, hN.2.2.2.1, hnp⟩ hRm) ⟨ab_blind, pcw _ e1.symm⟩ rfl e2 hlv.1 e3 hroom hdg hf⟩
  · obtain ⟨b, As, e1, e2, e3, e4⟩ := rcv k hna (by omega)
    exact ⟨_, va_runIN (host := host) (b := b) (As := As) fix hM ⟨va_cnB k hts (ab_goodIn hwin) (by rw [ab_ws0 hh, hret]) rfl rfl (hCx.2.2.1 _ hl1) (hts _ hN.2.1) ⟨hN.2.2.1, hN.2.2.2.1, hnp⟩ hRm, hnm, hts _ hl2⟩ ⟨ab_blind, pcw _ e1.symm⟩ rfl e2 hlv.1 e3 hroom hdg hf⟩
  · exact ⟨_, va_runS (As := (st.take t.2.2.1.2.1).reverse) fix hM (va_cwS _ hts (ab_goodIn (fun w hw => by
      rcases List.mem_append.mp hw with z | z
      · simp only [List.mem_cons, List.not_mem_nil, or_false] at z
        rcases z with rfl | rfl | rfl
        · exact hl1
        · exact hl2
        · exact hN.2.1
      · exact hwin w z)) (ab_ws0 hh) rfl rfl ⟨hN.2.2.1, hN.2.2.2.1, hnp⟩ hRm) ⟨ab_blind, pcw _ rfl⟩ rfl (by simp; omega) hlv.1 (by rw [List.reverse_reverse, List.take_append_drop]) hroom hdg hf⟩
  · exact ⟨_, vx_runSW (As := (st.take t.2.2.1.2.1).reverse) fix hM (vx_cwSW _ hts (ab_goodIn (fun w hw => by
      rcases List.mem_append.mp hw with z | z
      · simp only [List.mem_cons, List.not_mem_nil, or_false] at z
        rcases z with rfl | rfl | rfl
        · exact hl1
        · exact hl2
        · exact hN.2.1
      · exact hwin w z)) (ab_ws1 hh) rfl rfl ⟨hN.2.2.1, hN.2.2.2.1, hnp⟩ hRm) ⟨ab_blind, pcw _ rfl⟩ rfl (by simp; omega) hlv.1 (by rw [List.reverse_reverse, List.take_append_drop]) hroom hdg hf⟩
  · exact ⟨_, va_runSN (host := host) (As := (st.take t.2.2.1.2.1).reverse) fix hM ⟨va_cnB _ hts (ab_goodIn hwin) (ab_ws0 hh) rfl rfl (hCx.2.2.1 _ hl1) (hts _ hN.2.1) ⟨hN.2.2.1, hN.2.2.2.1, hnp⟩ hRm, hts _ hl2, trivial⟩ ⟨ab_blind, pcw _ rfl⟩ rfl (by simp; omega) hlv.1 (by rw [List.reverse_reverse, List.take_append_drop]) hroom hdg hf⟩
end Cl
