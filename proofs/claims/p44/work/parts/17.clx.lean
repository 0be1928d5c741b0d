/-! THE ENDS OF BLOCKS: a call, returned, caught or not; one theorem for the end of a block; methods -/
def ab_okK (mt : Nat → Option ab_M) (qt : Nat → Option ab_Q) (own : String) (cc : ByteArray) (M : ab_M) (hh : List (Nat × Nat × Nat × Nat)) (pc : Nat) (t : ab_T) : Prop :=
  ∃ (M' : ab_M) (q' : ab_Q), mt t.2.2.1.1 = some M' ∧ qt t.2.2.1.1 = some q' ∧ ab_okN q' M' ∧ ab_okC own cc pc t q' ∧ ab_tg M (ab_at t 0) (pc + 3) = true ∧ (t.2.2.1.2.2 < 50 → M.2.1 = [] ∨ ab_okH own M hh pc)
section Cl
variable {p : Program} {l : Launch} {e : Env} {R : Room} {s : State} {m : MethodId} {args : Array Value} {below : List Frame} {meth : Method} {c : Code} {Q : State → Prop}
variable {cc : ByteArray} {own : String} {nL : Nat} {ini : Bool} {A : Nat → Prop} {fa : Nat → Nat} {fx : Nat → List Int32} {D : va_G} {ρ0 : List Nat} {hb sb : Nat} {pc : Nat}
variable {mt : Nat → Option ab_M} {qt : Nat → Option ab_Q} {M : ab_M} {n mi : Nat} {r : Option Value ⊕ Nat} {h' : ab_H} {hh : List (Nat × Nat × Nat × Nat)}
theorem ab_runX {t : ab_T} {q : ab_Q} {nLc d x : Nat} {h h1 : ab_H} {L T : List Value} {ρ : List Nat} {H : Heap} {locs : List Loc} {ls : Array Slot} {st : List Value} {cells slots : Nat}
    (E : ab_E p R s m args meth c cc own nL ini A fa fx) (hk : ab_okC own cc pc t q) (h50 : t.2.2.1.2.2 < 50) (hN : ab_hd q nLc ∈ wsL_law ∧ Cond.initialized q.1.cls ∈ wsL_law ∧ q.1.cls ≠ "java/lang/invoke/MethodHandle" ∧ q.1.cls ≠ "java/lang/invoke/VarHandle" ∧ nLc ≤ 60) (hR : d + 9 ≤ R.frames ∧ 100 * d + 300 ≤ R.locals)
    (hp : ab_Pt D A s fa ρ0 nL hb sb (L, T, h) ρ H locs ls st cells slots) (hlen : t.2.2.1.2.1 ≤ T.length) (hsum : ((T.drop t.2.2.1.2.1).map fun v => v.category).sum ≤ 8) (hrc : 200 ≤ t.2.2.1.2.2 ∨ ab_rcv t.2.2.1.2.2 (T.take t.2.2.1.2.1).reverse h = true)
    (hf : cells + (h1.length - h.length) ≤ R.cells ∧ slots + (ab_hsz h1 - ab_hsz h) ≤ R.slots)
    (hC : ab_Con l D A fa fx q nLc d (T.take t.2.2.1.2.1).reverse h (.inr x) h1) : vx_Run p l e R s m args below meth c H locs cells slots (h1.length - h.length) (ab_hsz h1 - ab_hsz h) (F0 m pc ls st) (st.drop t.2.2.1.2.1) (fun _ _ _ => False) (ab_Xc D A fa ρ x h1) A := by
  obtain ⟨hx, hbb, hml, hown, hts, hini, hA, hCx, -⟩ := E
  obtain ⟨hT1, hT2⟩ := ab_Ts_take t.2.2.1.2.1 hp.2.2.2.2.1
  have hTr := ab_Ts_rev hT1
  have hsum2 : ((st.drop t.2.2.1.2.1).map fun v => v.category).sum ≤ 8 := by rw [ab_Ts_cat hT2]; exact hsum
  have hM := hC ρ
  obtain ⟨lv, hlv, -⟩ := hp.2.2.2.1
  have hwin := ab_wsin hN.1
  have hRm : (ab_rm d (h1.length - h.length) (ab_hsz h1 - ab_hsz h)).frames + 1 ≤ R.frames ∧ 8 + (nLc + 11) + (ab_rm d (h1.length - h.length) (ab_hsz h1 - ab_hsz h)).locals ≤ R.locals := by
    have := hN.2.2.2.2
    constructor <;> simp only [ab_rm] <;> omega
  have fix : CallFix p m c cc nL s args wsL_law own := ⟨hx, hbb, hml, hown, hts⟩
  have hroom := lv_room (m := m) (pc := pc) (ls := ls) (rest := st) hsum2
  rcases hk with ⟨hr, hh, idx, k, cq, ht, hdg, hcq, hcl, hl1, hl2, hl3, hna, hnp⟩ | ⟨hr0, -⟩ | ⟨hr, -⟩ | ⟨hr, -⟩ | ⟨hr, -⟩ | ⟨hr, -⟩ | ⟨hr, -⟩
  · rcases hrc with z | z
    · omega
    · unfold ab_rcv at z
      split at z
      · rename_i kr tl hq
        rw [hq] at hTr
        obtain ⟨w, As, hw, ⟨b, hb1, rfl⟩, -, hAs⟩ := ab_Ts_cons hTr
        rw [if_neg (by omega)] at z
        split at z
        · rename_i ci fs ho
          have hci : ci = t.2.2.1.2.2 % 50 := by simpa using z
          rw [Nat.mod_eq_of_lt hr] at hci
          subst hci
          obtain ⟨ws, tys, e1, j0, hK, hP, hD, hq2, he, -⟩ := ab_wd_at hp.1 ho (ab_ngh hcq) hb1
          obtain ⟨gs, rfl, -⟩ := he
          have hcell := va_recv hK hP hcq hq2
          have e2 : As.length = k := by
            have := congrArg List.length hw
            have h3 : st.length = T.length := ab_Ts_len hp.2.2.2.2.1
            simp only [List.length_reverse, List.length_take, List.length_cons] at this
            omega
          have e3 : st = As.reverse ++ .ref b :: st.drop t.2.2.1.2.1 := by
            have h2 : st.take t.2.2.1.2.1 = As.reverse ++ [.ref b] := by
              have := congrArg List.reverse hw
              rw [List.reverse_reverse, List.reverse_cons] at this
              exact this
            have h3 := List.take_append_drop t.2.2.1.2.1 st
            rw [h2, List.append_assoc] at h3
            exact h3.symm
          exact vx_runV (C := q.1.cls) (b := b) (As := As) fix hM (cwV k hts (ab_goodIn (fun w hw => by
            rcases List.mem_append.mp hw with z | z
            · simp only [List.mem_cons, List.not_mem_nil, or_false] at z
              rcases z with rfl | rfl | rfl | rfl
              · exact hl1
              · exact hl2
              · exact hl3
              · exact hN.2.1
            · exact hwin w z)) (ab_ws0 hh) rfl rfl ⟨rfl, hN.2.2.1, hN.2.2.2.1, hnp⟩ hRm) ⟨ab_blind, by rw [← hcl]; exact hcell, fun U hU hW => ⟨_, rfl, by rw [hq]; rw [hw] at hTr; exact hTr, by rw [hU]; exact ab_Wd_mv hW.alike (fun _ _ => rfl) hp.1, fun q hq => hA q (Nat.le_trans hp.2.1.1 (by rw [← hU]; exact hq)), ab_Cx_mv hW (fun a h1 h2 => by rw [hU]; exact hp.2.1.2.1 a h1 h2) hCx⟩⟩ rfl e2 hlv.1 e3 hroom hdg hf
        · cases z
      · cases z
  all_goals omega
/-- a throw that comes up to a method with a table -/
theorem ab_catW {L T1 : List Value} {x : Nat} {ρ2 : List Nat} {H1 : Heap} {locs1 : List Loc} {ls : Array Slot} {rest : List Value} {cells1 slots1 : Nat} {q : Addr} {ce : Cell} {a : Nat × Nat} (E : ab_E p R s m args meth c cc own nL ini A fa fx) (hxt : c.exceptionTable.toList = tableOf hh) (hH : ab_okH own M hh pc) (hfind : M.2.1.find? (fun q => q.1 == x) = some a)
    (hce : H1[q]? = some ce) (hcv : ce.vm = .none) (hcl : s.vm.findClass (ab_exn x) = some ce.cls) (hp : ab_Pt D A s fa ρ0 nL hb sb (L, T1, h') ρ2 H1 locs1 ls rest cells1 slots1)
    (kk : ∀ pc2 : Nat, ab_tg M a.2 pc2 = true → ab_W p l e R s m args below meth c Q D A fa ρ0 nL hb sb pc2 (L, [.retAddr 8], h')) : vx_W p l e R s m args below meth c H1 locs1 cells1 slots1 Q (F0 m pc ls rest) q := (show False from hH).elim
theorem ab_calW {d : Nat} {t : ab_T} {S : ab_S} (E : ab_E p R s m args meth c cc own nL ini A fa fx) (hxt : M.2.1 ≠ [] → c.exceptionTable.toList = tableOf hh) (hok : ab_okK mt qt own cc M hh pc t) (h : ab_call mt (ab_go mt fx n) d mi M.2.1 t S = some (r, h')) (hR : d + 8 ≤ R.frames ∧ 100 * d + 200 ≤ R.locals) (hcap : h'.length ≤ hb + R.cells ∧ ab_hsz h' ≤ sb + R.slots)
    (hcon : ∀ (d' i : Nat) (M' : ab_M) (q' : ab_Q) (as' : List Value) (h0 : ab_H) (r1 : Option Value ⊕ Nat) (h1 : ab_H), mt i = some M' → qt i = some q' → ab_go mt fx n d' i 0 (ab_in M'.1 as' h0) = some (r1, h1) → as'.length ≤ M'.1 → (∀ v ∈ as', v.category = 1) → ab_Con l D A fa fx q' M'.1 d' as' h0 r1 h1)
    (kk : ∀ (k : Nat) (B : Nat × List ab_I × ab_T) (S1 : ab_S), M.2.2[k]? = some B → ab_go mt fx n d mi k S1 = some (r, h') → ab_W p l e R s m args below meth c Q D A fa ρ0 nL hb sb B.1 S1)
    (HU : ∀ (x : Nat) (L T1 : List Value) (pc2 : Nat) (q : Addr) (ce : Cell) (ρ2 : List Nat) (H1 : Heap) (locs1 : List Loc) (ls : Array Slot) (rest : List Value) (cells1 slots1 : Nat), r = .inr x → M.2.1 = [] → H1[q]? = some ce → ce.vm = .none → s.vm.findClass (ab_exn x) = some ce.cls → ab_Pt D A s fa ρ0 nL hb sb (L, T1, h') ρ2 H1 locs1 ls rest cells1 slots1 → vx_W p l e R s m args below meth c H1 locs1 cells1 slots1 Q (F0 m pc2 ls rest) q) :
    ab_W p l e R s m args below meth c Q D A fa ρ0 nL hb sb pc S := by
  intro ρ H locs ls st cells slots hp
  have go : ∀ (k pc2 : Nat) (S1 : ab_S), ab_tg M k pc2 = true → ab_go mt fx n d mi k S1 = some (r, h') → ab_W p l e R s m args below meth c Q D A fa ρ0 nL hb sb pc2 S1 := by
    intro k pc2 S1 h1 h2
    obtain ⟨B, h3, rfl⟩ := ab_tg_of h1
    exact kk k B S1 h3 h2
  obtain ⟨L, T, hh0⟩ := S
  obtain ⟨M', q', hm, hq, hN, hC, htg, hHd⟩ := hok
  unfold ab_call at h
  rw [hm] at h
  split at h
  · rename_i M2 d' hM2
    cases hM2
    split at h
    · rename_i hc
      obtain ⟨c1, c2, c3, c4, c5⟩ := hc
      have hcat : ∀ v ∈ (T.take t.2.2.1.2.1).reverse, v.category = 1 := fun v hv => by
        have := List.all_eq_true.mp c3 v (List.mem_reverse.mp hv)
        simpa using this
      have hlen : (T.take t.2.2.1.2.1).reverse.length ≤ M'.1 := by
        have : t.2.2.1.2.1 ≤ T.length := c1
        simp only [List.length_reverse, List.length_take]
        omega
      have hR2 : d' + 9 ≤ R.frames ∧ 100 * d' + 300 ≤ R.locals := by omega
      have hT2 := (ab_Ts_take t.2.2.1.2.1 hp.2.2.2.2.1).2
      have hpc : hb + cells = hh0.length := hp.2.2.2.2.2.1
      have hps : sb + slots = ab_hsz hh0 := hp.2.2.2.2.2.2
      split at h
      · cases h
      · rename_i v h1 hgo
        have hle : ab_le hh0 h1 := by have := ab_go_le _ _ _ _ _ _ _ hgo; exact this
        have hle2 : ab_le h1 h' := by have := ab_go_le _ _ _ _ _ _ _ h; exact this
        have hf : cells + (h1.length - hh0.length) ≤ R.cells ∧ slots + (ab_hsz h1 - ab_hsz hh0) ≤ R.slots := by
          have g1 := hle.1
          have g2 := hle.2
          have g3 := hle2.1
          have g4 := hle2.2
          omega
        obtain ⟨a, hrun⟩ := ab_runQ E hC hN hR2 hp c1 c4 c5 hf (hcon _ _ _ _ _ _ _ _ hm hq hgo hlen hcat)
        exact ab_backW hp hT2 E.2.2.2.2.2.2.1 hle hrun (go _ _ _ htg h)
      · rename_i x h1 hgo
        have hle : ab_le hh0 h1 := by have := ab_go_le _ _ _ _ _ _ _ hgo; exact this
        split at h
        · rename_i h50
          have hle2 : ab_le h1 h' := by
            split at h
            · have := ab_go_le _ _ _ _ _ _ _ h; exact this
            · split at h
              · cases h; exact ab_le_rf _
              · cases h
          have hf : cells + (h1.length - hh0.length) ≤ R.cells ∧ slots + (ab_hsz h1 - ab_hsz hh0) ≤ R.slots := by
            have g1 := hle.1
            have g2 := hle.2
            have g3 := hle2.1
            have g4 := hle2.2
            omega
          have hrun := ab_runX (e := e) (below := below) E hC h50 hN hR2 hp c1 c4 c5 hf (hcon _ _ _ _ _ _ _ _ hm hq hgo hlen hcat)
          split at h
          · rename_i a hfind
            refine ab_backX (a := #[]) hp hT2 E.2.2.2.2.2.2.1 hle hrun (fun q ce ρ2 H1 locs1 cells1 slots1 g1 g2 g3 g4 => ?_)
            rcases hHd h50 with z | z
            · rw [z] at hfind
              cases hfind
            · exact ab_catW E (hxt (fun z2 => by rw [z2] at hfind; cases hfind)) z hfind g1 g2 g3 g4 (fun pc2 hpc2 => go _ _ _ hpc2 h)
          · split at h
            · rename_i hemp
              cases h
              exact ab_backX (a := #[]) hp hT2 E.2.2.2.2.2.2.1 hle hrun (fun q ce ρ2 H1 locs1 cells1 slots1 g1 g2 g3 g4 => HU x _ _ _ q ce ρ2 H1 locs1 ls _ cells1 slots1 rfl (List.isEmpty_iff.mp hemp) g1 g2 g3 g4)
            · cases h
        · cases h
    · cases h
  · cases h
end Cl
