/-! THE ENDS OF BLOCKS: returns, throws, calls -/
theorem ab_good : ∀ w ∈ wsL_law, goodWord w = true := by decide +kernel
theorem ab_goodIn {ws : List Cond} (h : ∀ w ∈ ws, w ∈ wsL_law) : GoodIn wsL_law ws := fun w hw => ⟨h w hw, good_of_word (ab_good w (h w hw))⟩
def ab_okV (cc : ByteArray) (ret : Option FieldType) (pc : Nat) (t : ab_T) : Prop := match t.1 with
  | .ireturn => decode cc pc = .ok (t.1, 1) ∧ ((t.2.2.1.1 = 0 ∧ ret = some .int) ∨ (t.2.2.1.1 = 1 ∧ ret = some .boolean))
  | .lreturn => decode cc pc = .ok (t.1, 1) ∧ ret = some .long
  | .freturn => decode cc pc = .ok (t.1, 1) ∧ ret = some .float
  | .dreturn => decode cc pc = .ok (t.1, 1) ∧ ret = some .double
  | .areturn => decode cc pc = .ok (t.1, 1) ∧ ∃ rt, ret = some rt ∧ ((∃ n, rt = .object n) ∨ ∃ u, rt = .array u)
  | .return_ => decode cc pc = .ok (t.1, 1) ∧ ret = none
  | _ => False
def ab_okX (own : String) (cc : ByteArray) (pc x : Nat) : Prop := own = RX11 ∧ x < 4 ∧ ∃ (ik is ic : Nat) (text : String) (names : List String) (ix : Nat) (rx : ByteArray), decode rx 0 = .ok (.aload_n 0, 1) ∧ decode rx 1 = .ok (.aload_n 1, 1) ∧ decode rx 2 = .ok (.invokespecial ix, 3) ∧ decode rx 5 = .ok (.return_, 1) ∧ names.length ≤ 3 ∧ Bundle.fit (ab_exn x) = true ∧ (∀ n ∈ names, Bundle.fit n = true) ∧ Cond.classLink RX11 ik (ab_exn x) ∈ wsL_law ∧ Cond.initialized (ab_exn x) ∈ wsL_law ∧ (is, text) ∈ ab_strs ∧ (∀ w ∈ (vy_at RX11 ic (ab_exn x) ix rx names).filter goodWord, w ∈ wsL_law) ∧ (∀ w ∈ (vy_at RX11 ic (ab_exn x) ix rx names).filter (fun w => !goodWord w), w ∈ ab_bad) ∧ (∀ w ∈ Cond.classLink RX11 ik (ab_exn x) :: Cond.initialized (ab_exn x) :: vy_at RX11 ic (ab_exn x) ix rx names, vx_ot w = true) ∧ decode cc pc = .ok (.new ik, 3) ∧ decode cc (pc + 3) = .ok (.dup, 1) ∧ ((decode cc (pc + 4) = .ok (.ldc is, 2) ∧ decode cc (pc + 6) = .ok (.invokespecial ic, 3) ∧ decode cc (pc + 9) = .ok (.athrow, 1)) ∨ (decode cc (pc + 4) = .ok (.ldc_w is, 3) ∧ decode cc (pc + 7) = .ok (.invokespecial ic, 3) ∧ decode cc (pc + 10) = .ok (.athrow, 1)))
section Rt
variable {p : Program} {l : Launch} {e : Env} {R : Room} {s : State} {m : MethodId} {args : Array Value} {below : List Frame} {meth : Method} {c : Code} {Q : State → Prop}
variable {cc : ByteArray} {own : String} {nL : Nat} {ini : Bool} {A : Nat → Prop} {fa : Nat → Nat} {fx : Nat → List Int32} {D : va_G} {ρ0 : List Nat} {hb sb mc ms : Nat} {pc : Nat}
variable {mt : Nat → Option ab_M} {qt : Nat → Option ab_Q} {M : ab_M} {n d mi : Nat} {r : Option Value ⊕ Nat} {h' : ab_H} {ret : Option FieldType}
theorem ab_vaF {ρ : List Nat} {H : Heap} {locs : List Loc} {t : State} (hS : va_S A s.heap H locs) (h1 : H.size ≤ t.heap.size) (h2 : ∀ q : Nat, q < H.size → t.heap[q]? = H[q]?) : va_F A s t :=
  ⟨Nat.le_trans hS.1 h1, fun q g1 g2 => (h2 q (Nat.lt_of_lt_of_le g1 hS.1)).trans (hS.2.1 q g1 g2)⟩
/-- what stands where the method returns -/
theorem ab_retQ {L T : List Value} {v : Option Value} {w : Option Value} {ρ : List Nat} {H : Heap} {locs : List Loc} {ls : Array Slot} {st : List Value} {cells slots : Nat} {t : State} (hp : ab_Pt D A s fa ρ0 nL hb sb (L, T, h') ρ H locs ls st cells slots) (hv : ab_Ts fa ρ v.toList w.toList) (ht : t.heap = H) (hW : s.WarmedH t.vm) : ab_QR D A fa ρ0 (.inl v) h' args s (.returned w) t := by
  obtain ⟨h1, h2, ⟨r0, rfl⟩, -⟩ := hp
  exact ⟨⟨w, r0, rfl, hv, ab_Wd_mv hW.alike (fun _ _ => by rw [ht]) h1⟩, ab_vaF (ρ := []) h2 (by rw [ht]; exact Nat.le_refl _) (fun _ _ => by rw [ht])⟩
theorem ab_retW {t : ab_T} {S : ab_S} {go : Nat → Nat → Nat → ab_S → ab_R} {hs : List (Nat × Nat)} (E : ab_E p R s m args meth c cc own nL ini A fa fx) (hlocks : meth.locks = false) (hr : meth.sig.returnType = ret) (hok : ab_okV cc ret pc t) (h : ab_term mt go d mi hs t S = some (r, h')) (hmc : hb + mc = h'.length) (hms : sb + ms = ab_hsz h') :
    ab_W p l e R s m args below meth c (vx_MQ below (ab_QR D A fa ρ0 r h') (ab_XR D A fa ρ0 r h') args s mc ms A) D A fa ρ0 nL hb sb pc S := by
  intro ρ H locs ls st cells slots hp
  obtain ⟨hx, hbb, hml, hown, hts, hini, hA, hCx, hfr, hlo⟩ := E
  have hf : ∀ q ∈ locs, A q.base := hp.2.1.2.2
  have hpc : hb + cells = S.2.2.length := hp.2.2.2.2.2.1
  have hps : sb + slots = ab_hsz S.2.2 := hp.2.2.2.2.2.2
  obtain ⟨L, T, hh⟩ := S
  obtain ⟨i, len, aux, tgs⟩ := t
  have fin : hh = h' → cells = mc ∧ slots = ms := fun z => by
    subst z
    exact ⟨by have : hb + cells = hh.length := hpc; omega, by have : sb + slots = ab_hsz hh := hps; omega⟩
  cases i with
  | ireturn =>
    simp only [ab_term] at h
    split at h
    · rename_i v
      obtain ⟨w, st1, rfl, b1, -, hp1⟩ := ab_pt_pop hp
      cases b1
      have := ab_Ts_nil hp1.2.2.2.2.1
      subst this
      split at h
      · rename_i ha
        split at h
        · rename_i hv
          cases h
          obtain ⟨rfl, rfl⟩ := fin rfl
          obtain ⟨hd, hz | hz⟩ := hok
          · exact absurd (hz.1.symm.trans ha) (by decide)
          · refine vx_ret (W.zret (ty := .boolean) hx hbb (by rw [hr]; exact hz.2) ?_ (fun t ht hW => ab_retQ (v := some (.int _)) (w := some (.int _)) hp1 ⟨⟨rfl, rfl⟩, trivial⟩ ht hW) hf hd hlocks)
            rcases hv with rfl | rfl <;> decide
        · cases h
      · rename_i ha
        cases h
        obtain ⟨rfl, rfl⟩ := fin rfl
        obtain ⟨hd, hz | hz⟩ := hok
        · exact vx_ret (W.iret hx hbb (by rw [hr]; exact hz.2) (fun t ht hW => ab_retQ (v := some (.int _)) (w := some (.int _)) hp1 ⟨⟨rfl, rfl⟩, trivial⟩ ht hW) hf hd hlocks)
        · exact absurd hz.1 ha
    · cases h
  | lreturn =>
    simp only [ab_term] at h
    split at h
    · obtain ⟨w, st1, rfl, b1, -, hp1⟩ := ab_pt_pop hp
      cases b1
      have := ab_Ts_nil hp1.2.2.2.2.1
      subst this
      cases h
      obtain ⟨rfl, rfl⟩ := fin rfl
      exact vx_ret (W.lret hx hbb (by rw [hr]; exact hok.2) (fun t ht hW => ab_retQ (v := some (.long _)) (w := some (.long _)) hp1 ⟨⟨rfl, rfl⟩, trivial⟩ ht hW) hf hok.1 hlocks)
    · cases h
  | freturn =>
    simp only [ab_term] at h
    split at h
    · obtain ⟨w, st1, rfl, b1, -, hp1⟩ := ab_pt_pop hp
      cases b1
      have := ab_Ts_nil hp1.2.2.2.2.1
      subst this
      cases h
      obtain ⟨rfl, rfl⟩ := fin rfl
      exact vx_ret (W.fret hx hbb (by rw [hr]; exact hok.2) (fun t ht hW => ab_retQ (v := some (.float _)) (w := some (.float _)) hp1 ⟨⟨rfl, rfl⟩, trivial⟩ ht hW) hf hok.1 hlocks)
    · cases h
  | dreturn =>
    simp only [ab_term] at h
    split at h
    · obtain ⟨w, st1, rfl, b1, -, hp1⟩ := ab_pt_pop hp
      cases b1
      have := ab_Ts_nil hp1.2.2.2.2.1
      subst this
      cases h
      obtain ⟨rfl, rfl⟩ := fin rfl
      exact vx_ret (W.dret hx hbb (by rw [hr]; exact hok.2) (fun t ht hW => ab_retQ (v := some (.double _)) (w := some (.double _)) hp1 ⟨⟨rfl, rfl⟩, trivial⟩ ht hW) hf hok.1 hlocks)
    · cases h
  | areturn =>
    simp only [ab_term] at h
    split at h
    · obtain ⟨w, st1, rfl, b1, b2, hp1⟩ := ab_pt_pop hp
      have b0 := b1
      obtain ⟨ad, -, rfl⟩ := b1
      have := ab_Ts_nil hp1.2.2.2.2.1
      subst this
      cases h
      obtain ⟨rfl, rfl⟩ := fin rfl
      obtain ⟨hd, rt, hrt, hk⟩ := hok
      exact vx_ret (W.aret hx hbb (by rw [hr]; exact hrt) hk (Or.inr ⟨_, rfl⟩) (fun t ht hW => ab_retQ (v := some (.ref _)) (w := some (.ref _)) hp1 ⟨⟨b0, rfl⟩, trivial⟩ ht hW) hf hd hlocks)
    · cases h
  | return_ =>
    simp only [ab_term] at h
    split at h
    · have := ab_Ts_nil hp.2.2.2.2.1
      subst this
      cases h
      obtain ⟨rfl, rfl⟩ := fin rfl
      exact vx_ret (W.vret hx hbb (by rw [hr]; exact hok.2) (fun t ht hW => ab_retQ (v := none) (w := none) hp trivial ht hW) hf hok.1 hlocks)
    · cases h
  | _ => exact hok.elim
theorem ab_thrW {x : Nat} {S : ab_S} (E : ab_E p R s m args meth c cc own nL ini A fa fx) (hl : l.stackTraces = false) (hlocks : meth.locks = false) (hnt : ∀ z ∈ c.exceptionTable.toList, False) (hok : ab_okX own cc pc x) (hsum : (S.2.1.map fun v => v.category).sum ≤ 8) (hR : R.cells = mc ∧ R.slots = ms) (hmc : hb + mc = S.2.2.length + 1) (hms : sb + ms = ab_hsz S.2.2 + 6) :
    ab_W p l e R s m args below meth c (vx_MQ below (ab_QR D A fa ρ0 (.inr x) (S.2.2 ++ [.inl (99, [])])) (ab_XR D A fa ρ0 (.inr x) (S.2.2 ++ [.inl (99, [])])) args s mc ms A) D A fa ρ0 nL hb sb pc S := by
  intro ρ H locs ls st cells slots hp
  obtain ⟨hx, hbb, hml, hown, hts, hini, hA, hCx, hfr, hlo⟩ := E
  have hf : ∀ q ∈ locs, A q.base := hp.2.1.2.2
  have hpc : hb + cells = S.2.2.length := hp.2.2.2.2.2.1
  have hps : sb + slots = ab_hsz S.2.2 := hp.2.2.2.2.2.2
  have hst : (st.map fun v => v.category).sum ≤ 8 := by rw [ab_Ts_cat hp.2.2.2.2.1]; exact hsum
  obtain ⟨rfl, hx4, ik, is, ic, text, names, ix, rx, y0, y1, y2, y5, hn3, hfit, hfits, hk, hi, hstr, hat, hbad, hot, d0, d3, hd⟩ := hok
  obtain ⟨-, -, -, -, hU, hN, hst9, hbd, -⟩ := hCx
  obtain ⟨sa, hsa⟩ := hst9 _ hstr
  obtain ⟨lv, hlv, -⟩ := hp.2.2.2.1
  have hatw : ∀ w ∈ vy_at RX11 ic (ab_exn x) ix rx names, w.before args s = true := vx_hat (fun w hw => hts _ (hat w hw)) (fun w hw => hw) (fun w hw => by
    have h1 := hbad w hw
    have h2 := List.all_eq_true.mp ab_bad_k w h1
    have h3 := hbd w h1
    split at h2
    · exact va_Nw.use rfl h3
    · exact va_Nw.use rfl h3
    · cases h2)
  have hxx : ∀ t : State, s.vm.Alike t.vm → H.size ≤ t.heap.size → (∀ q : Nat, q < H.size → t.heap[q]? = H[q]?) → ab_XR D A fa ρ0 (.inr x) (S.2.2 ++ [.inl (99, [])]) (ab_exn x) s t := fun t hal h1 h2 => by
    obtain ⟨g1, g2, ⟨r0, rfl⟩, -⟩ := hp
    exact ⟨rfl, ⟨r0 ++ [0], by rw [← List.append_assoc]; exact ab_wd_ghost (ab_Wd_mv hal h2 g1)⟩, ab_vaF (ρ := []) g2 h1 h2⟩
  rcases hd with ⟨d4, d6, d9⟩ | ⟨d4, d7, d10⟩
  · exact vy_throwS (x0 := y0) (x1 := y1) (x2 := y2) (x5 := y5) hx hbb hl hown hfit hfits (hts _ hk) (hts _ hi) hsa hatw hot hU hN hp.2.1 (by rw [hml]; exact hlv.1) d0 d3 d4 d6 d9 (fun z hz => (hnt z hz).elim) (by omega) (by omega) (by rw [hR.1]; omega) (by rw [hR.2]; omega) hlocks hxx hf (by omega) (by omega)
  · exact vy_throwSW (x0 := y0) (x1 := y1) (x2 := y2) (x5 := y5) hx hbb hl hown hfit hfits (hts _ hk) (hts _ hi) hsa hatw hot hU hN hp.2.1 (by rw [hml]; exact hlv.1) d0 d3 d4 d7 d10 (fun z hz => (hnt z hz).elim) (by omega) (by omega) (by rw [hR.1]; omega) (by rw [hR.2]; omega) hlocks hxx hf (by omega) (by omega)
end Rt
