/-! THE ENDS OF BLOCKS: branches -/
theorem ab_call_le {mt : Nat → Option ab_M} {go : Nat → Nat → Nat → ab_S → ab_R} {d m : Nat} {hs : List (Nat × Nat)} {t : ab_T} {S : ab_S} {r : Option Value ⊕ Nat} {h' : ab_H} (hgo : ∀ (d m k : Nat) (S : ab_S) (r : Option Value ⊕ Nat) (h' : ab_H), go d m k S = some (r, h') → ab_le S.2.2 h') (h : ab_call mt go d m hs t S = some (r, h')) : ab_le S.2.2 h' := by
  unfold ab_call at h
  split at h
  · split at h
    · split at h
      · cases h
      · rename_i v h1 hq
        have a1 := hgo _ _ _ _ _ _ hq
        have a2 := hgo _ _ _ _ _ _ h
        exact ab_le_tr a1 a2
      · rename_i x h1 hq
        have a1 := hgo _ _ _ _ _ _ hq
        split at h
        · split at h
          · have a2 := hgo _ _ _ _ _ _ h
            exact ab_le_tr a1 a2
          · split at h
            · cases h
              exact a1
            · cases h
        · cases h
    · cases h
  · cases h
theorem ab_term_le {mt : Nat → Option ab_M} {go : Nat → Nat → Nat → ab_S → ab_R} {d m : Nat} {hs : List (Nat × Nat)} {t : ab_T} {S : ab_S} {r : Option Value ⊕ Nat} {h' : ab_H} (hgo : ∀ (d m k : Nat) (S : ab_S) (r : Option Value ⊕ Nat) (h' : ab_H), go d m k S = some (r, h') → ab_le S.2.2 h') (h : ab_term mt go d m hs t S = some (r, h')) : ab_le S.2.2 h' := by
  obtain ⟨L, T, hh⟩ := S
  unfold ab_term at h
  split at h <;> first | exact ab_call_le hgo h | skip
  all_goals (repeat' split at h)
  all_goals first | (have a1 := hgo _ _ _ _ _ _ h; exact a1) | (have a1 := hgo _ _ _ _ _ _ h; exact ab_le_tr (ab_rot_le _ (by assumption)) a1) | (cases h; exact ab_le_rf _) | (cases h; exact ab_le_app _ _) | cases h
theorem ab_go_le {mt : Nat → Option ab_M} {fx : Nat → List Int32} : ∀ (n d m k : Nat) (S : ab_S) (r : Option Value ⊕ Nat) (h' : ab_H), ab_go mt fx n d m k S = some (r, h') → ab_le S.2.2 h'
  | 0, _, _, _, _, _, _, h => by cases h
  | n + 1, d, m, k, S, r, h', h => by
    unfold ab_go at h
    split at h
    · cases h
    · split at h
      · cases h
      · obtain ⟨S1, h1, h2⟩ := Option.bind_eq_some_iff.mp h
        exact ab_le_tr (ab_run_le h1) (ab_term_le (ab_go_le n) h2)
/-- block k of the method begins at pc -/
def ab_tg (M : ab_M) (k pc : Nat) : Bool := match M.2.2[k]? with
  | some B => B.1 == pc
  | none => false
def ab_jm (M : ab_M) (k pc : Nat) (off : Int) : Prop := (pc : Int) + off = ((((pc : Int) + off).toNat : Nat) : Int) ∧ ab_tg M k ((pc : Int) + off).toNat = true
/-- what a branch's decode row and targets are -/
def ab_okB (cc : ByteArray) (M : ab_M) (pc : Nat) (t : ab_T) : Prop := match t.1 with
  | .nop => ab_tg M (ab_at t 0) pc = true
  | .goto off => decode cc pc = .ok (t.1, 3) ∧ ab_jm M (ab_at t 0) pc off
  | .if_icmp _ off => decode cc pc = .ok (t.1, 3) ∧ ab_jm M (ab_at t 0) pc off ∧ ab_tg M (ab_at t 1) (pc + 3) = true
  | .ifCond _ off => decode cc pc = .ok (t.1, 3) ∧ ab_jm M (ab_at t 0) pc off ∧ ab_tg M (ab_at t 1) (pc + 3) = true
  | .ifnull off => decode cc pc = .ok (t.1, 3) ∧ ab_jm M (ab_at t 0) pc off ∧ ab_tg M (ab_at t 1) (pc + 3) = true
  | .ifnonnull off => decode cc pc = .ok (t.1, 3) ∧ ab_jm M (ab_at t 0) pc off ∧ ab_tg M (ab_at t 1) (pc + 3) = true
  | .tableswitch dflt lo hi offs => decode cc pc = .ok (t.1, t.2.1) ∧ 0 < t.2.2.2.length ∧ hi = lo + ((t.2.2.2.length - 1 : Nat) : Int) - 1 ∧ offs.size = t.2.2.2.length - 1 ∧ ab_jm M (ab_at t (t.2.2.2.length - 1)) pc dflt ∧ ∀ i, i < offs.size → ab_jm M (ab_at t i) pc (offs.getD i 0)
  | .lookupswitch dflt ps => decode cc pc = .ok (t.1, t.2.1) ∧ (ps.toList.zip (ps.toList.drop 1)).all (fun (a, next) => a.1 < next.1) = true ∧ ab_jm M (ab_at t (t.2.2.2.length - 1)) pc dflt ∧ ∀ i, i < ps.toList.length → ab_jm M (ab_at t i) pc (ps.toList.getD i (0, 0)).2
  | _ => False
theorem ab_tg_of {M : ab_M} {k pc : Nat} (h : ab_tg M k pc = true) : ∃ B, M.2.2[k]? = some B ∧ B.1 = pc := by
  unfold ab_tg at h
  split at h
  · rename_i B hB
    exact ⟨B, hB, by simpa using h⟩
  · cases h
theorem ab_look {dflt x : Int} : ∀ {ps : List (Int × Int)}, Op.lookupswitch.offset ps dflt x = match ps.findIdx? (fun q => q.1 == x) with
    | some i => (ps.getD i (0, 0)).2
    | none => dflt
  | [] => rfl
  | (a, o) :: r => by
    rw [Op.lookupswitch.offset_cons, List.findIdx?_cons]
    by_cases q : a = x
    · rw [if_pos q, if_pos (by simp [q])]
      rfl
    · rw [if_neg q, if_neg (by simp [q]), ab_look (ps := r)]
      cases List.findIdx? (fun q => q.1 == x) r <;> rfl
section Br
variable {p : Program} {l : Launch} {e : Env} {R : Room} {s : State} {m : MethodId} {args : Array Value} {below : List Frame} {meth : Method} {c : Code} {Q : State → Prop}
variable {cc : ByteArray} {own : String} {nL : Nat} {ini : Bool} {A : Nat → Prop} {fa : Nat → Nat} {fx : Nat → List Int32} {D : va_G} {ρ0 : List Nat} {hb sb : Nat} {pc : Nat}
variable {mt : Nat → Option ab_M} {M : ab_M} {n d mi : Nat} {r : Option Value ⊕ Nat} {h' : ab_H}
set_option maxHeartbeats 4000000 in
/-- a branch -/
theorem ab_brW {hs : List (Nat × Nat)} {t : ab_T} {S : ab_S} (hrot : ρ0 = [] ∨ (t.1 = .nop → t.2.2.1.1 ≠ 7)) (E : ab_E p R s m args meth c cc own nL ini A fa fx) (hok : ab_okB cc M pc t) (h : ab_term mt (ab_go mt fx n) d mi hs t S = some (r, h'))
    (kk : ∀ (k : Nat) (B : Nat × List ab_I × ab_T) (S1 : ab_S), M.2.2[k]? = some B → ab_go mt fx n d mi k S1 = some (r, h') → ab_W p l e R s m args below meth c Q D A fa ρ0 nL hb sb B.1 S1) : ab_W p l e R s m args below meth c Q D A fa ρ0 nL hb sb pc S := by
  obtain ⟨hx, hbb, hml, hown, hts, hini, hA, hCx, hfr, hlo⟩ := E
  have go : ∀ (k pc2 : Nat) (S1 : ab_S), ab_tg M k pc2 = true → ab_go mt fx n d mi k S1 = some (r, h') → ab_W p l e R s m args below meth c Q D A fa ρ0 nL hb sb pc2 S1 := by
    intro k pc2 S1 h1 h2
    obtain ⟨B, h3, rfl⟩ := ab_tg_of h1
    exact kk k B S1 h3 h2
  obtain ⟨L, T, hh⟩ := S
  obtain ⟨i, len, aux, tgs⟩ := t
  cases i with
  | nop =>
    simp only [ab_term] at h
    split at h
    · rename_i hc
      split at h
      · rename_i h63
        rcases hrot with hr | hr
        · subst hr
          exact ab_rotW h63 (go _ _ _ hok h)
        · exact absurd hc (hr rfl)
      · cases h
    · exact go _ _ _ hok h
  | goto off =>
    intro ρ H locs ls st cells slots hp
    exact lv_goto hx hbb hok.1 hok.2.1 (go _ _ _ hok.2.2 h _ _ _ _ _ _ _ hp)
  | if_icmp cnd off =>
    intro ρ H locs ls st cells slots hp
    simp only [ab_term] at h
    split at h
    · rename_i y x T2
      obtain ⟨w, st1, rfl, b1, -, hp1⟩ := ab_pt_pop hp
      obtain ⟨w2, st2, rfl, b2, -, hp2⟩ := ab_pt_pop hp1
      cases b1
      cases b2
      obtain ⟨hd, ⟨hj, ht⟩, hf⟩ := hok
      cases cnd <;> (dsimp only at h; split at h)
      all_goals rename_i hc
      · exact lv_icmp_eq hx hbb hd hj (fun _ => go _ _ _ ht h _ _ _ _ _ _ _ hp2) (fun q => absurd hc q)
      · exact lv_icmp_eq hx hbb hd hj (fun q => absurd q hc) (fun _ => go _ _ _ hf h _ _ _ _ _ _ _ hp2)
      · exact lv_icmp_ne hx hbb hd hj (fun q => absurd hc q) (fun _ => go _ _ _ hf h _ _ _ _ _ _ _ hp2)
      · exact lv_icmp_ne hx hbb hd hj (fun _ => go _ _ _ ht h _ _ _ _ _ _ _ hp2) (fun q => absurd q hc)
      · exact lv_icmp_lt hx hbb hd hj (fun _ => go _ _ _ ht h _ _ _ _ _ _ _ hp2) (fun q => absurd hc q)
      · exact lv_icmp_lt hx hbb hd hj (fun q => absurd q hc) (fun _ => go _ _ _ hf h _ _ _ _ _ _ _ hp2)
      · exact lv_icmp_ge hx hbb hd hj (fun q => absurd hc (Int32.not_lt.mpr q)) (fun _ => go _ _ _ hf h _ _ _ _ _ _ _ hp2)
      · exact lv_icmp_ge hx hbb hd hj (fun _ => go _ _ _ ht h _ _ _ _ _ _ _ hp2) (fun q => absurd (Int32.not_lt.mp hc) q)
      · exact lv_icmp_gt hx hbb hd hj (fun _ => go _ _ _ ht h _ _ _ _ _ _ _ hp2) (fun q => absurd hc q)
      · exact lv_icmp_gt hx hbb hd hj (fun q => absurd q hc) (fun _ => go _ _ _ hf h _ _ _ _ _ _ _ hp2)
      · exact lv_icmp_le hx hbb hd hj (fun q => absurd hc (Int32.not_lt.mpr q)) (fun _ => go _ _ _ hf h _ _ _ _ _ _ _ hp2)
      · exact lv_icmp_le hx hbb hd hj (fun _ => go _ _ _ ht h _ _ _ _ _ _ _ hp2) (fun q => absurd (Int32.not_lt.mp hc) q)
    · cases h
  | ifCond cnd off =>
    intro ρ H locs ls st cells slots hp
    simp only [ab_term] at h
    split at h
    · rename_i x T2
      obtain ⟨w, st1, rfl, b1, -, hp1⟩ := ab_pt_pop hp
      cases b1
      obtain ⟨hd, ⟨hj, ht⟩, hf⟩ := hok
      cases cnd <;> (dsimp only at h; split at h)
      all_goals rename_i hc
      · exact lv_if_eq hx hbb hd hj (fun _ => go _ _ _ ht h _ _ _ _ _ _ _ hp1) (fun q => absurd hc q)
      · exact lv_if_eq hx hbb hd hj (fun q => absurd q hc) (fun _ => go _ _ _ hf h _ _ _ _ _ _ _ hp1)
      · exact lv_if_ne hx hbb hd hj (fun q => absurd hc q) (fun _ => go _ _ _ hf h _ _ _ _ _ _ _ hp1)
      · exact lv_if_ne hx hbb hd hj (fun _ => go _ _ _ ht h _ _ _ _ _ _ _ hp1) (fun q => absurd q hc)
      · exact lv_if_lt hx hbb hd hj (fun _ => go _ _ _ ht h _ _ _ _ _ _ _ hp1) (fun q => absurd hc q)
      · exact lv_if_lt hx hbb hd hj (fun q => absurd q hc) (fun _ => go _ _ _ hf h _ _ _ _ _ _ _ hp1)
      · exact lv_if_ge hx hbb hd hj (fun q => absurd hc (Int32.not_lt.mpr q)) (fun _ => go _ _ _ hf h _ _ _ _ _ _ _ hp1)
      · exact lv_if_ge hx hbb hd hj (fun _ => go _ _ _ ht h _ _ _ _ _ _ _ hp1) (fun q => absurd (Int32.not_lt.mp hc) q)
      · exact lv_if_gt hx hbb hd hj (fun _ => go _ _ _ ht h _ _ _ _ _ _ _ hp1) (fun q => absurd hc q)
      · exact lv_if_gt hx hbb hd hj (fun q => absurd q hc) (fun _ => go _ _ _ hf h _ _ _ _ _ _ _ hp1)
      · exact lv_if_le hx hbb hd hj (fun q => absurd hc (Int32.not_lt.mpr q)) (fun _ => go _ _ _ hf h _ _ _ _ _ _ _ hp1)
      · exact lv_if_le hx hbb hd hj (fun _ => go _ _ _ ht h _ _ _ _ _ _ _ hp1) (fun q => absurd (Int32.not_lt.mp hc) q)
    · cases h
  | ifnull off =>
    intro ρ H locs ls st cells slots hp
    simp only [ab_term] at h
    obtain ⟨hd, ⟨hj, ht⟩, hf⟩ := hok
    split at h
    · obtain ⟨w, st1, rfl, b1, -, hp1⟩ := ab_pt_pop hp
      cases b1
      exact lv_ifnullN hx hbb hd hj (go _ _ _ ht h _ _ _ _ _ _ _ hp1)
    · obtain ⟨w, st1, rfl, b1, -, hp1⟩ := ab_pt_pop hp
      obtain ⟨ad, -, rfl⟩ := b1
      exact lv_ifnull hx hbb hd (go _ _ _ hf h _ _ _ _ _ _ _ hp1)
    · cases h
  | ifnonnull off =>
    intro ρ H locs ls st cells slots hp
    simp only [ab_term] at h
    obtain ⟨hd, ⟨hj, ht⟩, hf⟩ := hok
    split at h
    · obtain ⟨w, st1, rfl, b1, -, hp1⟩ := ab_pt_pop hp
      cases b1
      exact lv_ifnonnullN hx hbb hd (go _ _ _ hf h _ _ _ _ _ _ _ hp1)
    · obtain ⟨w, st1, rfl, b1, -, hp1⟩ := ab_pt_pop hp
      obtain ⟨ad, -, rfl⟩ := b1
      exact lv_ifnonnull hx hbb hd hj (go _ _ _ ht h _ _ _ _ _ _ _ hp1)
    · cases h
  | tableswitch dflt lo hi offs =>
    intro ρ H locs ls st cells slots hp
    simp only [ab_term] at h
    obtain ⟨hd, h0, hhi, hsz, ⟨hj, ht⟩, hall⟩ := hok
    dsimp only at hd h0 hhi hsz hj ht hall
    split at h
    · rename_i x T2
      obtain ⟨w, st1, rfl, b1, -, hp1⟩ := ab_pt_pop hp
      cases b1
      split at h
      · rename_i hc
        exact lv_tableOut hx hbb hd (by omega) hj (go _ _ _ ht h _ _ _ _ _ _ _ hp1)
      · rename_i hc
        have hi2 : (x.toInt - lo).toNat < offs.size := by omega
        obtain ⟨hj2, ht2⟩ := hall _ hi2
        exact lv_tableIn hx hbb hd (by omega) (by omega) (off := offs.getD (x.toInt - lo).toNat 0) (by simp [hi2]) hj2 (go _ _ _ ht2 h _ _ _ _ _ _ _ hp1)
    · cases h
  | lookupswitch dflt ps =>
    intro ρ H locs ls st cells slots hp
    simp only [ab_term] at h
    obtain ⟨hd, hso, ⟨hj, ht⟩, hall⟩ := hok
    dsimp only at hd hj ht hall
    split at h
    · rename_i x T2
      obtain ⟨w, st1, rfl, b1, -, hp1⟩ := ab_pt_pop hp
      cases b1
      split at h
      · rename_i i hi
        have hi2 : i < ps.toList.length := by
          obtain ⟨z, -⟩ := List.findIdx?_eq_some_iff_getElem.mp hi
          exact z
        obtain ⟨hj2, ht2⟩ := hall _ hi2
        exact lv_lookup hx hbb hd hso (by rw [ab_look, hi]) hj2 (go _ _ _ ht2 h _ _ _ _ _ _ _ hp1)
      · rename_i hi
        exact lv_lookup hx hbb hd hso (by rw [ab_look, hi]) hj (go _ _ _ ht h _ _ _ _ _ _ _ hp1)
    · cases h
  | _ => exact hok.elim
end Br
