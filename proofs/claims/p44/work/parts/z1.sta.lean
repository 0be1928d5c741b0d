/-! THE LAW FROM ITS START, out of one abstract run -/
theorem sx_known {s : State} {b : Nat} (hts : ∀ w ∈ lw_tbl, w.before #[Value.ref b] s = true) : ∃ (dC : Nat → ClassId) (dI : Nat → Nat → Nat), ∀ (k : Nat) (q : vw_C), ab_cl[k]? = some q → u_Kn s q.1 q.2.1 q.2.2 (dC k) (dI k) := by
  have key : ∀ k : Nat, ∃ z : ClassId × (Nat → Nat), ∀ q : vw_C, ab_cl[k]? = some q → u_Kn s q.1 q.2.1 q.2.2 z.1 z.2 := by
    intro k
    by_cases hk : k < 13
    · have hq : ab_cl[k]? = some (ab_cl.getD k ("", TX0, 0)) := by
        rw [List.getD_eq_getElem?_getD]
        have : k < ab_cl.length := hk
        rw [List.getElem?_eq_getElem this]
        rfl
      obtain ⟨cC, iS, h⟩ := u_known (C := (ab_cl.getD k ("", TX0, 0)).1) (T := (ab_cl.getD k ("", TX0, 0)).2.1) (N := (ab_cl.getD k ("", TX0, 0)).2.2) hts (fun w hw => wsL_law_in w (ab_clin _ _ hq w hw)) (hts _ (sx_cls k hk))
      exact ⟨(cC, iS), fun q h2 => by
        cases Option.some.inj (hq.symm.trans h2)
        exact h⟩
    · refine ⟨(0, fun _ => 0), fun q h => ?_⟩
      have : k < 13 := (List.getElem?_eq_some_iff.mp h).1
      exact absurd this hk
  exact ⟨fun k => (Classical.choose (key k)).1, fun k => (Classical.choose (key k)).2, fun k q h => Classical.choose_spec (key k) q h⟩
theorem sx_cx {s : State} {b L : Nat} {xs : List Int32} (hts : ∀ w ∈ lw_tbl, w.before #[Value.ref b] s = true) (hgv : (Jvm.Cond.and given_1 narrow_1).before #[Value.ref b] s = true) (hbl : b < s.heap.size) (hX : va_X b xs.length (fun j => xs.getD j 0) s s.heap) : ∃ t : Nat, ab_Cx (fun q => s.heap.size ≤ q) (fun k => if k = 0 then t else b) (ab_fx xs) s := by
  have hn := flat_of_before _ hgv
  have hA : ∀ a : Nat, a < s.heap.size → ¬ s.heap.size ≤ a := fun a h => by omega
  obtain ⟨t, ht, cell, p1, p2, p3, p4, p5, p6, p7⟩ := va_Tof (tm := .static "Roomandhour$Search" "POWERS" "[I") (ty := .int) (N := 7) (f := fun j => .int (ab_pow.getD j 0)) (A := fun q => s.heap.size ≤ q) (by decide) (hn _ sx_l2.2.2.1) (va_eqt (hn _ sx_l2.2.2.2)) (fun j hj => va_eqt (hn _ (sx_pw j hj))) hA
  refine ⟨t, ?_, va_Zof (hts _ sx_l1.1) (hts _ sx_l1.2.1) ht hA, ?_, va_AOA.of (hts _ sx_ao), vx_Zqof (hts _ sx_l1.2.2.1) (hts _ sx_l1.2.2.2.2) (hn _ sx_l2.1) hA, vx_Zqof (hts _ sx_l1.2.2.2.1) (hts _ sx_l1.2.2.2.2) (hn _ sx_l2.2.1) hA, ?_, ?_, trivial, hX⟩
  · intro k hk
    have : k = 0 ∨ k = 1 := by omega
    rcases this with rfl | rfl
    · exact ⟨p7, cell, p1, p2, p3, p4, fun j hj => p6 j hj⟩
    · refine ⟨hA b hbl, ?_⟩
      obtain ⟨scr, g1, g2, g3, g4, g5⟩ := hX
      exact ⟨scr, g1, g2, g3, Nat.le_of_eq g4.symm, g5⟩
  · intro w hw
    have h1 := hts w (sx_nest w hw)
    rcases ab_nest_w w hw with ⟨a, i, b, n, d, hh, rfl⟩ | ⟨a, i, x, hh, rfl⟩
    · exact va_Nw.of rfl h1
    · exact va_Nw.of rfl h1
  · intro q hq
    have h1 := hn _ (sx_exa q hq)
    obtain ⟨a, c, cA, kA, q1, -⟩ := Cond.exactly_spec (args := #[Value.ref b]) (first := s) (o := none) (s := s) (idx := []) h1
    exact ⟨a, vk_R.of (hts _ (sx_str q hq)) q1⟩
  · intro w hw
    have h1 := hts w (sx_bad w hw)
    have h2 := List.all_eq_true.mp ab_bad_k w hw
    split at h2
    · exact va_Nw.of rfl h1
    · exact va_Nw.of rfl h1
    · cases h2
theorem sx_flags {l : Launch} (h : l.flags = flags0) : l.stackTraces = false := by
  unfold Launch.stackTraces
  rw [h]
  decide
set_option maxHeartbeats 4000000 in
theorem sx_start (hmain : ab_MainR) {p : Program} {e : Env} {s : State} {m : MethodId} {below : List Frame} {meth : Method} {c : Code} (l : Launch) (hflags : l.flags = flags0) {b L : Nat} {xs : Nat → Int32} (hL : L ≤ 260) (C0 : lw_At p s m meth c b L xs) : W p l e room_1 s m #[Value.ref b] below meth c s.heap [] 0 0 (lw_Z below #[Value.ref b] s) (entryFrame m ([Value.ref b] : List Value).toArray 4) := by
  obtain ⟨hx, hb, hr, hml, hown, hts, hX, hbl, hlocks, hgv⟩ := C0
  obtain ⟨ys, hys⟩ : ∃ ys : List Int32, ys = (List.range L).map xs := ⟨_, rfl⟩
  have hlen : ys.length = L := by rw [hys]; simp
  have hX2 : va_X b ys.length (fun j => ys.getD j 0) s s.heap := by
    obtain ⟨scr, g1, g2, g3, g4, g5⟩ := hX
    refine ⟨scr, g1, g2, g3, by rw [hlen]; exact g4, fun j hj => ?_⟩
    rw [hlen] at hj
    have : ys.getD j 0 = xs j := by rw [hys]; simp [hj]
    dsimp only
    rw [this]
    exact g5 j hj
  obtain ⟨t, hCx⟩ := sx_cx (L := L) (xs := ys) hts hgv hbl hX2
  obtain ⟨dC, dI, hKn⟩ := sx_known hts
  obtain ⟨n, d, h', hd, hgo, hc1, hc2⟩ := hmain ys (by omega)
  have hK : va_K (dC, dI) ab_cl [] s := ⟨hKn, fun k q h => by simp at h⟩
  have hts2 : ∀ w ∈ wsL_law, w.before #[Value.ref b] s = true := fun w hw => hts w (wsL_law_in w hw)
  have E : ab_E p room_1 s m #[Value.ref b] meth c aq_L_law.2.1 aq_L_law.1.cls am_L_law.1 aq_L_law.2.2.2.1 (fun q => s.heap.size ≤ q) (fun k => if k = 0 then t else b) (ab_fx ys) :=
    ⟨hx, hb, hml, hown, hts2, fun h => (by cases h), fun q h => h, hCx, by decide, by decide⟩
  have h00 : ab_tg am_L_law 0 0 = true := rfl
  obtain ⟨B0, hB0, hB00⟩ := ab_tg_of h00
  have key := ab_blkW (p := p) (l := l) (e := e) (below := below) (D := (dC, dI)) (ρ0 := []) (hb := 0) (sb := 0) (d := d) (mi := 300) (M := am_L_law) (q := aq_L_law) (mt := ab_mt) (qt := ab_qt) (r := .inl (some (.int 1))) (h' := h') (Q := lw_Z below #[Value.ref b] s) (.inl rfl) E (fun h => absurd rfl h) rfl aL_ok ⟨Nat.le_trans (Nat.add_le_add_right hd 8) (by decide), Nat.le_trans (Nat.add_le_add_right (Nat.mul_le_mul_left 100 hd) 200) (by decide)⟩ ⟨by rw [Nat.zero_add]; exact hc1, by rw [Nat.zero_add]; exact hc2⟩
    (fun n pc t S hv ht => by
      intro ρ H locs ls st cells slots hp
      obtain ⟨L2, T2, h2⟩ := S
      obtain ⟨i, len, aux, tgs⟩ := t
      cases i with
      | ireturn =>
        simp only [ab_term] at ht
        split at ht
        · rename_i v
          obtain ⟨w, st1, rfl, b1, -, hp1⟩ := ab_pt_pop hp
          cases b1
          have := ab_Ts_nil hp1.2.2.2.2.1
          subst this
          have hv1 : v = 1 ∧ h2 = h' := by
            split at ht
            · split at ht
              · cases ht; exact ⟨rfl, rfl⟩
              · cases ht
            · cases ht; exact ⟨rfl, rfl⟩
          obtain ⟨rfl, rfl⟩ := hv1
          have k1 : 0 + cells = h2.length := hp.2.2.2.2.2.1
          have k2 : 0 + slots = ab_hsz h2 := hp.2.2.2.2.2.2
          refine va_forget (fun q hq => hp.2.1.2.2 q hq) ?_
          refine W.widen (k := 765074) (n := 6806245) (by omega) (by omega) ?_
          exact lw_ret hx hb hr hlocks hv.1
        · cases ht
      | lreturn => simp only [ab_term] at ht; split at ht <;> cases ht
      | freturn => simp only [ab_term] at ht; split at ht <;> cases ht
      | dreturn => simp only [ab_term] at ht; split at ht <;> cases ht
      | areturn => simp only [ab_term] at ht; split at ht <;> cases ht
      | return_ => simp only [ab_term] at ht; split at ht <;> cases ht
      | _ => exact hv.elim)
    (fun pc x S _ _ _ h => by cases h)
    (fun x L2 T1 pc2 q ce ρ2 H1 locs1 ls rest c1 s1 h => by cases h)
    n (fun j _ => ab_all (sx_flags hflags) ab_ok j) 0 B0 _ hB0 hgo
  rw [hB00] at key
  rw [lg_entry_eq]
  refine key _ _ _ _ _ _ _ (ab_entry (sv := s) (ρ := []) (h := []) (nL := 4) (as' := [.retAddr 1]) (as := [.ref b]) ⟨⟨⟨b, rfl, fun _ => rfl⟩, rfl⟩, trivial⟩ (fun v hv => by simp at hv; subst hv; rfl) (by decide) ?_)
  exact ⟨[], [], id, hK, fun k q h => by simp at h, ⟨fun i j p q h => by simp at h, fun k q h => by simp at h⟩, rfl, fun i j o o1 h => by simp at h, fun k o h => by simp at h⟩
