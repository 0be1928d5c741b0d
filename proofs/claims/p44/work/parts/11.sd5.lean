/-! THE MACHINE FOLLOWS THE ABSTRACT ONE: one theorem for all straight instructions, and for runs of them -/
def ab_ln (i : Instr) : Nat := match i with
  | .iload _ => 2
  | .lload _ => 2
  | .fload _ => 2
  | .dload _ => 2
  | .aload _ => 2
  | .istore _ => 2
  | .lstore _ => 2
  | .fstore _ => 2
  | .dstore _ => 2
  | .astore _ => 2
  | .bipush _ => 2
  | .sipush _ => 3
  | .ldc _ => 2
  | .ldc_w _ => 3
  | .ldc2_w _ => 3
  | .iinc _ _ => 3
  | .getfield _ => 3
  | .putfield _ => 3
  | .getstatic _ => 3
  | .new _ => 3
  | .newarray _ => 2
  | .anewarray _ => 3
  | .invokespecial _ => 3
  | .invokestatic _ => 3
  | .invokevirtual _ => 3
  | .goto _ => 3
  | .if_icmp _ _ => 3
  | .ifCond _ _ => 3
  | .ifnull _ => 3
  | .ifnonnull _ => 3
  | _ => 1
def ab_okS (own : String) (ini : Bool) (x : ab_I) : Prop := match x.1 with
  | .getfield i => ab_FL own i x.2.2.1 x.2.2.2
  | .putfield i => ab_PL own ini i x.2.2.1 x.2.2.2
  | .getstatic i => Cond.fieldLink own i "Roomandhour$Search" "POWERS" "[I" ∈ wsL_law
  | .new i => ab_CL own i x.2.2.1
  | .anewarray i => Cond.classLink own i "[I" ∈ wsL_law
  | .invokespecial i => Cond.methodLink own i objectInit ∈ wsL_law
  | .invokestatic i => match x.2.2.1 with
    | 0 => Cond.methodLink own i arraycopyName ∈ wsL_law
    | 1 => Cond.methodLink own i Lib.Math.max.name ∈ wsL_law
    | _ => Cond.methodLink own i Lib.Math.min.name ∈ wsL_law
  | .ldc i => Cond.constant own i (nI x.2.2.1) ∈ wsL_law
  | .ldc_w i => Cond.constant own i (nI x.2.2.1) ∈ wsL_law
  | .ldc2_w i => Cond.constantLong own i (lN x.2.2.1) ∈ wsL_law
  | _ => True
section Sd
variable {p : Program} {l : Launch} {e : Env} {R : Room} {s : State} {m : MethodId} {args : Array Value} {below : List Frame} {meth : Method} {c : Code} {Q : State → Prop}
variable {cc : ByteArray} {own : String} {nL : Nat} {ini : Bool} {A : Nat → Prop} {fa : Nat → Nat} {fx : Nat → List Int32} {D : va_G} {ρ0 : List Nat} {hb sb : Nat} {pc : Nat} {S S' : ab_S} {x : ab_I}
set_option maxHeartbeats 4000000 in
theorem ab_stepW (E : ab_E p R s m args meth c cc own nL ini A fa fx) (h : ab_step fx x S = some S') (hdg : decode cc pc = .ok (x.1, x.2.1)) (hlen : x.2.1 = ab_ln x.1) (hok : ab_okS own ini x) (hcap : S'.2.2.length ≤ hb + R.cells ∧ ab_hsz S'.2.2 ≤ sb + R.slots) (kk : ab_W p l e R s m args below meth c Q D A fa ρ0 nL hb sb (pc + x.2.1) S') : ab_W p l e R s m args below meth c Q D A fa ρ0 nL hb sb pc S := by
  have E0 := E
  obtain ⟨hx, hbb, hml, hown, hts, hini, hA, hCx, hfr, hlo⟩ := E
  obtain ⟨i, n, a, b⟩ := x
  dsimp only at hdg hlen kk
  cases i with
  | iload i =>
    have hlen : n = 2 := hlen
    subst hlen
    exact ab_ldW h (fun v hv => by cases v <;> first | rfl | cases hv) kk (fun v w ρ H locs ls st cells slots hq hv hl k => by
      cases v <;> first | (cases hv; exact lv_iload hx hbb hdg hl k) | cases hq)
  | iload_n i =>
    have hlen : n = 1 := hlen
    subst hlen
    exact ab_ldW h (fun v hv => by cases v <;> first | rfl | cases hv) kk (fun v w ρ H locs ls st cells slots hq hv hl k => by
      cases v <;> first | (cases hv; exact lv_iload_n hx hbb hdg rfl hl k) | cases hq)
  | lload i =>
    have hlen : n = 2 := hlen
    subst hlen
    exact ab_ldW h (fun v hv => by cases v <;> first | rfl | cases hv) kk (fun v w ρ H locs ls st cells slots hq hv hl k => by
      cases v <;> first | (cases hv; exact lv_lload hx hbb hdg hl k) | cases hq)
  | lload_n i =>
    have hlen : n = 1 := hlen
    subst hlen
    exact ab_ldW h (fun v hv => by cases v <;> first | rfl | cases hv) kk (fun v w ρ H locs ls st cells slots hq hv hl k => by
      cases v <;> first | (cases hv; exact lv_lload_n hx hbb hdg rfl hl k) | cases hq)
  | fload i =>
    have hlen : n = 2 := hlen
    subst hlen
    exact ab_ldW h (fun v hv => by cases v <;> first | rfl | cases hv) kk (fun v w ρ H locs ls st cells slots hq hv hl k => by
      cases v <;> first | (cases hv; exact lv_fload hx hbb hdg hl k) | cases hq)
  | fload_n i =>
    have hlen : n = 1 := hlen
    subst hlen
    exact ab_ldW h (fun v hv => by cases v <;> first | rfl | cases hv) kk (fun v w ρ H locs ls st cells slots hq hv hl k => by
      cases v <;> first | (cases hv; exact lv_fload_n hx hbb hdg rfl hl k) | cases hq)
  | dload i =>
    have hlen : n = 2 := hlen
    subst hlen
    exact ab_ldW h (fun v hv => by cases v <;> first | rfl | cases hv) kk (fun v w ρ H locs ls st cells slots hq hv hl k => by
      cases v <;> first | (cases hv; exact lv_dload hx hbb hdg hl k) | cases hq)
  | dload_n i =>
    have hlen : n = 1 := hlen
    subst hlen
    exact ab_ldW h (fun v hv => by cases v <;> first | rfl | cases hv) kk (fun v w ρ H locs ls st cells slots hq hv hl k => by
      cases v <;> first | (cases hv; exact lv_dload_n hx hbb hdg rfl hl k) | cases hq)
  | aload i =>
    have hlen : n = 2 := hlen
    subst hlen
    refine ab_ldW h (fun v hv => ?_) kk (fun v w ρ H locs ls st cells slots hq hv hl k => ?_)
    · cases v <;> first | rfl | exact hv | cases hv
    · cases v with
      | ref j => obtain ⟨ad, -, rfl⟩ := hv; exact lv_aload hx hbb hdg hl k
      | null => cases hv; exact lv_aloadN hx hbb hdg hl k
      | retAddr j => obtain ⟨ad, rfl, -⟩ := hv; exact lv_aload hx hbb hdg hl k
      | _ => cases hq
  | aload_n i =>
    have hlen : n = 1 := hlen
    subst hlen
    refine ab_ldW h (fun v hv => ?_) kk (fun v w ρ H locs ls st cells slots hq hv hl k => ?_)
    · cases v <;> first | rfl | exact hv | cases hv
    · cases v with
      | ref j => obtain ⟨ad, -, rfl⟩ := hv; exact lv_aload_n hx hbb hdg rfl hl k
      | null => cases hv; exact lv_aload_nN hx hbb hdg rfl hl k
      | retAddr j => obtain ⟨ad, rfl, -⟩ := hv; exact lv_aload_n hx hbb hdg rfl hl k
      | _ => cases hq
  | istore i =>
    have hlen : n = 2 := hlen
    subst hlen
    exact ab_stW h kk (fun v w ρ H locs ls st cells slots lv hq hv h1 h2 k => by
      cases v <;> first | (cases hv; exact lv_istore hx hbb hdg h1 (by simp [Value.category] at h2; omega) rfl (fun ls' hl => k ls' (fun z => hl) (fun z => absurd z (by simp [Value.category])))) | cases hq)
  | istore_n i =>
    have hlen : n = 1 := hlen
    subst hlen
    exact ab_stW h kk (fun v w ρ H locs ls st cells slots lv hq hv h1 h2 k => by
      cases v <;> first | (cases hv; exact lv_istore_n hx hbb hdg rfl h1 (by simp [Value.category] at h2; omega) rfl (fun ls' hl => k ls' (fun z => hl) (fun z => absurd z (by simp [Value.category])))) | cases hq)
  | fstore i =>
    have hlen : n = 2 := hlen
    subst hlen
    exact ab_stW h kk (fun v w ρ H locs ls st cells slots lv hq hv h1 h2 k => by
      cases v <;> first | (cases hv; exact lv_fstore hx hbb hdg h1 (by simp [Value.category] at h2; omega) rfl (fun ls' hl => k ls' (fun z => hl) (fun z => absurd z (by simp [Value.category])))) | cases hq)
  | fstore_n i =>
    have hlen : n = 1 := hlen
    subst hlen
    exact ab_stW h kk (fun v w ρ H locs ls st cells slots lv hq hv h1 h2 k => by
      cases v <;> first | (cases hv; exact lv_fstore_n hx hbb hdg rfl h1 (by simp [Value.category] at h2; omega) rfl (fun ls' hl => k ls' (fun z => hl) (fun z => absurd z (by simp [Value.category])))) | cases hq)
  | lstore i =>
    have hlen : n = 2 := hlen
    subst hlen
    exact ab_stW h kk (fun v w ρ H locs ls st cells slots lv hq hv h1 h2 k => by
      cases v <;> first | (cases hv; exact lv_lstore hx hbb hdg h1 (by simp [Value.category] at h2; omega) rfl (fun ls' hl => k ls' (fun z => absurd z (by simp [Value.category])) (fun z => hl))) | cases hq)
  | lstore_n i =>
    have hlen : n = 1 := hlen
    subst hlen
    exact ab_stW h kk (fun v w ρ H locs ls st cells slots lv hq hv h1 h2 k => by
      cases v <;> first | (cases hv; exact lv_lstore_n hx hbb hdg rfl h1 (by simp [Value.category] at h2; omega) rfl (fun ls' hl => k ls' (fun z => absurd z (by simp [Value.category])) (fun z => hl))) | cases hq)
  | dstore i =>
    have hlen : n = 2 := hlen
    subst hlen
    exact ab_stW h kk (fun v w ρ H locs ls st cells slots lv hq hv h1 h2 k => by
      cases v <;> first | (cases hv; exact lv_dstore hx hbb hdg h1 (by simp [Value.category] at h2; omega) rfl (fun ls' hl => k ls' (fun z => absurd z (by simp [Value.category])) (fun z => hl))) | cases hq)
  | dstore_n i =>
    have hlen : n = 1 := hlen
    subst hlen
    exact ab_stW h kk (fun v w ρ H locs ls st cells slots lv hq hv h1 h2 k => by
      cases v <;> first | (cases hv; exact lv_dstore_n hx hbb hdg rfl h1 (by simp [Value.category] at h2; omega) rfl (fun ls' hl => k ls' (fun z => absurd z (by simp [Value.category])) (fun z => hl))) | cases hq)
  | astore i =>
    have hlen : n = 2 := hlen
    subst hlen
    refine ab_stW h kk (fun v w ρ H locs ls st cells slots lv hq hv h1 h2 k => ?_)
    cases v with
    | ref j => obtain ⟨ad, -, rfl⟩ := hv; exact lv_astore hx hbb hdg h1 (by simp [Value.category] at h2; omega) rfl (fun ls' hl => k ls' (fun z => hl) (fun z => absurd z (by simp [Value.category])))
    | null => cases hv; exact lv_astoreN hx hbb hdg h1 (by simp [Value.category] at h2; omega) rfl (fun ls' hl => k ls' (fun z => hl) (fun z => absurd z (by simp [Value.category])))
    | retAddr j => obtain ⟨ad, rfl, -⟩ := hv; exact lv_astore hx hbb hdg h1 (by simp [Value.category] at h2; omega) rfl (fun ls' hl => k ls' (fun z => hl) (fun z => absurd z (by simp [Value.category])))
    | _ => cases hq
  | astore_n i =>
    have hlen : n = 1 := hlen
    subst hlen
    refine ab_stW h kk (fun v w ρ H locs ls st cells slots lv hq hv h1 h2 k => ?_)
    cases v with
    | ref j => obtain ⟨ad, -, rfl⟩ := hv; exact lv_astore_n hx hbb hdg rfl h1 (by simp [Value.category] at h2; omega) rfl (fun ls' hl => k ls' (fun z => hl) (fun z => absurd z (by simp [Value.category])))
    | null => cases hv; exact lv_astore_nN hx hbb hdg rfl h1 (by simp [Value.category] at h2; omega) rfl (fun ls' hl => k ls' (fun z => hl) (fun z => absurd z (by simp [Value.category])))
    | retAddr j => obtain ⟨ad, rfl, -⟩ := hv; exact lv_astore_n hx hbb hdg rfl h1 (by simp [Value.category] at h2; omega) rfl (fun ls' hl => k ls' (fun z => hl) (fun z => absurd z (by simp [Value.category])))
    | _ => cases hq
  | iconst v =>
    have hlen : n = 1 := hlen
    subst hlen
    cases h
    exact ab_k (fun _ z => by cases z) (fun _ z => by cases z) kk (fun H locs ls st cells slots k => lv_iconst hx hbb hdg rfl k)
  | bipush v =>
    have hlen : n = 2 := hlen
    subst hlen
    cases h
    exact ab_k (fun _ z => by cases z) (fun _ z => by cases z) kk (fun H locs ls st cells slots k => lv_bipush hx hbb hdg rfl k)
  | sipush v =>
    have hlen : n = 3 := hlen
    subst hlen
    cases h
    exact ab_k (fun _ z => by cases z) (fun _ z => by cases z) kk (fun H locs ls st cells slots k => lv_sipush hx hbb hdg rfl k)
  | lconst v =>
    have hlen : n = 1 := hlen
    subst hlen
    cases h
    exact ab_k (fun _ z => by cases z) (fun _ z => by cases z) kk (fun H locs ls st cells slots k => lv_lconst hx hbb hdg rfl k)
  | aconst_null =>
    have hlen : n = 1 := hlen
    subst hlen
    cases h
    exact ab_k (fun _ z => by cases z) (fun _ z => by cases z) kk (fun H locs ls st cells slots k => lv_null hx hbb hdg k)
  | ldc i =>
    have hlen : n = 2 := hlen
    subst hlen
    cases h
    exact ab_k (fun _ z => by cases z) (fun _ z => by cases z) kk (fun H locs ls st cells slots k => lv_ldc hx hbb hown (hts _ hok) hdg k)
  | ldc_w i =>
    have hlen : n = 3 := hlen
    subst hlen
    cases h
    exact ab_k (fun _ z => by cases z) (fun _ z => by cases z) kk (fun H locs ls st cells slots k => lv_ldcw hx hbb hown (hts _ hok) hdg k)
  | ldc2_w i =>
    have hlen : n = 3 := hlen
    subst hlen
    cases h
    exact ab_k (fun _ z => by cases z) (fun _ z => by cases z) kk (fun H locs ls st cells slots k => lv_ldc2 hx hbb hown (hts _ hok) hdg k)
  | fconst v =>
    have hlen : n = 1 := hlen
    subst hlen
    simp only [ab_step] at h
    split at h
    · rename_i hv
      have hv : v = 0 := Fin.ext hv
      subst hv
      cases h
      exact ab_k (fun _ z => by cases z) (fun _ z => by cases z) kk (fun H locs ls st cells slots k => lv_fconst0 hx hbb hdg k)
    · cases h
  | dconst v =>
    have hlen : n = 1 := hlen
    subst hlen
    simp only [ab_step] at h
    split at h
    · rename_i hv
      have hv : v = 0 := Fin.ext hv
      subst hv
      cases h
      exact ab_k (fun _ z => by cases z) (fun _ z => by cases z) kk (fun H locs ls st cells slots k => lv_dconst0 hx hbb hdg k)
    · cases h
  | iushr =>
    have hlen : n = 1 := hlen
    subst hlen
    exact ab_iiW h (fun x y v hv => by cases hv; exact ⟨_, rfl⟩) kk (fun x y v H locs ls st cells slots hv k => by cases hv; exact lv_iushr hx hbb hdg rfl k)
  | iadd =>
    have hlen : n = 1 := hlen
    subst hlen
    exact ab_iiW h (fun x y v hv => by cases hv; exact ⟨_, rfl⟩) kk (fun x y v H locs ls st cells slots hv k => by cases hv; exact lv_iadd hx hbb hdg k)
  | isub =>
    have hlen : n = 1 := hlen
    subst hlen
    exact ab_iiW h (fun x y v hv => by cases hv; exact ⟨_, rfl⟩) kk (fun x y v H locs ls st cells slots hv k => by cases hv; exact lv_isub hx hbb hdg k)
  | imul =>
    have hlen : n = 1 := hlen
    subst hlen
    exact ab_iiW h (fun x y v hv => by cases hv; exact ⟨_, rfl⟩) kk (fun x y v H locs ls st cells slots hv k => by cases hv; exact lv_imul hx hbb hdg k)
  | iand =>
    have hlen : n = 1 := hlen
    subst hlen
    exact ab_iiW h (fun x y v hv => by cases hv; exact ⟨_, rfl⟩) kk (fun x y v H locs ls st cells slots hv k => by cases hv; exact lv_iand hx hbb hdg k)
  | ior =>
    have hlen : n = 1 := hlen
    subst hlen
    exact ab_iiW h (fun x y v hv => by cases hv; exact ⟨_, rfl⟩) kk (fun x y v H locs ls st cells slots hv k => by cases hv; exact lv_ior hx hbb hdg k)
  | ixor =>
    have hlen : n = 1 := hlen
    subst hlen
    exact ab_iiW h (fun x y v hv => by cases hv; exact ⟨_, rfl⟩) kk (fun x y v H locs ls st cells slots hv k => by cases hv; exact lv_ixor hx hbb hdg k)
  | ishl =>
    have hlen : n = 1 := hlen
    subst hlen
    exact ab_iiW h (fun x y v hv => by cases hv; exact ⟨_, rfl⟩) kk (fun x y v H locs ls st cells slots hv k => by cases hv; exact lv_ishl hx hbb hdg k)
  | ishr =>
    have hlen : n = 1 := hlen
    subst hlen
    exact ab_iiW h (fun x y v hv => by cases hv; exact ⟨_, rfl⟩) kk (fun x y v H locs ls st cells slots hv k => by cases hv; exact lv_ishr hx hbb hdg k)
  | idiv =>
    have hlen : n = 1 := hlen
    subst hlen
    refine ab_iiW h (fun x y v hv => ?_) kk (fun x y v H locs ls st cells slots hv k => ?_)
    · split at hv
      · cases hv
      · cases hv; exact ⟨_, rfl⟩
    · split at hv
      · cases hv
      · rename_i hz; cases hv; exact lv_idiv hx hbb hdg hz k
  | irem =>
    have hlen : n = 1 := hlen
    subst hlen
    refine ab_iiW h (fun x y v hv => ?_) kk (fun x y v H locs ls st cells slots hv k => ?_)
    · split at hv
      · cases hv
      · cases hv; exact ⟨_, rfl⟩
    · split at hv
      · cases hv
      · rename_i hz; cases hv; exact lv_irem hx hbb hdg hz k
  | ladd =>
    have hlen : n = 1 := hlen
    subst hlen
    exact ab_jjW h (fun x y v hv => by cases hv; exact Or.inr ⟨_, rfl⟩) kk (fun x y v H locs ls st cells slots hv k => by cases hv; exact lv_ladd hx hbb hdg k)
  | lmul =>
    have hlen : n = 1 := hlen
    subst hlen
    exact ab_jjW h (fun x y v hv => by cases hv; exact Or.inr ⟨_, rfl⟩) kk (fun x y v H locs ls st cells slots hv k => by cases hv; exact lv_lmul hx hbb hdg k)
  | ldiv =>
    have hlen : n = 1 := hlen
    subst hlen
    refine ab_jjW h (fun x y v hv => ?_) kk (fun x y v H locs ls st cells slots hv k => ?_)
    · split at hv
      · cases hv
      · cases hv; exact Or.inr ⟨_, rfl⟩
    · split at hv
      · cases hv
      · rename_i hz; cases hv; exact lv_ldiv hx hbb hdg hz k
  | lrem =>
    have hlen : n = 1 := hlen
    subst hlen
    refine ab_jjW h (fun x y v hv => ?_) kk (fun x y v H locs ls st cells slots hv k => ?_)
    · split at hv
      · cases hv
      · cases hv; exact Or.inr ⟨_, rfl⟩
    · split at hv
      · cases hv
      · rename_i hz; cases hv; exact lv_lrem hx hbb hdg hz k
  | lcmp =>
    have hlen : n = 1 := hlen
    subst hlen
    exact ab_jjW h (fun x y v hv => by cases hv; exact Or.inl ⟨_, rfl⟩) kk (fun x y v H locs ls st cells slots hv k => by cases hv; exact W.lcmp hx hbb hdg k)
  | i2l =>
    have hlen : n = 1 := hlen
    subst hlen
    refine ab_uW h (fun x v hv => ?_) kk (fun x v H locs ls st cells slots hv k => ?_)
    · cases x <;> first | (cases hv; exact ⟨fun _ z => (by cases z), fun _ z => (by cases z), fun _ z => (by cases z), fun _ z => (by cases z)⟩) | cases hv
    · cases x <;> first | (cases hv; exact lv_i2l hx hbb hdg rfl k) | cases hv
  | l2i =>
    have hlen : n = 1 := hlen
    subst hlen
    refine ab_uW h (fun x v hv => ?_) kk (fun x v H locs ls st cells slots hv k => ?_)
    · cases x <;> first | (cases hv; exact ⟨fun _ z => (by cases z), fun _ z => (by cases z), fun _ z => (by cases z), fun _ z => (by cases z)⟩) | cases hv
    · cases x <;> first | (cases hv; exact lv_l2i hx hbb hdg rfl k) | cases hv
  | i2b =>
    have hlen : n = 1 := hlen
    subst hlen
    refine ab_uW h (fun x v hv => ?_) kk (fun x v H locs ls st cells slots hv k => ?_)
    · cases x <;> first | (cases hv; exact ⟨fun _ z => (by cases z), fun _ z => (by cases z), fun _ z => (by cases z), fun _ z => (by cases z)⟩) | cases hv
    · cases x <;> first | (cases hv; exact lv_i2b hx hbb hdg rfl k) | cases hv
  | i2d =>
    have hlen : n = 1 := hlen
    subst hlen
    refine ab_uW h (fun x v hv => ?_) kk (fun x v H locs ls st cells slots hv k => ?_)
    · cases x <;> first | (cases hv; exact ⟨fun _ z => (by cases z), fun _ z => (by cases z), fun _ z => (by cases z), fun _ z => (by cases z)⟩) | cases hv
    · cases x <;> first | (cases hv; exact lv_i2d hx hbb hdg k) | cases hv
  | i2f =>
    have hlen : n = 1 := hlen
    subst hlen
    refine ab_uW h (fun x v hv => ?_) kk (fun x v H locs ls st cells slots hv k => ?_)
    · cases x <;> first | (cases hv; exact ⟨fun _ z => (by cases z), fun _ z => (by cases z), fun _ z => (by cases z), fun _ z => (by cases z)⟩) | cases hv
    · cases x <;> first | (cases hv; exact lv_i2f hx hbb hdg k) | cases hv
  | f2d =>
    have hlen : n = 1 := hlen
    subst hlen
    refine ab_uW h (fun x v hv => ?_) kk (fun x v H locs ls st cells slots hv k => ?_)
    · cases x with
      | float q =>
        dsimp only at hv
        split at hv
        · cases hv; exact ⟨fun _ z => (by cases z), fun _ z => (by cases z), fun _ z => (by cases z), fun _ z => (by cases z)⟩
        · cases hv
      | _ => cases hv
    · cases x with
      | float q =>
        dsimp only at hv
        split at hv
        · rename_i hz; cases hv; exact lv_f2d hx hbb hdg hz k
        · cases hv
      | _ => cases hv
  | ddiv =>
    have hlen : n = 1 := hlen
    subst hlen
    intro ρ H locs ls st cells slots hp
    obtain ⟨L, T, hh⟩ := S
    simp only [ab_step] at h
    split at h
    · rename_i y x T2
      split at h
      · rename_i hz
        cases h
        obtain ⟨w, st1, rfl, b1, -, hp1⟩ := ab_pt_pop hp
        obtain ⟨w2, st2, rfl, b2, -, hp2⟩ := ab_pt_pop hp1
        cases b1
        cases b2
        exact lv_ddiv hx hbb hdg hz (kk _ _ _ _ _ _ _ (ab_pt_push hp2 rfl rfl))
      · cases h
    · cases h
  | fdiv =>
    have hlen : n = 1 := hlen
    subst hlen
    intro ρ H locs ls st cells slots hp
    obtain ⟨L, T, hh⟩ := S
    simp only [ab_step] at h
    split at h
    · rename_i y x T2
      split at h
      · rename_i hz
        cases h
        obtain ⟨w, st1, rfl, b1, -, hp1⟩ := ab_pt_pop hp
        obtain ⟨w2, st2, rfl, b2, -, hp2⟩ := ab_pt_pop hp1
        cases b1
        cases b2
        exact lv_fdiv hx hbb hdg hz (kk _ _ _ _ _ _ _ (ab_pt_push hp2 rfl rfl))
      · cases h
    · cases h
  | dcmp q =>
    have hlen : n = 1 := hlen
    subst hlen
    intro ρ H locs ls st cells slots hp
    obtain ⟨L, T, hh⟩ := S
    simp only [ab_step] at h
    split at h
    · rename_i y x T2
      cases h
      obtain ⟨w, st1, rfl, b1, -, hp1⟩ := ab_pt_pop hp
      obtain ⟨w2, st2, rfl, b2, -, hp2⟩ := ab_pt_pop hp1
      cases b1
      cases b2
      exact lv_dcmp hx hbb hdg (kk _ _ _ _ _ _ _ (ab_pt_push hp2 rfl rfl))
    · cases h
  | fcmp q =>
    have hlen : n = 1 := hlen
    subst hlen
    intro ρ H locs ls st cells slots hp
    obtain ⟨L, T, hh⟩ := S
    simp only [ab_step] at h
    split at h
    · rename_i y x T2
      cases h
      obtain ⟨w, st1, rfl, b1, -, hp1⟩ := ab_pt_pop hp
      obtain ⟨w2, st2, rfl, b2, -, hp2⟩ := ab_pt_pop hp1
      cases b1
      cases b2
      exact lv_fcmp hx hbb hdg (kk _ _ _ _ _ _ _ (ab_pt_push hp2 rfl rfl))
    · cases h
  | iinc i q =>
    have hlen : n = 3 := hlen
    subst hlen
    intro ρ H locs ls st cells slots hp
    obtain ⟨L, T, hh⟩ := S
    simp only [ab_step] at h
    split at h
    · rename_i v hv
      cases h
      obtain ⟨h1, h2, h3, ⟨lv, a1, a2, a3⟩, h5, h6⟩ := hp
      obtain ⟨w, b1, b2⟩ := a3 i _ hv rfl
      cases b2
      obtain ⟨k9, hk9⟩ := List.getElem?_of_mem b1
      have hi : i < nL := by rw [← a2]; exact (List.getElem?_eq_some_iff.mp hv).1
      exact lv_iinc hx hbb hdg a1 hk9 rfl hi rfl (fun ls' hl => kk _ _ _ _ _ _ _ ⟨h1, h2, h3, ab_L_sto1 a2 a3 (v := .int (v + Int32.ofInt q)) rfl rfl hi hl, h5, h6⟩)
    · cases h
  | dup =>
    have hlen : n = 1 := hlen
    subst hlen
    intro ρ H locs ls st cells slots hp
    obtain ⟨L, T, hh⟩ := S
    simp only [ab_step] at h
    split at h
    · rename_i v T2
      split at h
      · rename_i hc
        cases h
        obtain ⟨w, st1, rfl, b1, b2, hp1⟩ := ab_pt_pop hp
        exact lv_dup hx hbb hdg (by rw [ab_v_cat b1]; exact hc) (kk _ _ _ _ _ _ _ (ab_pt_push hp b1 b2))
      · cases h
    · cases h
  | dup2 =>
    have hlen : n = 1 := hlen
    subst hlen
    intro ρ H locs ls st cells slots hp
    obtain ⟨L, T, hh⟩ := S
    simp only [ab_step] at h
    split at h
    · rename_i v v2 T2
      split at h
      · rename_i hc
        cases h
        obtain ⟨w, st1, rfl, b1, b2, hp1⟩ := ab_pt_pop hp
        obtain ⟨w2, st2, rfl, b3, b4, hp2⟩ := ab_pt_pop hp1
        exact lv_dup2_11 hx hbb hdg (by rw [ab_v_cat b1]; exact hc.1) (by rw [ab_v_cat b3]; exact hc.2) (kk _ _ _ _ _ _ _ (ab_pt_push (ab_pt_push hp b3 b4) b1 b2))
      · cases h
    · cases h
  | pop =>
    have hlen : n = 1 := hlen
    subst hlen
    intro ρ H locs ls st cells slots hp
    obtain ⟨L, T, hh⟩ := S
    simp only [ab_step] at h
    split at h
    · rename_i v T2
      split at h
      · rename_i hc
        cases h
        obtain ⟨w, st1, rfl, b1, b2, hp1⟩ := ab_pt_pop hp
        exact lv_pop hx hbb hdg (by rw [ab_v_cat b1]; exact hc) (kk _ _ _ _ _ _ _ hp1)
      · cases h
    · cases h
  | getfield i =>
    have hlen : n = 3 := hlen
    subst hlen
    exact ab_getfW E0 h hdg hok kk
  | putfield i =>
    have hlen : n = 3 := hlen
    subst hlen
    exact ab_putfW E0 h hdg hok kk
  | getstatic i =>
    have hlen : n = 3 := hlen
    subst hlen
    cases h
    exact ab_getsW E0 hdg hok kk
  | iaload =>
    have hlen : n = 1 := hlen
    subst hlen
    exact ab_ialdW E0 h (Or.inl ⟨rfl, rfl⟩) hdg kk
  | baload =>
    have hlen : n = 1 := hlen
    subst hlen
    exact ab_ialdW E0 h (Or.inr ⟨rfl, rfl⟩) hdg kk
  | iastore =>
    have hlen : n = 1 := hlen
    subst hlen
    exact ab_iastW E0 h (Or.inl ⟨rfl, rfl, fun _ => rfl⟩) hdg kk
  | bastore =>
    have hlen : n = 1 := hlen
    subst hlen
    exact ab_iastW E0 h (Or.inr ⟨rfl, rfl, fun _ => rfl⟩) hdg kk
  | laload =>
    have hlen : n = 1 := hlen
    subst hlen
    exact ab_laldW E0 h hdg kk
  | lastore =>
    have hlen : n = 1 := hlen
    subst hlen
    exact ab_lastW E0 h hdg kk
  | daload =>
    have hlen : n = 1 := hlen
    subst hlen
    exact ab_daldW E0 h hdg kk
  | dastore =>
    have hlen : n = 1 := hlen
    subst hlen
    exact ab_dastW E0 h hdg kk
  | aaload =>
    have hlen : n = 1 := hlen
    subst hlen
    exact ab_aaldW E0 h hdg kk
  | arraylength =>
    have hlen : n = 1 := hlen
    subst hlen
    exact ab_alenW E0 h hdg kk
  | new i =>
    have hlen : n = 3 := hlen
    subst hlen
    cases h
    refine ab_newW E0 hdg hok ⟨?_, hcap.2⟩ kk
    have := hcap.1
    simp only [List.length_append, List.length_cons, List.length_nil] at this
    exact this
  | newarray t =>
    have hlen : n = 2 := hlen
    subst hlen
    cases t with
    | int =>
      refine ab_newaW (f := fun n => oI (List.replicate n 0)) (ty := .int) E0 h hdg ab_w_arr_int rfl (by decide) (fun N => (N, .inl fun _ => 0)) (fun N cA => rfl) (fun N cA tys ρ => ⟨cA, fun _ => 0, tys.length, by simp, fun j x hj => ?_, by simp⟩) (fun N => by simp [ab_osz]) hcap kk
      rw [List.getElem?_replicate] at hj
      split at hj
      · cases hj; rfl
      · cases hj
    | byte =>
      refine ab_newaW (f := fun n => oB (List.replicate n 0)) (ty := .byte) E0 h hdg ab_w_arr_byte rfl (by decide) (fun N => (N, .inl fun _ => 0)) (fun N cA => rfl) (fun N cA tys ρ => ⟨cA, fun _ => 0, tys.length, by simp, fun j x hj => ?_, by simp⟩) (fun N => by simp [ab_osz]) hcap kk
      rw [List.getElem?_replicate] at hj
      split at hj
      · cases hj; rfl
      · cases hj
    | _ => cases h
  | anewarray i =>
    have hlen : n = 3 := hlen
    subst hlen
    exact ab_anewW E0 h hdg hok hcap kk
  | aastore =>
    have hlen : n = 1 := hlen
    subst hlen
    exact ab_aastW E0 h hdg kk
  | invokespecial i =>
    have hlen : n = 3 := hlen
    subst hlen
    obtain ⟨L, T, hh⟩ := S
    simp only [ab_step] at h
    split at h
    · rename_i k9 T2
      split at h
      · rename_i hc
        cases h
        exact ab_objW E0 hdg hok hc kk
      · cases h
    · cases h
  | invokestatic i =>
    have hlen : n = 3 := hlen
    subst hlen
    match a, h, hok with
    | 0, h, hok => exact ab_copyW E0 h hdg hok kk
    | 1, h, hok => exact ab_maxW E0 h hdg hok hcap kk
    | _ + 2, h, hok => exact ab_minW E0 h hdg hok hcap kk
  | _ => cases h
end Sd
