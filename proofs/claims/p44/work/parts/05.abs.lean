/-! THE ABSTRACT MACHINE: the machine's values, but a reference is a place in a list of cells; an array that was there before is .retAddr k; .retAddr 9 is a dead place of the frame -/
abbrev ab_O : Type := (Nat × List Value) ⊕ ((FieldType × List Int32) ⊕ (List Int64 ⊕ (List UInt64 ⊕ List (Option Nat))))
abbrev ab_H : Type := List ab_O
abbrev ab_S : Type := List Value × List Value × ab_H
/-- instruction, length, two numbers of its links -/
abbrev ab_I : Type := Instr × Nat × Nat × Nat
abbrev ab_R : Type := Option ((Option Value ⊕ Nat) × ab_H)
abbrev oO (ci : Nat) (fs : List Value) : ab_O := .inl (ci, fs)
abbrev oI (l : List Int32) : ab_O := .inr (.inl (.int, l))
abbrev oB (l : List Int32) : ab_O := .inr (.inl (.byte, l))
abbrev oJ (l : List Int64) : ab_O := .inr (.inr (.inl l))
abbrev oD (l : List UInt64) : ab_O := .inr (.inr (.inr (.inl l)))
abbrev oR (l : List (Option Nat)) : ab_O := .inr (.inr (.inr (.inr l)))
def ab_ct (ci : Nat) : Nat → FieldType := match ci with
  | 0 => tyX0
  | 1 => tyX1
  | 2 => tyX2
  | 3 => tyX3
  | 4 => tyX4
  | 5 => tyX5
  | 6 => tyX6
  | 7 => tyX7
  | 8 => tyX8
  | 9 => tyX9
  | 10 => tyX10
  | 11 => tyX11
  | 12 => tyX12
  | _ => fun _ => .int
def ab_nf (ci : Nat) : Nat := match ci with
  | 0 => 11
  | 1 => 2
  | 2 => 1
  | 3 => 12
  | 4 => 6
  | 5 => 9
  | 6 => 19
  | 7 => 12
  | 8 => 1
  | 9 => 4
  | 10 => 5
  | 11 => 14
  | 12 => 20
  | _ => 0
def ab_def (ci : Nat) : List Value := (List.range (ab_nf ci)).map (fun k => defaultValue (ab_ct ci k))
def ab_osz (o : ab_O) : Nat := match o with
  | .inl (ci, fs) => if 13 ≤ ci then 6 else fs.length
  | .inr (.inl (_, l)) => l.length
  | .inr (.inr (.inl l)) => l.length
  | .inr (.inr (.inr (.inl l))) => l.length
  | .inr (.inr (.inr (.inr l))) => l.length
def ab_hsz (h : ab_H) : Nat := (h.map ab_osz).sum
def ab_isA (v : Value) : Bool := match v with
  | .ref _ => true
  | .null => true
  | .retAddr k => k != 9
  | _ => false
def ab_isI (v : Value) : Bool := match v with
  | .int _ => true
  | _ => false
def ab_isJ (v : Value) : Bool := match v with
  | .long _ => true
  | _ => false
def ab_isD (v : Value) : Bool := match v with
  | .double _ => true
  | _ => false
def ab_isF (v : Value) : Bool := match v with
  | .float _ => true
  | _ => false
def ab_fit (ty : FieldType) (v : Value) : Bool := match ty, v with
  | .int, .int _ => true
  | .boolean, .int x => x == 0 || x == 1
  | .object _, .ref _ => true
  | .object _, .null => true
  | .array _, .ref _ => true
  | .array _, .null => true
  | _, _ => false
/-- what a store into the place j + 1 leaves of a long at j -/
def ab_kil (L : List Value) (i : Nat) : List Value := match i with
  | 0 => L
  | j + 1 => match L[j]? with
    | some (.long _) => L.set j (.retAddr 9)
    | some (.double _) => L.set j (.retAddr 9)
    | _ => L
def ab_sto (L : List Value) (i : Nat) (v : Value) : List Value := match v with
  | .long _ => ((ab_kil L i).set i v).set (i + 1) (.retAddr 9)
  | .double _ => ((ab_kil L i).set i v).set (i + 1) (.retAddr 9)
  | _ => (ab_kil L i).set i v
def ab_ld (q : Value → Bool) (i : Nat) (S : ab_S) : Option ab_S := match S.1[i]? with
  | some v => if q v = true then some (S.1, v :: S.2.1, S.2.2) else none
  | none => none
def ab_st (q : Value → Bool) (i : Nat) (S : ab_S) : Option ab_S := match S.2.1 with
  | v :: st => if q v = true ∧ i + v.category ≤ S.1.length then some (ab_sto S.1 i v, st, S.2.2) else none
  | [] => none
def ab_ii (f : Int32 → Int32 → Option Value) (S : ab_S) : Option ab_S := match S.2.1 with
  | .int y :: .int x :: st => (f x y).bind fun v => some (S.1, v :: st, S.2.2)
  | _ => none
def ab_jj (f : Int64 → Int64 → Option Value) (S : ab_S) : Option ab_S := match S.2.1 with
  | .long y :: .long x :: st => (f x y).bind fun v => some (S.1, v :: st, S.2.2)
  | _ => none
def ab_u (f : Value → Option Value) (S : ab_S) : Option ab_S := match S.2.1 with
  | x :: st => (f x).bind fun v => some (S.1, v :: st, S.2.2)
  | [] => none
def ab_ix {α : Type} (l : List α) (i : Int32) : Option α := if i < 0 then none else l[i.toNatClampNeg]?
def ab_ux {α : Type} (l : List α) (i : Int32) (v : α) : Option (List α) := if i < 0 ∨ l.length ≤ i.toNatClampNeg then none else some (l.set i.toNatClampNeg v)
def ab_getf (ci k : Nat) (S : ab_S) : Option ab_S := match S.2.1 with
  | .ref a :: st => match S.2.2[a]? with
    | some (.inl (cj, fs)) => if cj = ci then (fs[k]?).bind fun v => some (S.1, v :: st, S.2.2) else none
    | _ => none
  | _ => none
def ab_putf (ci k : Nat) (S : ab_S) : Option ab_S := match S.2.1 with
  | v :: .ref a :: st => match S.2.2[a]? with
    | some (.inl (cj, fs)) => if cj = ci ∧ k < fs.length ∧ ab_fit (ab_ct ci k) v = true then some (S.1, st, S.2.2.set a (.inl (ci, fs.set k v))) else none
    | _ => none
  | _ => none
def ab_iald (fx : Nat → List Int32) (ty : FieldType) (S : ab_S) : Option ab_S := match S.2.1 with
  | .int i :: .ref a :: st => match S.2.2[a]? with
    | some (.inr (.inl (tz, l))) => if tz = ty then (ab_ix l i).bind fun v => some (S.1, .int v :: st, S.2.2) else none
    | _ => none
  | .int i :: .retAddr k :: st => if k < 2 ∧ ty = .int then (ab_ix (fx k) i).bind fun v => some (S.1, .int v :: st, S.2.2) else none
  | _ => none
def ab_iast (ty : FieldType) (g : Int32 → Int32) (S : ab_S) : Option ab_S := match S.2.1 with
  | .int v :: .int i :: .ref a :: st => match S.2.2[a]? with
    | some (.inr (.inl (tz, l))) => if tz = ty then (ab_ux l i (g v)).bind fun l2 => some (S.1, st, S.2.2.set a (.inr (.inl (ty, l2)))) else none
    | _ => none
  | _ => none
def ab_lald (S : ab_S) : Option ab_S := match S.2.1 with
  | .int i :: .ref a :: st => match S.2.2[a]? with
    | some (.inr (.inr (.inl l))) => (ab_ix l i).bind fun v => some (S.1, .long v :: st, S.2.2)
    | _ => none
  | _ => none
def ab_last (S : ab_S) : Option ab_S := match S.2.1 with
  | .long v :: .int i :: .ref a :: st => match S.2.2[a]? with
    | some (.inr (.inr (.inl l))) => (ab_ux l i v).bind fun l2 => some (S.1, st, S.2.2.set a (.inr (.inr (.inl l2))))
    | _ => none
  | _ => none
def ab_dald (S : ab_S) : Option ab_S := match S.2.1 with
  | .int i :: .ref a :: st => match S.2.2[a]? with
    | some (.inr (.inr (.inr (.inl l)))) => (ab_ix l i).bind fun v => some (S.1, .double v :: st, S.2.2)
    | _ => none
  | _ => none
def ab_dast (S : ab_S) : Option ab_S := match S.2.1 with
  | .double v :: .int i :: .ref a :: st => match S.2.2[a]? with
    | some (.inr (.inr (.inr (.inl l)))) => (ab_ux l i v).bind fun l2 => some (S.1, st, S.2.2.set a (.inr (.inr (.inr (.inl l2)))))
    | _ => none
  | _ => none
def ab_rf (r : Option Nat) : Value := match r with
  | none => .null
  | some k => .ref k
def ab_aald (S : ab_S) : Option ab_S := match S.2.1 with
  | .int i :: .ref a :: st => match S.2.2[a]? with
    | some (.inr (.inr (.inr (.inr l)))) => (ab_ix l i).bind fun v => some (S.1, ab_rf v :: st, S.2.2)
    | _ => none
  | _ => none
def ab_alen (fx : Nat → List Int32) (S : ab_S) : Option ab_S := match S.2.1 with
  | .ref a :: st => match S.2.2[a]? with
    | some (.inr (.inl (_, l))) => if l.length < 2000000 then some (S.1, .int (nI l.length) :: st, S.2.2) else none
    | some (.inr (.inr (.inr (.inr l)))) => if l.length < 2000000 then some (S.1, .int (nI l.length) :: st, S.2.2) else none
    | _ => none
  | .retAddr k :: st => if k = 1 ∧ (fx k).length < 2000000 then some (S.1, .int (nI (fx k).length) :: st, S.2.2) else none
  | _ => none
def ab_newa (f : Nat → ab_O) (S : ab_S) : Option ab_S := match S.2.1 with
  | .int n :: st => if n < 0 ∨ 100000 < n.toNatClampNeg then none else some (S.1, .ref S.2.2.length :: st, S.2.2 ++ [f n.toNatClampNeg])
  | _ => none
def ab_aast (S : ab_S) : Option ab_S := match S.2.1 with
  | .ref v :: .int i :: .ref a :: st => match S.2.2[v]?, S.2.2[a]? with
    | some (.inr (.inl (.int, _))), some (.inr (.inr (.inr (.inr l)))) => (ab_ux l i (some v)).bind fun l2 => some (S.1, st, S.2.2.set a (oR l2))
    | _, _ => none
  | _ => none
def ab_copy (S : ab_S) : Option ab_S := match S.2.1 with
  | .int n :: .int dp :: .ref a2 :: .int sp :: .ref a1 :: st => match S.2.2[a1]?, S.2.2[a2]? with
    | some (.inr (.inl (.int, l1))), some (.inr (.inl (.int, l2))) =>
      if n < 0 ∨ dp < 0 ∨ sp < 0 ∨ l1.length < sp.toNatClampNeg + n.toNatClampNeg ∨ l2.length < dp.toNatClampNeg + n.toNatClampNeg ∨ 8 < (st.map fun v => v.category).sum then none
      else some (S.1, st, S.2.2.set a2 (oI (l2.take dp.toNatClampNeg ++ ((l1.drop sp.toNatClampNeg).take n.toNatClampNeg ++ l2.drop (dp.toNatClampNeg + n.toNatClampNeg)))))
    | _, _ => none
  | _ => none
def ab_mm (f : Int32 → Int32 → Int32) (S : ab_S) : Option ab_S := match S.2.1 with
  | .int y :: .int x :: st => if (st.map fun v => v.category).sum ≤ 8 then some (S.1, .int (f x y) :: st, S.2.2) else none
  | _ => none
/-- one instruction that goes straight on -/
def ab_step (fx : Nat → List Int32) (x : ab_I) (S : ab_S) : Option ab_S := match x.1 with
  | .iload i => ab_ld ab_isI i S
  | .iload_n i => ab_ld ab_isI i S
  | .lload i => ab_ld ab_isJ i S
  | .lload_n i => ab_ld ab_isJ i S
  | .fload i => ab_ld ab_isF i S
  | .fload_n i => ab_ld ab_isF i S
  | .dload i => ab_ld ab_isD i S
  | .dload_n i => ab_ld ab_isD i S
  | .aload i => ab_ld ab_isA i S
  | .aload_n i => ab_ld ab_isA i S
  | .istore i => ab_st ab_isI i S
  | .istore_n i => ab_st ab_isI i S
  | .lstore i => ab_st ab_isJ i S
  | .lstore_n i => ab_st ab_isJ i S
  | .fstore i => ab_st ab_isF i S
  | .fstore_n i => ab_st ab_isF i S
  | .dstore i => ab_st ab_isD i S
  | .dstore_n i => ab_st ab_isD i S
  | .astore i => ab_st ab_isA i S
  | .astore_n i => ab_st ab_isA i S
  | .iconst n => some (S.1, .int (Int32.ofInt n) :: S.2.1, S.2.2)
  | .bipush n => some (S.1, .int (Int8.ofInt n).toInt32 :: S.2.1, S.2.2)
  | .sipush n => some (S.1, .int (Int16.ofInt n).toInt32 :: S.2.1, S.2.2)
  | .lconst n => some (S.1, .long (Int64.ofNat (n : Nat)) :: S.2.1, S.2.2)
  | .fconst n => if (n : Nat) = 0 then some (S.1, .float FP.fconst0 :: S.2.1, S.2.2) else none
  | .dconst n => if (n : Nat) = 0 then some (S.1, .double FP.dconst0 :: S.2.1, S.2.2) else none
  | .aconst_null => some (S.1, .null :: S.2.1, S.2.2)
  | .ldc _ => some (S.1, .int (nI x.2.2.1) :: S.2.1, S.2.2)
  | .ldc_w _ => some (S.1, .int (nI x.2.2.1) :: S.2.1, S.2.2)
  | .ldc2_w _ => some (S.1, .long (lN x.2.2.1) :: S.2.1, S.2.2)
  | .iadd => ab_ii (fun a b => some (.int (a + b))) S
  | .isub => ab_ii (fun a b => some (.int (a - b))) S
  | .imul => ab_ii (fun a b => some (.int (a * b))) S
  | .idiv => ab_ii (fun a b => if b = 0 then none else some (.int (a / b))) S
  | .irem => ab_ii (fun a b => if b = 0 then none else some (.int (a - a / b * b))) S
  | .iand => ab_ii (fun a b => some (.int (a &&& b))) S
  | .ior => ab_ii (fun a b => some (.int (a ||| b))) S
  | .ixor => ab_ii (fun a b => some (.int (a ^^^ b))) S
  | .ishl => ab_ii (fun a b => some (.int (a <<< (b &&& 31)))) S
  | .ishr => ab_ii (fun a b => some (.int (a >>> (b &&& 31)))) S
  | .iushr => ab_ii (fun a b => some (.int ((a.toUInt32 >>> (b.toUInt32 &&& Int32.toUInt32 31)).toInt32))) S
  | .ladd => ab_jj (fun a b => some (.long (a + b))) S
  | .lmul => ab_jj (fun a b => some (.long (a * b))) S
  | .ldiv => ab_jj (fun a b => if b = 0 then none else some (.long (a / b))) S
  | .lrem => ab_jj (fun a b => if b = 0 then none else some (.long (a - a / b * b))) S
  | .lcmp => ab_jj (fun a b => some (.int (lg_cmp a b))) S
  | .i2l => ab_u (fun v => match v with
    | .int a => some (.long a.toInt64)
    | _ => none) S
  | .l2i => ab_u (fun v => match v with
    | .long a => some (.int a.toInt32)
    | _ => none) S
  | .i2b => ab_u (fun v => match v with
    | .int a => some (.int a.toInt8.toInt32)
    | _ => none) S
  | .i2d => ab_u (fun v => match v with
    | .int a => some (.double (FP.i2d a))
    | _ => none) S
  | .i2f => ab_u (fun v => match v with
    | .int a => some (.float (FP.i2f a))
    | _ => none) S
  | .f2d => ab_u (fun v => match v with
    | .float a => if FP.f2d a &&& 0x7fffffffffffffff ≤ 0x7ff0000000000000 then some (.double (FP.f2d a)) else none
    | _ => none) S
  | .ddiv => match S.2.1 with
    | .double b :: .double a :: st => if FP.ddiv a b &&& 0x7fffffffffffffff ≤ 0x7ff0000000000000 then some (S.1, .double (FP.ddiv a b) :: st, S.2.2) else none
    | _ => none
  | .fdiv => match S.2.1 with
    | .float b :: .float a :: st => if FP.fdiv a b &&& 0x7fffffff ≤ 0x7f800000 then some (S.1, .float (FP.fdiv a b) :: st, S.2.2) else none
    | _ => none
  | .dcmp op => match S.2.1 with
    | .double b :: .double a :: st => some (S.1, .int (Op.cmpValue (FP.dcmp a b) op) :: st, S.2.2)
    | _ => none
  | .fcmp op => match S.2.1 with
    | .float b :: .float a :: st => some (S.1, .int (Op.cmpValue (FP.fcmp a b) op) :: st, S.2.2)
    | _ => none
  | .iinc i n => match S.1[i]? with
    | some (.int v) => some (ab_sto S.1 i (.int (v + Int32.ofInt n)), S.2.1, S.2.2)
    | _ => none
  | .dup => match S.2.1 with
    | v :: st => if v.category = 1 then some (S.1, v :: v :: st, S.2.2) else none
    | [] => none
  | .dup2 => match S.2.1 with
    | v :: w :: st => if v.category = 1 ∧ w.category = 1 then some (S.1, v :: w :: v :: w :: st, S.2.2) else none
    | _ => none
  | .pop => match S.2.1 with
    | v :: st => if v.category = 1 then some (S.1, st, S.2.2) else none
    | [] => none
  | .getfield _ => ab_getf x.2.2.1 x.2.2.2 S
  | .putfield _ => ab_putf x.2.2.1 x.2.2.2 S
  | .getstatic _ => some (S.1, .retAddr 0 :: S.2.1, S.2.2)
  | .iaload => ab_iald fx .int S
  | .baload => ab_iald fx .byte S
  | .iastore => ab_iast .int (fun v => v) S
  | .bastore => ab_iast .byte (fun v => v.toInt8.toInt32) S
  | .laload => ab_lald S
  | .lastore => ab_last S
  | .daload => ab_dald S
  | .dastore => ab_dast S
  | .aaload => ab_aald S
  | .arraylength => ab_alen fx S
  | .new _ => some (S.1, .ref S.2.2.length :: S.2.1, S.2.2 ++ [.inl (x.2.2.1, ab_def x.2.2.1)])
  | .newarray t => match t with
    | .int => ab_newa (fun n => oI (List.replicate n 0)) S
    | .byte => ab_newa (fun n => oB (List.replicate n 0)) S
    | _ => none
  | .anewarray _ => ab_newa (fun n => oR (List.replicate n none)) S
  | .aastore => ab_aast S
  | .invokespecial _ => match S.2.1 with
    | .ref _ :: st => if (st.map fun v => v.category).sum ≤ 8 then some (S.1, st, S.2.2) else none
    | _ => none
  | .invokestatic _ => match x.2.2.1 with
    | 0 => ab_copy S
    | 1 => ab_mm (fun a b => if a < b then b else a) S
    | _ => ab_mm (fun a b => if b < a then b else a) S
  | _ => none
def ab_run (fx : Nat → List Int32) : List ab_I → ab_S → Option ab_S
  | [], S => some S
  | x :: r, S => (ab_step fx x S).bind fun S' => ab_run fx r S'
/-- a block's end: instruction, length, (callee, number of its arguments, its receiver's class), where it goes on -/
abbrev ab_T : Type := Instr × Nat × (Nat × Nat × Nat) × List Nat
/-- a method: its places, where it catches which exception, its blocks -/
abbrev ab_M : Type := Nat × List (Nat × Nat) × List (Nat × List ab_I × ab_T)
def ab_at (t : ab_T) (k : Nat) : Nat := t.2.2.2.getD k 0
def ab_in (n : Nat) (as : List Value) (h : ab_H) : ab_S := (as ++ List.replicate (n - as.length) (.retAddr 9), [], h)
def ab_rcv (rc : Nat) (as : List Value) (h : ab_H) : Bool := match as with
  | .ref k :: _ => if 100 ≤ rc then true else match h[k]? with
    | some (.inl (ci, _)) => ci == rc % 50
    | _ => false
  | _ => false
def ab_call (mt : Nat → Option ab_M) (go : Nat → Nat → Nat → ab_S → ab_R) (d m : Nat) (hs : List (Nat × Nat)) (t : ab_T) (S : ab_S) : ab_R :=
  match mt t.2.2.1.1, d with
  | some M, d' + 1 =>
    if t.2.2.1.2.1 ≤ S.2.1.length ∧ t.2.2.1.2.1 ≤ M.1 ∧ ((S.2.1.take t.2.2.1.2.1).all fun v => v.category == 1) = true ∧ ((S.2.1.drop t.2.2.1.2.1).map fun v => v.category).sum ≤ 8 ∧ (200 ≤ t.2.2.1.2.2 ∨ ab_rcv t.2.2.1.2.2 (S.2.1.take t.2.2.1.2.1).reverse S.2.2 = true) then
      match go d' t.2.2.1.1 0 (ab_in M.1 (S.2.1.take t.2.2.1.2.1).reverse S.2.2) with
      | none => none
      | some (.inl v, h) => go d m (ab_at t 0) (S.1, v.toList ++ S.2.1.drop t.2.2.1.2.1, h)
      | some (.inr x, h) => if t.2.2.1.2.2 < 50 then
        match hs.find? (fun q => q.1 == x) with
        | some q => go d m q.2 (S.1, [.retAddr 8], h)
        | none => if hs.isEmpty = true then some (.inr x, h) else none
      else none
    else none
  | _, _ => none
/-- the places turned round: the cell that was made first goes behind the 62 cells of the class -/
def ab_rp (k : Nat) : Nat := if k = 0 then 62 else if k ≤ 62 then k - 1 else k
def ab_rv (v : Value) : Value := match v with
  | .ref k => .ref (ab_rp k)
  | v => v
def ab_ro (o : ab_O) : ab_O := match o with
  | .inl (ci, fs) => .inl (ci, fs.map ab_rv)
  | .inr (.inr (.inr (.inr l))) => oR (l.map fun r => r.map ab_rp)
  | o => o
def ab_rl {α : Type} (l : List α) : List α := (l.drop 1).take 62 ++ (l.take 1 ++ l.drop 63)
def ab_rot (S : ab_S) : ab_S := (S.1.map ab_rv, S.2.1.map ab_rv, (ab_rl S.2.2).map ab_ro)
def ab_term (mt : Nat → Option ab_M) (go : Nat → Nat → Nat → ab_S → ab_R) (d m : Nat) (hs : List (Nat × Nat)) (t : ab_T) (S : ab_S) : ab_R := match t.1 with
  | .nop => if t.2.2.1.1 = 7 then (if 63 ≤ S.2.2.length then go d m (ab_at t 0) (ab_rot S) else none) else go d m (ab_at t 0) S
  | .goto _ => go d m (ab_at t 0) S
  | .if_icmp c _ => match S.2.1 with
    | .int y :: .int x :: st => match c with
      | .eq => if x = y then go d m (ab_at t 0) (S.1, st, S.2.2) else go d m (ab_at t 1) (S.1, st, S.2.2)
      | .ne => if x = y then go d m (ab_at t 1) (S.1, st, S.2.2) else go d m (ab_at t 0) (S.1, st, S.2.2)
      | .lt => if x < y then go d m (ab_at t 0) (S.1, st, S.2.2) else go d m (ab_at t 1) (S.1, st, S.2.2)
      | .ge => if x < y then go d m (ab_at t 1) (S.1, st, S.2.2) else go d m (ab_at t 0) (S.1, st, S.2.2)
      | .gt => if y < x then go d m (ab_at t 0) (S.1, st, S.2.2) else go d m (ab_at t 1) (S.1, st, S.2.2)
      | .le => if y < x then go d m (ab_at t 1) (S.1, st, S.2.2) else go d m (ab_at t 0) (S.1, st, S.2.2)
    | _ => none
  | .ifCond c _ => match S.2.1 with
    | .int x :: st => match c with
      | .eq => if x = 0 then go d m (ab_at t 0) (S.1, st, S.2.2) else go d m (ab_at t 1) (S.1, st, S.2.2)
      | .ne => if x = 0 then go d m (ab_at t 1) (S.1, st, S.2.2) else go d m (ab_at t 0) (S.1, st, S.2.2)
      | .lt => if x < 0 then go d m (ab_at t 0) (S.1, st, S.2.2) else go d m (ab_at t 1) (S.1, st, S.2.2)
      | .ge => if x < 0 then go d m (ab_at t 1) (S.1, st, S.2.2) else go d m (ab_at t 0) (S.1, st, S.2.2)
      | .gt => if 0 < x then go d m (ab_at t 0) (S.1, st, S.2.2) else go d m (ab_at t 1) (S.1, st, S.2.2)
      | .le => if 0 < x then go d m (ab_at t 1) (S.1, st, S.2.2) else go d m (ab_at t 0) (S.1, st, S.2.2)
    | _ => none
  | .ifnull _ => match S.2.1 with
    | .null :: st => go d m (ab_at t 0) (S.1, st, S.2.2)
    | .ref _ :: st => go d m (ab_at t 1) (S.1, st, S.2.2)
    | _ => none
  | .ifnonnull _ => match S.2.1 with
    | .null :: st => go d m (ab_at t 1) (S.1, st, S.2.2)
    | .ref _ :: st => go d m (ab_at t 0) (S.1, st, S.2.2)
    | _ => none
  | .tableswitch _ lo _ _ => match S.2.1 with
    | .int x :: st => if x.toInt < lo ∨ lo + (t.2.2.2.length - 1 : Nat) ≤ x.toInt then go d m (ab_at t (t.2.2.2.length - 1)) (S.1, st, S.2.2) else go d m (ab_at t (x.toInt - lo).toNat) (S.1, st, S.2.2)
    | _ => none
  | .lookupswitch _ ps => match S.2.1 with
    | .int x :: st => match ps.toList.findIdx? (fun q => q.1 == x.toInt) with
      | some i => go d m (ab_at t i) (S.1, st, S.2.2)
      | none => go d m (ab_at t (t.2.2.2.length - 1)) (S.1, st, S.2.2)
    | _ => none
  | .ireturn => match S.2.1 with
    | [.int v] => if t.2.2.1.1 = 1 then if v = 0 ∨ v = 1 then some (.inl (some (.int v)), S.2.2) else none else some (.inl (some (.int v)), S.2.2)
    | _ => none
  | .lreturn => match S.2.1 with
    | [.long v] => some (.inl (some (.long v)), S.2.2)
    | _ => none
  | .freturn => match S.2.1 with
    | [.float v] => some (.inl (some (.float v)), S.2.2)
    | _ => none
  | .dreturn => match S.2.1 with
    | [.double v] => some (.inl (some (.double v)), S.2.2)
    | _ => none
  | .areturn => match S.2.1 with
    | [.ref v] => some (.inl (some (.ref v)), S.2.2)
    | _ => none
  | .return_ => match S.2.1 with
    | [] => some (.inl none, S.2.2)
    | _ => none
  | .athrow => if (S.2.1.map fun v => v.category).sum ≤ 8 then some (.inr t.2.2.1.1, S.2.2 ++ [.inl (99, [])]) else none
  | .invokevirtual _ => ab_call mt go d m hs t S
  | .invokespecial _ => ab_call mt go d m hs t S
  | .invokestatic _ => ab_call mt go d m hs t S
  | _ => none
/-- n: how many blocks at most; d: how deep calls may go; method m from its block k -/
def ab_go (mt : Nat → Option ab_M) (fx : Nat → List Int32) : Nat → Nat → Nat → Nat → ab_S → ab_R
  | 0, _, _, _, _ => none
  | n + 1, d, m, k, S => match mt m with
    | none => none
    | some M => match M.2.2[k]? with
      | none => none
      | some B => (ab_run fx B.2.1 S).bind fun S' => ab_term mt (ab_go mt fx n) d m M.2.1 B.2.2 S'
