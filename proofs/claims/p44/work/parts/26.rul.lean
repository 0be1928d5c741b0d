/-! RUNNING BLOCKS BY REWRITING: one rule an instruction -/
noncomputable def ev (xs : List Int32) (d m k : Nat) (S : ab_S) : ab_R := ab_ev ab_mt (ab_fx xs) d m k S
noncomputable def rt (xs : List Int32) (d m : Nat) (hs : List (Nat × Nat)) (t : ab_T) (b : List ab_I) (S : ab_S) : ab_R := (ab_run (ab_fx xs) b S).bind (ab_term ab_mt (ev xs) d m hs t)
theorem ev_eb {xs : List Int32} {d m k pc : Nat} {M : ab_M} {t : ab_T} {b : List ab_I} (S : ab_S) (h1 : ab_mt m = some M) (h2 : M.2.2[k]? = some (pc, b, t)) : ev xs d m k S = rt xs d m M.2.1 t b S := by
  unfold ev
  rw [ab_ev_eq, h1]
  dsimp only
  rw [h2]
  rfl
theorem ev_mono {xs : List Int32} {d d' m k : Nat} {S : ab_S} {r : (Option Value ⊕ Nat) × ab_H} (h : ev xs d m k S = some r) (hd : d ≤ d') : ev xs d' m k S = some r := ab_ev_mono hd h
/-- a local beside which a new one is laid: a long there dies -/
def kl (x : Value) : Value := match x with
  | .long _ => .retAddr 9
  | .double _ => .retAddr 9
  | v => v
theorem kl_i {v : Int32} : kl (.int v) = .int v := rfl
theorem kl_r {v : Nat} : kl (.ref v) = .ref v := rfl
theorem kl_n : kl .null = .null := rfl
theorem kl_a {k : Nat} : kl (.retAddr k) = .retAddr k := rfl
theorem kl_l {v : Int64} : kl (.long v) = .retAddr 9 := rfl
theorem kl_d {v : UInt64} : kl (.double v) = .retAddr 9 := rfl
theorem kl_f {v : UInt32} : kl (.float v) = .float v := rfl
def st8 (st : List Value) : Bool := decide ((st.map fun v => v.category).sum ≤ 8)
theorem st8_le {st : List Value} (h : st8 st = true) : (st.map fun v => v.category).sum ≤ 8 := of_decide_eq_true h
/-- so that no rewriting takes it for a computation -/
theorem nrf {α : Type} {a b : α} (h : a = b) : a = b := by
  cases h
  exact Eq.refl a
/-- a row of n ints -/
def ar (n : Nat) (f : Nat → Nat) : List Int32 := (List.range n).map fun i => nI (f i)
theorem ar_len (n : Nat) (f : Nat → Nat) : (ar n f).length = n := by simp [ar]
theorem ar_get {n k : Nat} (f : Nat → Nat) (h : k < n) : (ar n f)[k]? = some (nI (f k)) := by simp [ar, h]
theorem iN_tn {k : Nat} (h : k < 2147483648) : (nI k).toInt = (k : Int) := by
  exact Int32.toInt_ofNat_of_lt h
theorem iN_cl {k : Nat} (h : k < 2147483648) : (nI k).toNatClampNeg = k := by
  show (nI k).toInt.toNat = k
  rw [iN_tn h]
  rfl
theorem iN_nn {k : Nat} (h : k < 2147483648) : ¬ nI k < 0 := by
  rw [Int32.lt_iff_toInt_lt, iN_tn h]
  show ¬ (k : Int) < 0
  omega
theorem ix_ar {n k : Nat} (f : Nat → Nat) (h : k < n) (hn : n < 2147483648) : ab_ix (ar n f) (nI k) = some (nI (f k)) := by
  unfold ab_ix
  rw [if_neg (iN_nn (by omega)), iN_cl (by omega), ar_get f h]
def u1 (f : Nat → Nat) (i v : Nat) : Nat → Nat := fun j => if j = i then v else f j
/-- the picture with one entry new -/
def up (M : Nat → Nat → Nat) (a i v : Nat) : Nat → Nat → Nat := fun b => if b = a then u1 (M a) i v else M b
theorem ar_set {n k v : Nat} (f : Nat → Nat) (_h : k < n) : (ar n f).set k (nI v) = ar n (u1 f k v) := by
  apply List.ext_getElem?
  intro i
  by_cases hi : i < n
  · rw [ar_get _ hi, List.getElem?_set]
    unfold u1
    by_cases hk : k = i
    · subst hk
      simp [ar_len, hi]
    · rw [if_neg hk, ar_get _ hi, if_neg (fun h => hk h.symm)]
  · have h1 : (ar n (u1 f k v))[i]? = none := by simp [ar]; omega
    have h2 : ((ar n f).set k (nI v))[i]? = none := by simp [ar]; omega
    rw [h1, h2]
theorem ux_ar {n k v : Nat} (f : Nat → Nat) (h : k < n) (hn : n < 2147483648) : ab_ux (ar n f) (nI k) (nI v) = some (ar n (u1 f k v)) := by
  unfold ab_ux
  rw [if_neg, iN_cl (by omega), ar_set f h]
  rw [iN_cl (by omega), ar_len]
  intro hh
  rcases hh with hh | hh
  · exact iN_nn (by omega) hh
  · omega
theorem bt_i (x : Nat) (h : x < 2) : ((nI x == 0) || (nI x == 1)) = true := by
  have : x = 0 ∨ x = 1 := by omega
  rcases this with rfl | rfl <;> rfl
theorem ar_zero (n : Nat) : List.replicate n (0 : Int32) = ar n fun _ => 0 := by
  apply List.ext_getElem?
  intro i
  simp only [ar, List.getElem?_replicate, List.getElem?_map, List.getElem?_range']
  by_cases h : i < n
  · simp [h]
    rfl
  · simp [h]
section Xr
variable {xs : List Int32} {d m : Nat} {hs : List (Nat × Nat)} {t : ab_T} {r : List ab_I} {q : Nat × Nat × Nat} {L st : List Value} {h : ab_H}
theorem rt_cons (x : ab_I) (S : ab_S) : rt xs d m hs t (x :: r) S = (ab_step (ab_fx xs) x S).bind fun S' => rt xs d m hs t r S' := by
  unfold rt
  show ((ab_step (ab_fx xs) x S).bind fun S' => ab_run (ab_fx xs) r S').bind _ = _
  cases ab_step (ab_fx xs) x S <;> rfl
theorem rt_s {x : ab_I} {S S' : ab_S} (hh : ab_step (ab_fx xs) x S = some S') : rt xs d m hs t (x :: r) S = rt xs d m hs t r S' := by
  rw [rt_cons, hh]
  rfl
theorem q_gf {n ci f a : Nat} {j : _} {fs : List Value} {v : Value} (h1 : h[a]? = some (.inl (ci, fs))) (h2 : fs[f]? = some v) : rt xs d m hs t ((.getfield j, n, ci, f) :: r) (L, .ref a :: st, h) = rt xs d m hs t r (L, v :: st, h) := by
  apply rt_s
  show ab_getf ci f (L, .ref a :: st, h) = _
  simp only [ab_getf, h1, if_true, h2, Option.bind]
theorem q_pf {n ci f a : Nat} {j : _} {fs : List Value} {v : Value} (h1 : h[a]? = some (.inl (ci, fs))) (h2 : f < fs.length) (h3 : ab_fit (ab_ct ci f) v = true) : rt xs d m hs t ((.putfield j, n, ci, f) :: r) (L, v :: .ref a :: st, h) = rt xs d m hs t r (L, st, h.set a (.inl (ci, fs.set f v))) := by
  apply rt_s
  show ab_putf ci f (L, v :: .ref a :: st, h) = _
  simp only [ab_putf, h1]
  rw [if_pos ⟨trivial, h2, h3⟩]
theorem q_ia {a k n : Nat} {f : Nat → Nat} (h1 : h[a]? = some (oI (ar n f))) (hk : k < n) (hn : n < 2147483648) : rt xs d m hs t ((.iaload, q) :: r) (L, .int (nI k) :: .ref a :: st, h) = rt xs d m hs t r (L, .int (nI (f k)) :: st, h) := by
  apply rt_s
  show ab_iald (ab_fx xs) .int (L, .int (nI k) :: .ref a :: st, h) = _
  simp only [ab_iald, h1, if_true, ix_ar f hk hn, Option.bind]
theorem q_is {a k n v : Nat} {f : Nat → Nat} (h1 : h[a]? = some (oI (ar n f))) (hk : k < n) (hn : n < 2147483648) : rt xs d m hs t ((.iastore, q) :: r) (L, .int (nI v) :: .int (nI k) :: .ref a :: st, h) = rt xs d m hs t r (L, st, h.set a (oI (ar n (u1 f k v)))) := by
  apply rt_s
  show ab_iast .int (fun v => v) (L, .int (nI v) :: .int (nI k) :: .ref a :: st, h) = _
  simp only [ab_iast, h1, if_true, ux_ar f hk hn, Option.bind]
theorem q_ln {a n : Nat} {f : Nat → Nat} (h1 : h[a]? = some (oI (ar n f))) (hn : n < 2000000) : rt xs d m hs t ((.arraylength, q) :: r) (L, .ref a :: st, h) = rt xs d m hs t r (L, .int (nI n) :: st, h) := by
  apply rt_s
  show ab_alen (ab_fx xs) (L, .ref a :: st, h) = _
  simp only [ab_alen, h1, ar_len, if_pos hn]
theorem q_cp {a b n : Nat} {i i2 : Nat} {f g : Nat → Nat} {w n2 : Nat} {j : _} (h1 : h[a]? = some (oI (ar i f))) (h2 : h[b]? = some (oI (ar i2 g))) (hn : n ≤ i) (hn2 : n ≤ i2) (hk : n < 2147483648) (h8 : st8 st = true) : rt xs d m hs t ((.invokestatic j, n2, 0, w) :: r) (L, .int (nI n) :: .int (nI 0) :: .ref b :: .int (nI 0) :: .ref a :: st, h) = rt xs d m hs t r (L, st, h.set b (oI (ar i2 fun j => if j < n then f j else g j))) := by
  have h8 := st8_le h8
  apply rt_s
  show ab_copy (L, .int (nI n) :: .int (nI 0) :: .ref b :: .int (nI 0) :: .ref a :: st, h) = _
  simp only [ab_copy, h1, h2, ar_len, iN_cl hk, iN_cl (k := 0) (by decide)]
  rw [if_neg (by
    intro hh
    rcases hh with hh | hh | hh | hh | hh | hh
    · exact iN_nn hk hh
    · exact iN_nn (k := 0) (by decide) hh
    · exact iN_nn (k := 0) (by decide) hh
    · omega
    · omega
    · omega)]
  have e : List.take 0 (ar i2 g) ++ (List.take n (List.drop 0 (ar i f)) ++ List.drop (0 + n) (ar i2 g)) = ar i2 fun j => if j < n then f j else g j := by
    apply List.ext_getElem?
    intro y
    rw [List.take_zero, List.nil_append, List.drop_zero, Nat.zero_add]
    by_cases hy : y < i2
    · rw [ar_get _ hy]
      by_cases hy2 : y < n
      · rw [List.getElem?_append_left (by rw [List.length_take, ar_len]; omega), List.getElem?_take, if_pos hy2, ar_get f (by omega), if_pos hy2]
      · rw [List.getElem?_append_right (by rw [List.length_take, ar_len]; omega), List.length_take, ar_len, List.getElem?_drop, if_neg hy2]
        have : n + (y - min n i) = y := by omega
        rw [this, ar_get g hy]
    · have q1 : (ar i2 fun j => if j < n then f j else g j)[y]? = none := List.getElem?_eq_none (by rw [ar_len]; omega)
      rw [q1]
      exact List.getElem?_eq_none (by rw [List.length_append, List.length_take, List.length_drop, ar_len, ar_len]; omega)
  rw [e]
theorem xr_1 {v : Nat} : rt xs d m hs t ((.aload_n 0, q) :: r) ((.ref v) :: L, st, h) = rt xs d m hs t r ((.ref v) :: L, .ref v :: st, h) := rt_s rfl
theorem xr_2 : rt xs d m hs t ((.aload_n 0, q) :: r) (.null :: L, st, h) = rt xs d m hs t r (.null :: L, .null :: st, h) := rt_s rfl
theorem xr_3 : rt xs d m hs t ((.aload_n 0, q) :: r) ((.retAddr 1) :: L, st, h) = rt xs d m hs t r ((.retAddr 1) :: L, .retAddr 1 :: st, h) := rt_s rfl
theorem xr_4 : rt xs d m hs t ((.aload_n 0, q) :: r) ((.retAddr 8) :: L, st, h) = rt xs d m hs t r ((.retAddr 8) :: L, .retAddr 8 :: st, h) := rt_s rfl
theorem xr_5 : rt xs d m hs t ((.aload_n 0, q) :: r) ((.retAddr 0) :: L, st, h) = rt xs d m hs t r ((.retAddr 0) :: L, .retAddr 0 :: st, h) := rt_s rfl
theorem xr_6 {v : Nat} {j : _} (h8 : st8 st = true) : rt xs d m hs t ((.invokespecial j, q) :: r) (L, .ref v :: st, h) = rt xs d m hs t r (L, st, h) := by
  apply rt_s
  show (if (st.map fun v => v.category).sum ≤ 8 then some _ else none) = _
  rw [if_pos (st8_le h8)]
theorem xr_7 {n w : Nat} {j : _} : rt xs d m hs t ((.new j, (n, 9, w)) :: r) (L, st, h) = rt xs d m hs t r (L, .ref h.length :: st, h ++ [.inl (9, ab_def 9)]) := rt_s rfl
theorem xr_8 {v : Nat} : rt xs d m hs t ((.dup, q) :: r) (L, .ref v :: st, h) = rt xs d m hs t r (L, .ref v :: .ref v :: st, h) := rt_s rfl
theorem xr_9 {v : Int32} : rt xs d m hs t ((.dup, q) :: r) (L, .int v :: st, h) = rt xs d m hs t r (L, .int v :: .int v :: st, h) := rt_s rfl
theorem xr_10 : rt xs d m hs t ((.iconst 0, q) :: r) (L, st, h) = rt xs d m hs t r (L, .int (nI 0) :: st, h) := rt_s rfl
theorem xr_11 {x0 : Value} {v : Nat} : rt xs d m hs t ((.aload_n 1, q) :: r) (x0 :: (.ref v) :: L, st, h) = rt xs d m hs t r (x0 :: (.ref v) :: L, .ref v :: st, h) := rt_s rfl
theorem xr_12 {x0 : Value}  : rt xs d m hs t ((.aload_n 1, q) :: r) (x0 :: .null :: L, st, h) = rt xs d m hs t r (x0 :: .null :: L, .null :: st, h) := rt_s rfl
theorem xr_13 {x0 : Value}  : rt xs d m hs t ((.aload_n 1, q) :: r) (x0 :: (.retAddr 1) :: L, st, h) = rt xs d m hs t r (x0 :: (.retAddr 1) :: L, .retAddr 1 :: st, h) := rt_s rfl
theorem xr_14 {x0 : Value}  : rt xs d m hs t ((.aload_n 1, q) :: r) (x0 :: (.retAddr 8) :: L, st, h) = rt xs d m hs t r (x0 :: (.retAddr 8) :: L, .retAddr 8 :: st, h) := rt_s rfl
theorem xr_15 {x0 : Value}  : rt xs d m hs t ((.aload_n 1, q) :: r) (x0 :: (.retAddr 0) :: L, st, h) = rt xs d m hs t r (x0 :: (.retAddr 0) :: L, .retAddr 0 :: st, h) := rt_s rfl
theorem xr_16 {x0 x1 : Value} {v : Nat} : rt xs d m hs t ((.aload_n 2, q) :: r) (x0 :: x1 :: (.ref v) :: L, st, h) = rt xs d m hs t r (x0 :: x1 :: (.ref v) :: L, .ref v :: st, h) := rt_s rfl
theorem xr_17 {x0 x1 : Value}  : rt xs d m hs t ((.aload_n 2, q) :: r) (x0 :: x1 :: .null :: L, st, h) = rt xs d m hs t r (x0 :: x1 :: .null :: L, .null :: st, h) := rt_s rfl
theorem xr_18 {x0 x1 : Value}  : rt xs d m hs t ((.aload_n 2, q) :: r) (x0 :: x1 :: (.retAddr 1) :: L, st, h) = rt xs d m hs t r (x0 :: x1 :: (.retAddr 1) :: L, .retAddr 1 :: st, h) := rt_s rfl
theorem xr_19 {x0 x1 : Value}  : rt xs d m hs t ((.aload_n 2, q) :: r) (x0 :: x1 :: (.retAddr 8) :: L, st, h) = rt xs d m hs t r (x0 :: x1 :: (.retAddr 8) :: L, .retAddr 8 :: st, h) := rt_s rfl
theorem xr_20 {x0 x1 : Value}  : rt xs d m hs t ((.aload_n 2, q) :: r) (x0 :: x1 :: (.retAddr 0) :: L, st, h) = rt xs d m hs t r (x0 :: x1 :: (.retAddr 0) :: L, .retAddr 0 :: st, h) := rt_s rfl
theorem xr_21 {x0 x1 x2 : Value} {v : Nat} : rt xs d m hs t ((.aload_n 3, q) :: r) (x0 :: x1 :: x2 :: (.ref v) :: L, st, h) = rt xs d m hs t r (x0 :: x1 :: x2 :: (.ref v) :: L, .ref v :: st, h) := rt_s rfl
theorem xr_22 {x0 x1 x2 : Value}  : rt xs d m hs t ((.aload_n 3, q) :: r) (x0 :: x1 :: x2 :: .null :: L, st, h) = rt xs d m hs t r (x0 :: x1 :: x2 :: .null :: L, .null :: st, h) := rt_s rfl
theorem xr_23 {x0 x1 x2 : Value}  : rt xs d m hs t ((.aload_n 3, q) :: r) (x0 :: x1 :: x2 :: (.retAddr 1) :: L, st, h) = rt xs d m hs t r (x0 :: x1 :: x2 :: (.retAddr 1) :: L, .retAddr 1 :: st, h) := rt_s rfl
theorem xr_24 {x0 x1 x2 : Value}  : rt xs d m hs t ((.aload_n 3, q) :: r) (x0 :: x1 :: x2 :: (.retAddr 8) :: L, st, h) = rt xs d m hs t r (x0 :: x1 :: x2 :: (.retAddr 8) :: L, .retAddr 8 :: st, h) := rt_s rfl
theorem xr_25 {x0 x1 x2 : Value}  : rt xs d m hs t ((.aload_n 3, q) :: r) (x0 :: x1 :: x2 :: (.retAddr 0) :: L, st, h) = rt xs d m hs t r (x0 :: x1 :: x2 :: (.retAddr 0) :: L, .retAddr 0 :: st, h) := rt_s rfl
theorem xr_26 : rt xs d m hs t ((.sipush 3000, q) :: r) (L, st, h) = rt xs d m hs t r (L, .int (nI 3000) :: st, h) := rt_s rfl
theorem xr_27 : rt xs d m hs t ((.iconst 1, q) :: r) (L, st, h) = rt xs d m hs t r (L, .int (nI 1) :: st, h) := rt_s rfl
theorem xr_28 {x0 : Value} {v : Int32} : rt xs d m hs t ((.iload_n 1, q) :: r) (x0 :: (.int v) :: L, st, h) = rt xs d m hs t r (x0 :: (.int v) :: L, .int v :: st, h) := rt_s rfl
theorem xr_29 {x0 x1 : Value} {v : Int32} : rt xs d m hs t ((.istore_n 1, q) :: r) (x0 :: x1 :: L, .int v :: st, h) = rt xs d m hs t r (kl x0 :: .int v :: L, st, h) := by
  apply rt_s
  show ab_st ab_isI 1 (x0 :: x1 :: L, .int v :: st, h) = _
  simp only [ab_st]
  rw [if_pos ⟨rfl, by simp only [List.length_cons, Value.category]; omega⟩]
  cases x0 <;> rfl
theorem xr_30 {x0 x1 x2 : Value} {v : Int32} : rt xs d m hs t ((.istore_n 2, q) :: r) (x0 :: x1 :: x2 :: L, .int v :: st, h) = rt xs d m hs t r (x0 :: kl x1 :: .int v :: L, st, h) := by
  apply rt_s
  show ab_st ab_isI 2 (x0 :: x1 :: x2 :: L, .int v :: st, h) = _
  simp only [ab_st]
  rw [if_pos ⟨rfl, by simp only [List.length_cons, Value.category]; omega⟩]
  cases x1 <;> rfl
theorem xr_31 {x0 x1 : Value} {v : Int32} : rt xs d m hs t ((.iload_n 2, q) :: r) (x0 :: x1 :: (.int v) :: L, st, h) = rt xs d m hs t r (x0 :: x1 :: (.int v) :: L, .int v :: st, h) := rt_s rfl
theorem xr_32 {x0 x1 x2 x3 : Value} {v : Int32} : rt xs d m hs t ((.istore_n 3, q) :: r) (x0 :: x1 :: x2 :: x3 :: L, .int v :: st, h) = rt xs d m hs t r (x0 :: x1 :: kl x2 :: .int v :: L, st, h) := by
  apply rt_s
  show ab_st ab_isI 3 (x0 :: x1 :: x2 :: x3 :: L, .int v :: st, h) = _
  simp only [ab_st]
  rw [if_pos ⟨rfl, by simp only [List.length_cons, Value.category]; omega⟩]
  cases x2 <;> rfl
theorem xr_33 {x0 x1 x2 x3 x4 : Value} {v : Int32} : rt xs d m hs t ((.istore 4, q) :: r) (x0 :: x1 :: x2 :: x3 :: x4 :: L, .int v :: st, h) = rt xs d m hs t r (x0 :: x1 :: x2 :: kl x3 :: .int v :: L, st, h) := by
  apply rt_s
  show ab_st ab_isI 4 (x0 :: x1 :: x2 :: x3 :: x4 :: L, .int v :: st, h) = _
  simp only [ab_st]
  rw [if_pos ⟨rfl, by simp only [List.length_cons, Value.category]; omega⟩]
  cases x3 <;> rfl
theorem xr_34 {x0 x1 x2 x3 : Value} {v : Int32} : rt xs d m hs t ((.iload 4, q) :: r) (x0 :: x1 :: x2 :: x3 :: (.int v) :: L, st, h) = rt xs d m hs t r (x0 :: x1 :: x2 :: x3 :: (.int v) :: L, .int v :: st, h) := rt_s rfl
theorem xr_35 {x0 x1 x2 x3 x4 x5 : Value} {v : Int32} : rt xs d m hs t ((.istore 5, q) :: r) (x0 :: x1 :: x2 :: x3 :: x4 :: x5 :: L, .int v :: st, h) = rt xs d m hs t r (x0 :: x1 :: x2 :: x3 :: kl x4 :: .int v :: L, st, h) := by
  apply rt_s
  show ab_st ab_isI 5 (x0 :: x1 :: x2 :: x3 :: x4 :: x5 :: L, .int v :: st, h) = _
  simp only [ab_st]
  rw [if_pos ⟨rfl, by simp only [List.length_cons, Value.category]; omega⟩]
  cases x4 <;> rfl
theorem xr_36 {x0 x1 x2 x3 x4 : Value} {v : Int32} : rt xs d m hs t ((.iload 5, q) :: r) (x0 :: x1 :: x2 :: x3 :: x4 :: (.int v) :: L, st, h) = rt xs d m hs t r (x0 :: x1 :: x2 :: x3 :: x4 :: (.int v) :: L, .int v :: st, h) := rt_s rfl
theorem xr_37 {x0 x1 x2 : Value} {v : Int32} : rt xs d m hs t ((.iload_n 3, q) :: r) (x0 :: x1 :: x2 :: (.int v) :: L, st, h) = rt xs d m hs t r (x0 :: x1 :: x2 :: (.int v) :: L, .int v :: st, h) := rt_s rfl
theorem xr_38 {u v : Int32} : rt xs d m hs t ((.iadd, q) :: r) (L, .int v :: .int u :: st, h) = rt xs d m hs t r (L, .int (u + v) :: st, h) := rt_s rfl
theorem xr_39 {x0 x1 x2 x3 x4 : Value} {v : Int32} : rt xs d m hs t ((.iinc 5 1, q) :: r) (x0 :: x1 :: x2 :: x3 :: x4 :: .int v :: L, st, h) = rt xs d m hs t r (x0 :: x1 :: x2 :: x3 :: kl x4 :: .int (v + nI 1) :: L, st, h) := by
  apply rt_s
  show some (ab_sto _ _ (.int (v + Int32.ofInt 1)), _) = _
  rw [show v + Int32.ofInt 1 = v + nI 1 from rfl]
  cases x4 <;> rfl
theorem xr_40 {x0 x1 x2 x3 : Value} {v : Int32} : rt xs d m hs t ((.iinc 4 1, q) :: r) (x0 :: x1 :: x2 :: x3 :: .int v :: L, st, h) = rt xs d m hs t r (x0 :: x1 :: x2 :: kl x3 :: .int (v + nI 1) :: L, st, h) := by
  apply rt_s
  show some (ab_sto _ _ (.int (v + Int32.ofInt 1)), _) = _
  rw [show v + Int32.ofInt 1 = v + nI 1 from rfl]
  cases x3 <;> rfl
theorem xr_41 {u v : Int32} : rt xs d m hs t ((.imul, q) :: r) (L, .int v :: .int u :: st, h) = rt xs d m hs t r (L, .int (u * v) :: st, h) := rt_s rfl
theorem xr_42 {x0 x1 : Value} {v : Int32} : rt xs d m hs t ((.iinc 2 1, q) :: r) (x0 :: x1 :: .int v :: L, st, h) = rt xs d m hs t r (x0 :: kl x1 :: .int (v + nI 1) :: L, st, h) := by
  apply rt_s
  show some (ab_sto _ _ (.int (v + Int32.ofInt 1)), _) = _
  rw [show v + Int32.ofInt 1 = v + nI 1 from rfl]
  cases x1 <;> rfl
theorem xr_43 {x0 x1 x2 : Value} {v : Int32} : rt xs d m hs t ((.iinc 3 1, q) :: r) (x0 :: x1 :: x2 :: .int v :: L, st, h) = rt xs d m hs t r (x0 :: x1 :: kl x2 :: .int (v + nI 1) :: L, st, h) := by
  apply rt_s
  show some (ab_sto _ _ (.int (v + Int32.ofInt 1)), _) = _
  rw [show v + Int32.ofInt 1 = v + nI 1 from rfl]
  cases x2 <;> rfl
theorem xr_44 {u v : Int32} : rt xs d m hs t ((.iand, q) :: r) (L, .int v :: .int u :: st, h) = rt xs d m hs t r (L, .int (u &&& v) :: st, h) := rt_s rfl
theorem xr_46 {n w : Nat} {j : _} {u v : Int32} (h8 : st8 st = true) : rt xs d m hs t ((.invokestatic j, (n, 2, w)) :: r) (L, .int v :: .int u :: st, h) = rt xs d m hs t r (L, .int (if v < u then v else u) :: st, h) := by
  apply rt_s
  show (if (st.map fun v => v.category).sum ≤ 8 then some _ else none) = _
  rw [if_pos (st8_le h8)]
theorem xr_47 {n w : Nat} {j : _} {u v : Nat} (hu : u < 2147483648) (hv : v < 2147483648) (h8 : st8 st = true) : rt xs d m hs t ((.invokestatic j, n, 2, w) :: r) (L, .int (nI v) :: .int (nI u) :: st, h) = rt xs d m hs t r (L, .int (nI (min u v)) :: st, h) := by
  rw [xr_46 h8, iN_min hu hv]
theorem xr_48 : rt xs d m hs t ((.bipush 6, q) :: r) (L, st, h) = rt xs d m hs t r (L, .int (nI 6) :: st, h) := rt_s rfl
theorem xr_49 {n : Nat} (hn : n ≤ 100000) : rt xs d m hs t ((.newarray .int, q) :: r) (L, .int (nI n) :: st, h) = rt xs d m hs t r (L, .ref h.length :: st, h ++ [oI (ar n fun _ => 0)]) := by
  apply rt_s
  show ab_newa (fun n => oI (List.replicate n 0)) (L, .int (nI n) :: st, h) = _
  simp only [ab_newa]
  rw [if_neg, iN_cl (by omega)]
  · rw [ar_zero]
  rw [iN_cl (by omega)]
  intro hh
  rcases hh with hh | hh
  · exact iN_nn (by omega) hh
  · omega
theorem xr_52 {n : Nat} (hn : n ≤ 100000) : rt xs d m hs t ((.newarray .byte, q) :: r) (L, .int (nI n) :: st, h) = rt xs d m hs t r (L, .ref h.length :: st, h ++ [oB (ar n fun _ => 0)]) := by
  apply rt_s
  show ab_newa (fun n => oB (List.replicate n 0)) (L, .int (nI n) :: st, h) = _
  simp only [ab_newa]
  rw [if_neg, iN_cl (by omega)]
  · rw [ar_zero]
  rw [iN_cl (by omega)]
  intro hh
  rcases hh with hh | hh
  · exact iN_nn (by omega) hh
  · omega
theorem xr_53 {v : Int32} : rt xs d m hs t ((.pop, q) :: r) (L, .int v :: st, h) = rt xs d m hs t r (L, st, h) := rt_s rfl
theorem xr_54 {v : Nat} : rt xs d m hs t ((.pop, q) :: r) (L, .ref v :: st, h) = rt xs d m hs t r (L, st, h) := rt_s rfl
theorem xr_55 {u v : Int32} : rt xs d m hs t ((.ishr, q) :: r) (L, .int v :: .int u :: st, h) = rt xs d m hs t r (L, .int (u >>> (v &&& 31)) :: st, h) := rt_s rfl
theorem xr_56 {x0 x1 x2 x3 x4 x5 x6 : Value} {v : Int32} : rt xs d m hs t ((.istore 6, q) :: r) (x0 :: x1 :: x2 :: x3 :: x4 :: x5 :: x6 :: L, .int v :: st, h) = rt xs d m hs t r (x0 :: x1 :: x2 :: x3 :: x4 :: kl x5 :: .int v :: L, st, h) := by
  apply rt_s
  show ab_st ab_isI 6 (x0 :: x1 :: x2 :: x3 :: x4 :: x5 :: x6 :: L, .int v :: st, h) = _
  simp only [ab_st]
  rw [if_pos ⟨rfl, by simp only [List.length_cons, Value.category]; omega⟩]
  cases x5 <;> rfl
theorem xr_57 {x0 x1 x2 x3 x4 x5 : Value} {v : Int32} : rt xs d m hs t ((.iload 6, q) :: r) (x0 :: x1 :: x2 :: x3 :: x4 :: x5 :: (.int v) :: L, st, h) = rt xs d m hs t r (x0 :: x1 :: x2 :: x3 :: x4 :: x5 :: (.int v) :: L, .int v :: st, h) := rt_s rfl
theorem xr_58 {u v : Int32} : rt xs d m hs t ((.ishl, q) :: r) (L, .int v :: .int u :: st, h) = rt xs d m hs t r (L, .int (u <<< (v &&& 31)) :: st, h) := rt_s rfl
theorem xr_45 {u v : Int32} : rt xs d m hs t ((.ior, q) :: r) (L, .int v :: .int u :: st, h) = rt xs d m hs t r (L, .int (u ||| v) :: st, h) := rt_s rfl
theorem xr_59 {n w : Nat} {j : _} {u v : Int32} (h8 : st8 st = true) : rt xs d m hs t ((.invokestatic j, (n, 1, w)) :: r) (L, .int v :: .int u :: st, h) = rt xs d m hs t r (L, .int (if u < v then v else u) :: st, h) := by
  apply rt_s
  show (if (st.map fun v => v.category).sum ≤ 8 then some _ else none) = _
  rw [if_pos (st8_le h8)]
theorem xr_60 {n w : Nat} {j : _} {u v : Nat} (hu : u < 2147483648) (hv : v < 2147483648) (h8 : st8 st = true) : rt xs d m hs t ((.invokestatic j, n, 1, w) :: r) (L, .int (nI v) :: .int (nI u) :: st, h) = rt xs d m hs t r (L, .int (nI (max u v)) :: st, h) := by
  rw [xr_59 h8, iN_max hu hv]
theorem xr_65 : rt xs d m hs t ((.iconst 2, q) :: r) (L, st, h) = rt xs d m hs t r (L, .int (nI 2) :: st, h) := rt_s rfl
theorem xr_66 : rt xs d m hs t ((.iconst 5, q) :: r) (L, st, h) = rt xs d m hs t r (L, .int (nI 5) :: st, h) := rt_s rfl
theorem xr_67 : rt xs d m hs t ((.iconst 4, q) :: r) (L, st, h) = rt xs d m hs t r (L, .int (nI 4) :: st, h) := rt_s rfl
theorem xr_68 : rt xs d m hs t ((.sipush 216, q) :: r) (L, st, h) = rt xs d m hs t r (L, .int (nI 216) :: st, h) := rt_s rfl
theorem xr_69 : rt xs d m hs t ((.bipush 36, q) :: r) (L, st, h) = rt xs d m hs t r (L, .int (nI 36) :: st, h) := rt_s rfl
theorem xr_70 : rt xs d m hs t ((.bipush 108, q) :: r) (L, st, h) = rt xs d m hs t r (L, .int (nI 108) :: st, h) := rt_s rfl
theorem xr_64 : rt xs d m hs t ((.iconst (-1), q) :: r) (L, st, h) = rt xs d m hs t r (L, .int (nI 4294967295) :: st, h) := rt_s rfl
theorem xr_71 : rt xs d m hs t ((.iconst 3, q) :: r) (L, st, h) = rt xs d m hs t r (L, .int (nI 3) :: st, h) := rt_s rfl
theorem xr_72 {v : Int32} : rt xs d m hs t ((.iload_n 0, q) :: r) ((.int v) :: L, st, h) = rt xs d m hs t r ((.int v) :: L, .int v :: st, h) := rt_s rfl
theorem xr_73 {x0 : Value} {v : Int32} : rt xs d m hs t ((.iinc 1 1, q) :: r) (x0 :: .int v :: L, st, h) = rt xs d m hs t r (kl x0 :: .int (v + nI 1) :: L, st, h) := by
  apply rt_s
  show some (ab_sto _ _ (.int (v + Int32.ofInt 1)), _) = _
  rw [show v + Int32.ofInt 1 = v + nI 1 from rfl]
  cases x0 <;> rfl
theorem xr_74 {v : Int32} {u : Nat} : rt xs d m hs t ((.dup2, q) :: r) (L, .int v :: .ref u :: st, h) = rt xs d m hs t r (L, .int v :: .ref u :: .int v :: .ref u :: st, h) := rt_s rfl
theorem xr_75 {u v : Int32} : rt xs d m hs t ((.ixor, q) :: r) (L, .int v :: .int u :: st, h) = rt xs d m hs t r (L, .int (u ^^^ v) :: st, h) := rt_s rfl
theorem xr_89 {n w : Nat} {j : _} : rt xs d m hs t ((.ldc j, (n, 100000, w)) :: r) (L, st, h) = rt xs d m hs t r (L, .int (nI 100000) :: st, h) := rt_s rfl
theorem xr_77 {u v : Int32} : rt xs d m hs t ((.isub, q) :: r) (L, .int v :: .int u :: st, h) = rt xs d m hs t r (L, .int (u - v) :: st, h) := rt_s rfl
theorem xr_78 : rt xs d m hs t ((.sipush 252, q) :: r) (L, st, h) = rt xs d m hs t r (L, .int (nI 252) :: st, h) := rt_s rfl
theorem xr_79 : rt xs d m hs t ((.bipush 64, q) :: r) (L, st, h) = rt xs d m hs t r (L, .int (nI 64) :: st, h) := rt_s rfl
theorem xr_80 {x0 x1 x2 x3 : Value} {v : Nat} : rt xs d m hs t ((.aload 4, q) :: r) (x0 :: x1 :: x2 :: x3 :: (.ref v) :: L, st, h) = rt xs d m hs t r (x0 :: x1 :: x2 :: x3 :: (.ref v) :: L, .ref v :: st, h) := rt_s rfl
theorem xr_81 {x0 x1 x2 x3 : Value}  : rt xs d m hs t ((.aload 4, q) :: r) (x0 :: x1 :: x2 :: x3 :: .null :: L, st, h) = rt xs d m hs t r (x0 :: x1 :: x2 :: x3 :: .null :: L, .null :: st, h) := rt_s rfl
theorem xr_82 {x0 x1 x2 x3 : Value}  : rt xs d m hs t ((.aload 4, q) :: r) (x0 :: x1 :: x2 :: x3 :: (.retAddr 1) :: L, st, h) = rt xs d m hs t r (x0 :: x1 :: x2 :: x3 :: (.retAddr 1) :: L, .retAddr 1 :: st, h) := rt_s rfl
theorem xr_83 {x0 x1 x2 x3 : Value}  : rt xs d m hs t ((.aload 4, q) :: r) (x0 :: x1 :: x2 :: x3 :: (.retAddr 8) :: L, st, h) = rt xs d m hs t r (x0 :: x1 :: x2 :: x3 :: (.retAddr 8) :: L, .retAddr 8 :: st, h) := rt_s rfl
theorem xr_84 {x0 x1 x2 x3 : Value}  : rt xs d m hs t ((.aload 4, q) :: r) (x0 :: x1 :: x2 :: x3 :: (.retAddr 0) :: L, st, h) = rt xs d m hs t r (x0 :: x1 :: x2 :: x3 :: (.retAddr 0) :: L, .retAddr 0 :: st, h) := rt_s rfl
theorem xr_85 {x0 x1 x2 x3 : Value} {v : Int32} : rt xs d m hs t ((.iinc 4 (-1), q) :: r) (x0 :: x1 :: x2 :: x3 :: .int v :: L, st, h) = rt xs d m hs t r (x0 :: x1 :: x2 :: kl x3 :: .int (v - nI 1) :: L, st, h) := by
  apply rt_s
  show some (ab_sto _ _ (.int (v + Int32.ofInt (-1))), _) = _
  rw [show v + Int32.ofInt (-1) = v - nI 1 from by rw [Int32.sub_eq_add_neg]; rfl]
  cases x3 <;> rfl
theorem xr_86 : rt xs d m hs t ((.bipush 10, q) :: r) (L, st, h) = rt xs d m hs t r (L, .int (nI 10) :: st, h) := rt_s rfl
theorem xr_87 : rt xs d m hs t ((.bipush 7, q) :: r) (L, st, h) = rt xs d m hs t r (L, .int (nI 7) :: st, h) := rt_s rfl
theorem xr_88 : rt xs d m hs t ((.bipush 42, q) :: r) (L, st, h) = rt xs d m hs t r (L, .int (nI 42) :: st, h) := rt_s rfl
theorem xr_90 {x0 x1 : Value} {v : Int32} : rt xs d m hs t ((.iinc 2 (-1), q) :: r) (x0 :: x1 :: .int v :: L, st, h) = rt xs d m hs t r (x0 :: kl x1 :: .int (v - nI 1) :: L, st, h) := by
  apply rt_s
  show some (ab_sto _ _ (.int (v + Int32.ofInt (-1))), _) = _
  rw [show v + Int32.ofInt (-1) = v - nI 1 from by rw [Int32.sub_eq_add_neg]; rfl]
  cases x1 <;> rfl
theorem xr_63 {x0 x1 x2 x3 x4 x5 : Value} {v : Int32} : rt xs d m hs t ((.iinc 6 1, q) :: r) (x0 :: x1 :: x2 :: x3 :: x4 :: x5 :: .int v :: L, st, h) = rt xs d m hs t r (x0 :: x1 :: x2 :: x3 :: x4 :: kl x5 :: .int (v + nI 1) :: L, st, h) := by
  apply rt_s
  show some (ab_sto _ _ (.int (v + Int32.ofInt 1)), _) = _
  rw [show v + Int32.ofInt 1 = v + nI 1 from rfl]
  cases x5 <;> rfl
theorem xr_61 {x0 x1 x2 x3 x4 x5 x6 x7 : Value} {v : Int32} : rt xs d m hs t ((.istore 7, q) :: r) (x0 :: x1 :: x2 :: x3 :: x4 :: x5 :: x6 :: x7 :: L, .int v :: st, h) = rt xs d m hs t r (x0 :: x1 :: x2 :: x3 :: x4 :: x5 :: kl x6 :: .int v :: L, st, h) := by
  apply rt_s
  show ab_st ab_isI 7 (x0 :: x1 :: x2 :: x3 :: x4 :: x5 :: x6 :: x7 :: L, .int v :: st, h) = _
  simp only [ab_st]
  rw [if_pos ⟨rfl, by simp only [List.length_cons, Value.category]; omega⟩]
  cases x6 <;> rfl
theorem xr_62 {x0 x1 x2 x3 x4 x5 x6 : Value} {v : Int32} : rt xs d m hs t ((.iload 7, q) :: r) (x0 :: x1 :: x2 :: x3 :: x4 :: x5 :: x6 :: (.int v) :: L, st, h) = rt xs d m hs t r (x0 :: x1 :: x2 :: x3 :: x4 :: x5 :: x6 :: (.int v) :: L, .int v :: st, h) := rt_s rfl
theorem xr_91 {x0 x1 x2 x3 x4 x5 x6 x7 x8 : Value} {v : Int32} : rt xs d m hs t ((.istore 8, q) :: r) (x0 :: x1 :: x2 :: x3 :: x4 :: x5 :: x6 :: x7 :: x8 :: L, .int v :: st, h) = rt xs d m hs t r (x0 :: x1 :: x2 :: x3 :: x4 :: x5 :: x6 :: kl x7 :: .int v :: L, st, h) := by
  apply rt_s
  show ab_st ab_isI 8 (x0 :: x1 :: x2 :: x3 :: x4 :: x5 :: x6 :: x7 :: x8 :: L, .int v :: st, h) = _
  simp only [ab_st]
  rw [if_pos ⟨rfl, by simp only [List.length_cons, Value.category]; omega⟩]
  cases x7 <;> rfl
theorem xr_92 {x0 x1 x2 x3 x4 x5 x6 x7 x8 x9 : Value} {v : Int32} : rt xs d m hs t ((.istore 9, q) :: r) (x0 :: x1 :: x2 :: x3 :: x4 :: x5 :: x6 :: x7 :: x8 :: x9 :: L, .int v :: st, h) = rt xs d m hs t r (x0 :: x1 :: x2 :: x3 :: x4 :: x5 :: x6 :: x7 :: kl x8 :: .int v :: L, st, h) := by
  apply rt_s
  show ab_st ab_isI 9 (x0 :: x1 :: x2 :: x3 :: x4 :: x5 :: x6 :: x7 :: x8 :: x9 :: L, .int v :: st, h) = _
  simp only [ab_st]
  rw [if_pos ⟨rfl, by simp only [List.length_cons, Value.category]; omega⟩]
  cases x8 <;> rfl
theorem xr_93 {x0 x1 x2 x3 x4 x5 x6 x7 x8 x9 x10 : Value} {v : Int32} : rt xs d m hs t ((.istore 10, q) :: r) (x0 :: x1 :: x2 :: x3 :: x4 :: x5 :: x6 :: x7 :: x8 :: x9 :: x10 :: L, .int v :: st, h) = rt xs d m hs t r (x0 :: x1 :: x2 :: x3 :: x4 :: x5 :: x6 :: x7 :: x8 :: kl x9 :: .int v :: L, st, h) := by
  apply rt_s
  show ab_st ab_isI 10 (x0 :: x1 :: x2 :: x3 :: x4 :: x5 :: x6 :: x7 :: x8 :: x9 :: x10 :: L, .int v :: st, h) = _
  simp only [ab_st]
  rw [if_pos ⟨rfl, by simp only [List.length_cons, Value.category]; omega⟩]
  cases x9 <;> rfl
theorem xr_94 {x0 x1 x2 x3 x4 x5 x6 x7 x8 x9 : Value} {v : Int32} : rt xs d m hs t ((.iload 10, q) :: r) (x0 :: x1 :: x2 :: x3 :: x4 :: x5 :: x6 :: x7 :: x8 :: x9 :: (.int v) :: L, st, h) = rt xs d m hs t r (x0 :: x1 :: x2 :: x3 :: x4 :: x5 :: x6 :: x7 :: x8 :: x9 :: (.int v) :: L, .int v :: st, h) := rt_s rfl
theorem xr_95 {x0 x1 x2 x3 x4 x5 x6 x7 x8 : Value} {v : Int32} : rt xs d m hs t ((.iload 9, q) :: r) (x0 :: x1 :: x2 :: x3 :: x4 :: x5 :: x6 :: x7 :: x8 :: (.int v) :: L, st, h) = rt xs d m hs t r (x0 :: x1 :: x2 :: x3 :: x4 :: x5 :: x6 :: x7 :: x8 :: (.int v) :: L, .int v :: st, h) := rt_s rfl
theorem xr_96 {x0 x1 x2 x3 x4 x5 x6 x7 : Value} {v : Int32} : rt xs d m hs t ((.iload 8, q) :: r) (x0 :: x1 :: x2 :: x3 :: x4 :: x5 :: x6 :: x7 :: (.int v) :: L, st, h) = rt xs d m hs t r (x0 :: x1 :: x2 :: x3 :: x4 :: x5 :: x6 :: x7 :: (.int v) :: L, .int v :: st, h) := rt_s rfl
theorem xr_97 {x0 x1 x2 x3 x4 x5 x6 x7 x8 x9 : Value} {v : Int32} : rt xs d m hs t ((.iinc 10 1, q) :: r) (x0 :: x1 :: x2 :: x3 :: x4 :: x5 :: x6 :: x7 :: x8 :: x9 :: .int v :: L, st, h) = rt xs d m hs t r (x0 :: x1 :: x2 :: x3 :: x4 :: x5 :: x6 :: x7 :: x8 :: kl x9 :: .int (v + nI 1) :: L, st, h) := by
  apply rt_s
  show some (ab_sto _ _ (.int (v + Int32.ofInt 1)), _) = _
  rw [show v + Int32.ofInt 1 = v + nI 1 from rfl]
  cases x9 <;> rfl
theorem xr_98 {x0 x1 x2 x3 x4 x5 x6 : Value} {v : Int32} : rt xs d m hs t ((.iinc 7 1, q) :: r) (x0 :: x1 :: x2 :: x3 :: x4 :: x5 :: x6 :: .int v :: L, st, h) = rt xs d m hs t r (x0 :: x1 :: x2 :: x3 :: x4 :: x5 :: kl x6 :: .int (v + nI 1) :: L, st, h) := by
  apply rt_s
  show some (ab_sto _ _ (.int (v + Int32.ofInt 1)), _) = _
  rw [show v + Int32.ofInt 1 = v + nI 1 from rfl]
  cases x6 <;> rfl
theorem xr_99 {j : _} : rt xs d m hs t ((.getstatic j, q) :: r) (L, st, h) = rt xs d m hs t r (L, .retAddr 0 :: st, h) := rt_s rfl
theorem xr_100 {n w : Nat} {j : _} : rt xs d m hs t ((.new j, (n, 6, w)) :: r) (L, st, h) = rt xs d m hs t r (L, .ref h.length :: st, h ++ [.inl (6, ab_def 6)]) := rt_s rfl
theorem xr_101 {n w : Nat} {j : _} : rt xs d m hs t ((.new j, (n, 2, w)) :: r) (L, st, h) = rt xs d m hs t r (L, .ref h.length :: st, h ++ [.inl (2, ab_def 2)]) := rt_s rfl
theorem xr_102 {n w : Nat} {j : _} : rt xs d m hs t ((.new j, (n, 3, w)) :: r) (L, st, h) = rt xs d m hs t r (L, .ref h.length :: st, h ++ [.inl (3, ab_def 3)]) := rt_s rfl
theorem xr_103 {n w : Nat} {j : _} : rt xs d m hs t ((.new j, (n, 7, w)) :: r) (L, st, h) = rt xs d m hs t r (L, .ref h.length :: st, h ++ [.inl (7, ab_def 7)]) := rt_s rfl
theorem xr_104 {n w : Nat} {j : _} : rt xs d m hs t ((.new j, (n, 10, w)) :: r) (L, st, h) = rt xs d m hs t r (L, .ref h.length :: st, h ++ [.inl (10, ab_def 10)]) := rt_s rfl
theorem xr_105 {n w : Nat} {j : _} : rt xs d m hs t ((.new j, (n, 5, w)) :: r) (L, st, h) = rt xs d m hs t r (L, .ref h.length :: st, h ++ [.inl (5, ab_def 5)]) := rt_s rfl
theorem xr_106 {n w : Nat} {j : _} : rt xs d m hs t ((.new j, (n, 8, w)) :: r) (L, st, h) = rt xs d m hs t r (L, .ref h.length :: st, h ++ [.inl (8, ab_def 8)]) := rt_s rfl
theorem xr_107 {n w : Nat} {j : _} : rt xs d m hs t ((.new j, (n, 4, w)) :: r) (L, st, h) = rt xs d m hs t r (L, .ref h.length :: st, h ++ [.inl (4, ab_def 4)]) := rt_s rfl
theorem xr_108 {n w : Nat} {j : _} : rt xs d m hs t ((.new j, (n, 1, w)) :: r) (L, st, h) = rt xs d m hs t r (L, .ref h.length :: st, h ++ [.inl (1, ab_def 1)]) := rt_s rfl
theorem xr_109 {n w : Nat} {j : _} : rt xs d m hs t ((.new j, (n, 0, w)) :: r) (L, st, h) = rt xs d m hs t r (L, .ref h.length :: st, h ++ [.inl (0, ab_def 0)]) := rt_s rfl
theorem xr_110 : rt xs d m hs t ((.bipush 99, q) :: r) (L, st, h) = rt xs d m hs t r (L, .int (nI 99) :: st, h) := rt_s rfl
theorem xr_114 : rt xs d m hs t ((.bipush 9, q) :: r) (L, st, h) = rt xs d m hs t r (L, .int (nI 9) :: st, h) := rt_s rfl
theorem xr_128 {n w : Nat} {j : _} : rt xs d m hs t ((.ldc_w j, (n, 100000, w)) :: r) (L, st, h) = rt xs d m hs t r (L, .int (nI 100000) :: st, h) := rt_s rfl
theorem xr_223 {u v : Int32} : rt xs d m hs t ((.iushr, q) :: r) (L, .int v :: .int u :: st, h) = rt xs d m hs t r (L, .int ((u.toUInt32 >>> (v.toUInt32 &&& Int32.toUInt32 31)).toInt32) :: st, h) := rt_s rfl
theorem xr_224 {n w : Nat} {j : _} : rt xs d m hs t ((.ldc_w j, (n, 1431655765, w)) :: r) (L, st, h) = rt xs d m hs t r (L, .int (nI 1431655765) :: st, h) := rt_s rfl
theorem xr_225 {x0 : Value} {v : Int32} : rt xs d m hs t ((.istore_n 0, q) :: r) (x0 :: L, .int v :: st, h) = rt xs d m hs t r (.int v :: L, st, h) := by
  apply rt_s
  show ab_st ab_isI 0 (x0 :: L, .int v :: st, h) = _
  simp only [ab_st]
  rw [if_pos ⟨rfl, by simp only [List.length_cons, Value.category]; omega⟩]
  rfl
theorem xr_226 {n w : Nat} {j : _} : rt xs d m hs t ((.ldc_w j, (n, 858993459, w)) :: r) (L, st, h) = rt xs d m hs t r (L, .int (nI 858993459) :: st, h) := rt_s rfl
theorem xr_227 {n w : Nat} {j : _} : rt xs d m hs t ((.ldc_w j, (n, 252645135, w)) :: r) (L, st, h) = rt xs d m hs t r (L, .int (nI 252645135) :: st, h) := rt_s rfl
theorem xr_228 : rt xs d m hs t ((.bipush 8, q) :: r) (L, st, h) = rt xs d m hs t r (L, .int (nI 8) :: st, h) := rt_s rfl
theorem xr_229 : rt xs d m hs t ((.bipush 16, q) :: r) (L, st, h) = rt xs d m hs t r (L, .int (nI 16) :: st, h) := rt_s rfl
theorem xr_230 : rt xs d m hs t ((.bipush 63, q) :: r) (L, st, h) = rt xs d m hs t r (L, .int (nI 63) :: st, h) := rt_s rfl
theorem xr_241 : rt xs d m hs t ((.bipush 32, q) :: r) (L, st, h) = rt xs d m hs t r (L, .int (nI 32) :: st, h) := rt_s rfl
theorem xr_242 : rt xs d m hs t ((.bipush 31, q) :: r) (L, st, h) = rt xs d m hs t r (L, .int (nI 31) :: st, h) := rt_s rfl
theorem xr_243 {n w : Nat} {j : _} : rt xs d m hs t ((.ldc_w j, (n, 65536, w)) :: r) (L, st, h) = rt xs d m hs t r (L, .int (nI 65536) :: st, h) := rt_s rfl
theorem xr_244 {x0 : Value} {v : Int32} : rt xs d m hs t ((.iinc 1 (-16), q) :: r) (x0 :: .int v :: L, st, h) = rt xs d m hs t r (kl x0 :: .int (v - nI 16) :: L, st, h) := by
  apply rt_s
  show some (ab_sto _ _ (.int (v + Int32.ofInt (-16))), _) = _
  rw [show v + Int32.ofInt (-16) = v - nI 16 from by rw [Int32.sub_eq_add_neg]; rfl]
  cases x0 <;> rfl
theorem xr_245 : rt xs d m hs t ((.sipush 256, q) :: r) (L, st, h) = rt xs d m hs t r (L, .int (nI 256) :: st, h) := rt_s rfl
theorem xr_246 {x0 : Value} {v : Int32} : rt xs d m hs t ((.iinc 1 (-8), q) :: r) (x0 :: .int v :: L, st, h) = rt xs d m hs t r (kl x0 :: .int (v - nI 8) :: L, st, h) := by
  apply rt_s
  show some (ab_sto _ _ (.int (v + Int32.ofInt (-8))), _) = _
  rw [show v + Int32.ofInt (-8) = v - nI 8 from by rw [Int32.sub_eq_add_neg]; rfl]
  cases x0 <;> rfl
theorem xr_247 {x0 : Value} {v : Int32} : rt xs d m hs t ((.iinc 1 (-4), q) :: r) (x0 :: .int v :: L, st, h) = rt xs d m hs t r (kl x0 :: .int (v - nI 4) :: L, st, h) := by
  apply rt_s
  show some (ab_sto _ _ (.int (v + Int32.ofInt (-4))), _) = _
  rw [show v + Int32.ofInt (-4) = v - nI 4 from by rw [Int32.sub_eq_add_neg]; rfl]
  cases x0 <;> rfl
theorem xr_248 {x0 : Value} {v : Int32} : rt xs d m hs t ((.iinc 1 (-2), q) :: r) (x0 :: .int v :: L, st, h) = rt xs d m hs t r (kl x0 :: .int (v - nI 2) :: L, st, h) := by
  apply rt_s
  show some (ab_sto _ _ (.int (v + Int32.ofInt (-2))), _) = _
  rw [show v + Int32.ofInt (-2) = v - nI 2 from by rw [Int32.sub_eq_add_neg]; rfl]
  cases x0 <;> rfl
theorem xr_249 : rt xs d m hs t ((.sipush 2000, q) :: r) (L, st, h) = rt xs d m hs t r (L, .int (nI 2000) :: st, h) := rt_s rfl
theorem xr_250 {j : _} {n : Nat} (hn : n ≤ 100000) : rt xs d m hs t ((.anewarray j, q) :: r) (L, .int (nI n) :: st, h) = rt xs d m hs t r (L, .ref h.length :: st, h ++ [oR (List.replicate n none)]) := by
  apply rt_s
  show ab_newa (fun n => oR (List.replicate n none)) (L, .int (nI n) :: st, h) = _
  simp only [ab_newa]
  rw [if_neg, iN_cl (by omega)]
  rw [iN_cl (by omega)]
  intro hh
  rcases hh with hh | hh
  · exact iN_nn (by omega) hh
  · omega
theorem xr_140 {u v : Int32} (hv : ¬ v = 0) : rt xs d m hs t ((.idiv, q) :: r) (L, .int v :: .int u :: st, h) = rt xs d m hs t r (L, .int (u / v) :: st, h) := by
  apply rt_s
  show Option.bind (if v = 0 then none else some (Value.int (u / v))) _ = _
  rw [if_neg hv]
  rfl
theorem xr_141 {u v : Nat} (hu : u < 2147483648) (hv : 0 < v) (hv2 : v < 2147483648) : rt xs d m hs t ((.idiv, q) :: r) (L, .int (nI v) :: .int (nI u) :: st, h) = rt xs d m hs t r (L, .int (nI (u / v)) :: st, h) := by
  rw [xr_140 (iN_n0 hv hv2), iN_div hu hv hv2]
theorem xr_142 {u v : Int32} (hv : ¬ v = 0) : rt xs d m hs t ((.irem, q) :: r) (L, .int v :: .int u :: st, h) = rt xs d m hs t r (L, .int (u - u / v * v) :: st, h) := by
  apply rt_s
  show Option.bind (if v = 0 then none else some (Value.int (u - u / v * v))) _ = _
  rw [if_neg hv]
  rfl
theorem xr_143 {u v : Nat} (hu : u < 2147483648) (hv : 0 < v) (hv2 : v < 2147483648) : rt xs d m hs t ((.irem, q) :: r) (L, .int (nI v) :: .int (nI u) :: st, h) = rt xs d m hs t r (L, .int (nI (u % v)) :: st, h) := by
  rw [xr_142 (iN_n0 hv hv2), iN_rem hu hv hv2]
theorem xr_135 {x0 x1 x2 : Value} {v : Nat} : rt xs d m hs t ((.astore_n 2, q) :: r) (x0 :: x1 :: x2 :: L, .ref v :: st, h) = rt xs d m hs t r (x0 :: kl x1 :: .ref v :: L, st, h) := by
  apply rt_s
  show ab_st ab_isA 2 (x0 :: x1 :: x2 :: L, .ref v :: st, h) = _
  simp only [ab_st]
  rw [if_pos ⟨rfl, by simp only [List.length_cons, Value.category]; omega⟩]
  cases x1 <;> rfl
theorem xr_136 {x0 x1 x2 : Value}  : rt xs d m hs t ((.astore_n 2, q) :: r) (x0 :: x1 :: x2 :: L, .null :: st, h) = rt xs d m hs t r (x0 :: kl x1 :: .null :: L, st, h) := by
  apply rt_s
  show ab_st ab_isA 2 (x0 :: x1 :: x2 :: L, .null :: st, h) = _
  simp only [ab_st]
  rw [if_pos ⟨rfl, by simp only [List.length_cons, Value.category]; omega⟩]
  cases x1 <;> rfl
theorem xr_137 {x0 x1 x2 : Value}  : rt xs d m hs t ((.astore_n 2, q) :: r) (x0 :: x1 :: x2 :: L, .retAddr 1 :: st, h) = rt xs d m hs t r (x0 :: kl x1 :: .retAddr 1 :: L, st, h) := by
  apply rt_s
  show ab_st ab_isA 2 (x0 :: x1 :: x2 :: L, .retAddr 1 :: st, h) = _
  simp only [ab_st]
  rw [if_pos ⟨rfl, by simp only [List.length_cons, Value.category]; omega⟩]
  cases x1 <;> rfl
theorem xr_138 {x0 x1 x2 : Value}  : rt xs d m hs t ((.astore_n 2, q) :: r) (x0 :: x1 :: x2 :: L, .retAddr 8 :: st, h) = rt xs d m hs t r (x0 :: kl x1 :: .retAddr 8 :: L, st, h) := by
  apply rt_s
  show ab_st ab_isA 2 (x0 :: x1 :: x2 :: L, .retAddr 8 :: st, h) = _
  simp only [ab_st]
  rw [if_pos ⟨rfl, by simp only [List.length_cons, Value.category]; omega⟩]
  cases x1 <;> rfl
theorem xr_139 {x0 x1 x2 : Value}  : rt xs d m hs t ((.astore_n 2, q) :: r) (x0 :: x1 :: x2 :: L, .retAddr 0 :: st, h) = rt xs d m hs t r (x0 :: kl x1 :: .retAddr 0 :: L, st, h) := by
  apply rt_s
  show ab_st ab_isA 2 (x0 :: x1 :: x2 :: L, .retAddr 0 :: st, h) = _
  simp only [ab_st]
  rw [if_pos ⟨rfl, by simp only [List.length_cons, Value.category]; omega⟩]
  cases x1 <;> rfl
theorem xr_251 {n w : Nat} {j : _} : rt xs d m hs t ((.ldc j, (n, 1103515245, w)) :: r) (L, st, h) = rt xs d m hs t r (L, .int (nI 1103515245) :: st, h) := rt_s rfl
theorem xr_252 : rt xs d m hs t ((.sipush 12345, q) :: r) (L, st, h) = rt xs d m hs t r (L, .int (nI 12345) :: st, h) := rt_s rfl
theorem xr_253 : rt xs d m hs t ((.bipush 20, q) :: r) (L, st, h) = rt xs d m hs t r (L, .int (nI 20) :: st, h) := rt_s rfl
theorem xr_185 {x0 x1 x2 x3 x4 x5 x6 : Value} {v : Nat} : rt xs d m hs t ((.astore 6, q) :: r) (x0 :: x1 :: x2 :: x3 :: x4 :: x5 :: x6 :: L, .ref v :: st, h) = rt xs d m hs t r (x0 :: x1 :: x2 :: x3 :: x4 :: kl x5 :: .ref v :: L, st, h) := by
  apply rt_s
  show ab_st ab_isA 6 (x0 :: x1 :: x2 :: x3 :: x4 :: x5 :: x6 :: L, .ref v :: st, h) = _
  simp only [ab_st]
  rw [if_pos ⟨rfl, by simp only [List.length_cons, Value.category]; omega⟩]
  cases x5 <;> rfl
theorem xr_186 {x0 x1 x2 x3 x4 x5 x6 : Value}  : rt xs d m hs t ((.astore 6, q) :: r) (x0 :: x1 :: x2 :: x3 :: x4 :: x5 :: x6 :: L, .null :: st, h) = rt xs d m hs t r (x0 :: x1 :: x2 :: x3 :: x4 :: kl x5 :: .null :: L, st, h) := by
  apply rt_s
  show ab_st ab_isA 6 (x0 :: x1 :: x2 :: x3 :: x4 :: x5 :: x6 :: L, .null :: st, h) = _
  simp only [ab_st]
  rw [if_pos ⟨rfl, by simp only [List.length_cons, Value.category]; omega⟩]
  cases x5 <;> rfl
theorem xr_187 {x0 x1 x2 x3 x4 x5 x6 : Value}  : rt xs d m hs t ((.astore 6, q) :: r) (x0 :: x1 :: x2 :: x3 :: x4 :: x5 :: x6 :: L, .retAddr 1 :: st, h) = rt xs d m hs t r (x0 :: x1 :: x2 :: x3 :: x4 :: kl x5 :: .retAddr 1 :: L, st, h) := by
  apply rt_s
  show ab_st ab_isA 6 (x0 :: x1 :: x2 :: x3 :: x4 :: x5 :: x6 :: L, .retAddr 1 :: st, h) = _
  simp only [ab_st]
  rw [if_pos ⟨rfl, by simp only [List.length_cons, Value.category]; omega⟩]
  cases x5 <;> rfl
theorem xr_188 {x0 x1 x2 x3 x4 x5 x6 : Value}  : rt xs d m hs t ((.astore 6, q) :: r) (x0 :: x1 :: x2 :: x3 :: x4 :: x5 :: x6 :: L, .retAddr 8 :: st, h) = rt xs d m hs t r (x0 :: x1 :: x2 :: x3 :: x4 :: kl x5 :: .retAddr 8 :: L, st, h) := by
  apply rt_s
  show ab_st ab_isA 6 (x0 :: x1 :: x2 :: x3 :: x4 :: x5 :: x6 :: L, .retAddr 8 :: st, h) = _
  simp only [ab_st]
  rw [if_pos ⟨rfl, by simp only [List.length_cons, Value.category]; omega⟩]
  cases x5 <;> rfl
theorem xr_189 {x0 x1 x2 x3 x4 x5 x6 : Value}  : rt xs d m hs t ((.astore 6, q) :: r) (x0 :: x1 :: x2 :: x3 :: x4 :: x5 :: x6 :: L, .retAddr 0 :: st, h) = rt xs d m hs t r (x0 :: x1 :: x2 :: x3 :: x4 :: kl x5 :: .retAddr 0 :: L, st, h) := by
  apply rt_s
  show ab_st ab_isA 6 (x0 :: x1 :: x2 :: x3 :: x4 :: x5 :: x6 :: L, .retAddr 0 :: st, h) = _
  simp only [ab_st]
  rw [if_pos ⟨rfl, by simp only [List.length_cons, Value.category]; omega⟩]
  cases x5 <;> rfl
theorem xr_254 : rt xs d m hs t ((.bipush 12, q) :: r) (L, st, h) = rt xs d m hs t r (L, .int (nI 12) :: st, h) := rt_s rfl
theorem xr_255 : rt xs d m hs t ((.bipush 40, q) :: r) (L, st, h) = rt xs d m hs t r (L, .int (nI 40) :: st, h) := rt_s rfl
theorem xr_256 {x0 x1 x2 x3 x4 x5 x6 x7 x8 x9 : Value} {v : Int32} : rt xs d m hs t ((.iinc 10 (-1), q) :: r) (x0 :: x1 :: x2 :: x3 :: x4 :: x5 :: x6 :: x7 :: x8 :: x9 :: .int v :: L, st, h) = rt xs d m hs t r (x0 :: x1 :: x2 :: x3 :: x4 :: x5 :: x6 :: x7 :: x8 :: kl x9 :: .int (v - nI 1) :: L, st, h) := by
  apply rt_s
  show some (ab_sto _ _ (.int (v + Int32.ofInt (-1))), _) = _
  rw [show v + Int32.ofInt (-1) = v - nI 1 from by rw [Int32.sub_eq_add_neg]; rfl]
  cases x9 <;> rfl
theorem xr_257 {x0 x1 x2 x3 x4 x5 x6 x7 : Value} {v : Int32} : rt xs d m hs t ((.iinc 8 1, q) :: r) (x0 :: x1 :: x2 :: x3 :: x4 :: x5 :: x6 :: x7 :: .int v :: L, st, h) = rt xs d m hs t r (x0 :: x1 :: x2 :: x3 :: x4 :: x5 :: x6 :: kl x7 :: .int (v + nI 1) :: L, st, h) := by
  apply rt_s
  show some (ab_sto _ _ (.int (v + Int32.ofInt 1)), _) = _
  rw [show v + Int32.ofInt 1 = v + nI 1 from rfl]
  cases x7 <;> rfl
theorem xr_152 {x0 x1 x2 x3 x4 x5 x6 x7 x8 x9 x10 x11 : Value} {v : Int32} : rt xs d m hs t ((.istore 11, q) :: r) (x0 :: x1 :: x2 :: x3 :: x4 :: x5 :: x6 :: x7 :: x8 :: x9 :: x10 :: x11 :: L, .int v :: st, h) = rt xs d m hs t r (x0 :: x1 :: x2 :: x3 :: x4 :: x5 :: x6 :: x7 :: x8 :: x9 :: kl x10 :: .int v :: L, st, h) := by
  apply rt_s
  show ab_st ab_isI 11 (x0 :: x1 :: x2 :: x3 :: x4 :: x5 :: x6 :: x7 :: x8 :: x9 :: x10 :: x11 :: L, .int v :: st, h) = _
  simp only [ab_st]
  rw [if_pos ⟨rfl, by simp only [List.length_cons, Value.category]; omega⟩]
  cases x10 <;> rfl
theorem xr_153 {x0 x1 x2 x3 x4 x5 x6 x7 x8 x9 x10 x11 x12 : Value} {v : Int32} : rt xs d m hs t ((.istore 12, q) :: r) (x0 :: x1 :: x2 :: x3 :: x4 :: x5 :: x6 :: x7 :: x8 :: x9 :: x10 :: x11 :: x12 :: L, .int v :: st, h) = rt xs d m hs t r (x0 :: x1 :: x2 :: x3 :: x4 :: x5 :: x6 :: x7 :: x8 :: x9 :: x10 :: kl x11 :: .int v :: L, st, h) := by
  apply rt_s
  show ab_st ab_isI 12 (x0 :: x1 :: x2 :: x3 :: x4 :: x5 :: x6 :: x7 :: x8 :: x9 :: x10 :: x11 :: x12 :: L, .int v :: st, h) = _
  simp only [ab_st]
  rw [if_pos ⟨rfl, by simp only [List.length_cons, Value.category]; omega⟩]
  cases x11 <;> rfl
theorem xr_154 {x0 x1 x2 x3 x4 x5 x6 x7 x8 x9 x10 x11 : Value} {v : Int32} : rt xs d m hs t ((.iload 12, q) :: r) (x0 :: x1 :: x2 :: x3 :: x4 :: x5 :: x6 :: x7 :: x8 :: x9 :: x10 :: x11 :: (.int v) :: L, st, h) = rt xs d m hs t r (x0 :: x1 :: x2 :: x3 :: x4 :: x5 :: x6 :: x7 :: x8 :: x9 :: x10 :: x11 :: (.int v) :: L, .int v :: st, h) := rt_s rfl
theorem xr_156 {x0 x1 x2 x3 x4 x5 x6 x7 x8 x9 x10 : Value} {v : Int32} : rt xs d m hs t ((.iload 11, q) :: r) (x0 :: x1 :: x2 :: x3 :: x4 :: x5 :: x6 :: x7 :: x8 :: x9 :: x10 :: (.int v) :: L, st, h) = rt xs d m hs t r (x0 :: x1 :: x2 :: x3 :: x4 :: x5 :: x6 :: x7 :: x8 :: x9 :: x10 :: (.int v) :: L, .int v :: st, h) := rt_s rfl
theorem xr_155 {x0 x1 x2 x3 x4 x5 x6 x7 x8 x9 x10 x11 : Value} {v : Int32} : rt xs d m hs t ((.iinc 12 1, q) :: r) (x0 :: x1 :: x2 :: x3 :: x4 :: x5 :: x6 :: x7 :: x8 :: x9 :: x10 :: x11 :: .int v :: L, st, h) = rt xs d m hs t r (x0 :: x1 :: x2 :: x3 :: x4 :: x5 :: x6 :: x7 :: x8 :: x9 :: x10 :: kl x11 :: .int (v + nI 1) :: L, st, h) := by
  apply rt_s
  show some (ab_sto _ _ (.int (v + Int32.ofInt 1)), _) = _
  rw [show v + Int32.ofInt 1 = v + nI 1 from rfl]
  cases x11 <;> rfl
theorem xr_151 {x0 x1 x2 x3 x4 x5 x6 x7 x8 : Value} {v : Int32} : rt xs d m hs t ((.iinc 9 1, q) :: r) (x0 :: x1 :: x2 :: x3 :: x4 :: x5 :: x6 :: x7 :: x8 :: .int v :: L, st, h) = rt xs d m hs t r (x0 :: x1 :: x2 :: x3 :: x4 :: x5 :: x6 :: x7 :: kl x8 :: .int (v + nI 1) :: L, st, h) := by
  apply rt_s
  show some (ab_sto _ _ (.int (v + Int32.ofInt 1)), _) = _
  rw [show v + Int32.ofInt 1 = v + nI 1 from rfl]
  cases x8 <;> rfl
theorem xr_220 {x0 x1 x2 x3 x4 x5 x6 x7 x8 x9 x10 x11 x12 x13 : Value} {v : Int32} : rt xs d m hs t ((.istore 13, q) :: r) (x0 :: x1 :: x2 :: x3 :: x4 :: x5 :: x6 :: x7 :: x8 :: x9 :: x10 :: x11 :: x12 :: x13 :: L, .int v :: st, h) = rt xs d m hs t r (x0 :: x1 :: x2 :: x3 :: x4 :: x5 :: x6 :: x7 :: x8 :: x9 :: x10 :: x11 :: kl x12 :: .int v :: L, st, h) := by
  apply rt_s
  show ab_st ab_isI 13 (x0 :: x1 :: x2 :: x3 :: x4 :: x5 :: x6 :: x7 :: x8 :: x9 :: x10 :: x11 :: x12 :: x13 :: L, .int v :: st, h) = _
  simp only [ab_st]
  rw [if_pos ⟨rfl, by simp only [List.length_cons, Value.category]; omega⟩]
  cases x12 <;> rfl
theorem xr_221 {x0 x1 x2 x3 x4 x5 x6 x7 x8 x9 x10 x11 x12 : Value} {v : Int32} : rt xs d m hs t ((.iload 13, q) :: r) (x0 :: x1 :: x2 :: x3 :: x4 :: x5 :: x6 :: x7 :: x8 :: x9 :: x10 :: x11 :: x12 :: (.int v) :: L, st, h) = rt xs d m hs t r (x0 :: x1 :: x2 :: x3 :: x4 :: x5 :: x6 :: x7 :: x8 :: x9 :: x10 :: x11 :: x12 :: (.int v) :: L, .int v :: st, h) := rt_s rfl
theorem xr_258 {x0 x1 x2 x3 x4 x5 x6 x7 x8 x9 : Value} {v : Nat} : rt xs d m hs t ((.astore 9, q) :: r) (x0 :: x1 :: x2 :: x3 :: x4 :: x5 :: x6 :: x7 :: x8 :: x9 :: L, .ref v :: st, h) = rt xs d m hs t r (x0 :: x1 :: x2 :: x3 :: x4 :: x5 :: x6 :: x7 :: kl x8 :: .ref v :: L, st, h) := by
  apply rt_s
  show ab_st ab_isA 9 (x0 :: x1 :: x2 :: x3 :: x4 :: x5 :: x6 :: x7 :: x8 :: x9 :: L, .ref v :: st, h) = _
  simp only [ab_st]
  rw [if_pos ⟨rfl, by simp only [List.length_cons, Value.category]; omega⟩]
  cases x8 <;> rfl
theorem xr_259 {x0 x1 x2 x3 x4 x5 x6 x7 x8 x9 : Value}  : rt xs d m hs t ((.astore 9, q) :: r) (x0 :: x1 :: x2 :: x3 :: x4 :: x5 :: x6 :: x7 :: x8 :: x9 :: L, .null :: st, h) = rt xs d m hs t r (x0 :: x1 :: x2 :: x3 :: x4 :: x5 :: x6 :: x7 :: kl x8 :: .null :: L, st, h) := by
  apply rt_s
  show ab_st ab_isA 9 (x0 :: x1 :: x2 :: x3 :: x4 :: x5 :: x6 :: x7 :: x8 :: x9 :: L, .null :: st, h) = _
  simp only [ab_st]
  rw [if_pos ⟨rfl, by simp only [List.length_cons, Value.category]; omega⟩]
  cases x8 <;> rfl
theorem xr_260 {x0 x1 x2 x3 x4 x5 x6 x7 x8 x9 : Value}  : rt xs d m hs t ((.astore 9, q) :: r) (x0 :: x1 :: x2 :: x3 :: x4 :: x5 :: x6 :: x7 :: x8 :: x9 :: L, .retAddr 1 :: st, h) = rt xs d m hs t r (x0 :: x1 :: x2 :: x3 :: x4 :: x5 :: x6 :: x7 :: kl x8 :: .retAddr 1 :: L, st, h) := by
  apply rt_s
  show ab_st ab_isA 9 (x0 :: x1 :: x2 :: x3 :: x4 :: x5 :: x6 :: x7 :: x8 :: x9 :: L, .retAddr 1 :: st, h) = _
  simp only [ab_st]
  rw [if_pos ⟨rfl, by simp only [List.length_cons, Value.category]; omega⟩]
  cases x8 <;> rfl
theorem xr_261 {x0 x1 x2 x3 x4 x5 x6 x7 x8 x9 : Value}  : rt xs d m hs t ((.astore 9, q) :: r) (x0 :: x1 :: x2 :: x3 :: x4 :: x5 :: x6 :: x7 :: x8 :: x9 :: L, .retAddr 8 :: st, h) = rt xs d m hs t r (x0 :: x1 :: x2 :: x3 :: x4 :: x5 :: x6 :: x7 :: kl x8 :: .retAddr 8 :: L, st, h) := by
  apply rt_s
  show ab_st ab_isA 9 (x0 :: x1 :: x2 :: x3 :: x4 :: x5 :: x6 :: x7 :: x8 :: x9 :: L, .retAddr 8 :: st, h) = _
  simp only [ab_st]
  rw [if_pos ⟨rfl, by simp only [List.length_cons, Value.category]; omega⟩]
  cases x8 <;> rfl
theorem xr_262 {x0 x1 x2 x3 x4 x5 x6 x7 x8 x9 : Value}  : rt xs d m hs t ((.astore 9, q) :: r) (x0 :: x1 :: x2 :: x3 :: x4 :: x5 :: x6 :: x7 :: x8 :: x9 :: L, .retAddr 0 :: st, h) = rt xs d m hs t r (x0 :: x1 :: x2 :: x3 :: x4 :: x5 :: x6 :: x7 :: kl x8 :: .retAddr 0 :: L, st, h) := by
  apply rt_s
  show ab_st ab_isA 9 (x0 :: x1 :: x2 :: x3 :: x4 :: x5 :: x6 :: x7 :: x8 :: x9 :: L, .retAddr 0 :: st, h) = _
  simp only [ab_st]
  rw [if_pos ⟨rfl, by simp only [List.length_cons, Value.category]; omega⟩]
  cases x8 <;> rfl
theorem xr_263 {x0 x1 x2 x3 x4 x5 x6 x7 x8 : Value} {v : Nat} : rt xs d m hs t ((.aload 9, q) :: r) (x0 :: x1 :: x2 :: x3 :: x4 :: x5 :: x6 :: x7 :: x8 :: (.ref v) :: L, st, h) = rt xs d m hs t r (x0 :: x1 :: x2 :: x3 :: x4 :: x5 :: x6 :: x7 :: x8 :: (.ref v) :: L, .ref v :: st, h) := rt_s rfl
theorem xr_264 {x0 x1 x2 x3 x4 x5 x6 x7 x8 : Value}  : rt xs d m hs t ((.aload 9, q) :: r) (x0 :: x1 :: x2 :: x3 :: x4 :: x5 :: x6 :: x7 :: x8 :: .null :: L, st, h) = rt xs d m hs t r (x0 :: x1 :: x2 :: x3 :: x4 :: x5 :: x6 :: x7 :: x8 :: .null :: L, .null :: st, h) := rt_s rfl
theorem xr_265 {x0 x1 x2 x3 x4 x5 x6 x7 x8 : Value}  : rt xs d m hs t ((.aload 9, q) :: r) (x0 :: x1 :: x2 :: x3 :: x4 :: x5 :: x6 :: x7 :: x8 :: (.retAddr 1) :: L, st, h) = rt xs d m hs t r (x0 :: x1 :: x2 :: x3 :: x4 :: x5 :: x6 :: x7 :: x8 :: (.retAddr 1) :: L, .retAddr 1 :: st, h) := rt_s rfl
theorem xr_266 {x0 x1 x2 x3 x4 x5 x6 x7 x8 : Value}  : rt xs d m hs t ((.aload 9, q) :: r) (x0 :: x1 :: x2 :: x3 :: x4 :: x5 :: x6 :: x7 :: x8 :: (.retAddr 8) :: L, st, h) = rt xs d m hs t r (x0 :: x1 :: x2 :: x3 :: x4 :: x5 :: x6 :: x7 :: x8 :: (.retAddr 8) :: L, .retAddr 8 :: st, h) := rt_s rfl
theorem xr_267 {x0 x1 x2 x3 x4 x5 x6 x7 x8 : Value}  : rt xs d m hs t ((.aload 9, q) :: r) (x0 :: x1 :: x2 :: x3 :: x4 :: x5 :: x6 :: x7 :: x8 :: (.retAddr 0) :: L, st, h) = rt xs d m hs t r (x0 :: x1 :: x2 :: x3 :: x4 :: x5 :: x6 :: x7 :: x8 :: (.retAddr 0) :: L, .retAddr 0 :: st, h) := rt_s rfl
theorem xr_268 {x0 x1 x2 x3 x4 x5 x6 x7 x8 x9 x10 : Value} {v : Int32} : rt xs d m hs t ((.iinc 11 1, q) :: r) (x0 :: x1 :: x2 :: x3 :: x4 :: x5 :: x6 :: x7 :: x8 :: x9 :: x10 :: .int v :: L, st, h) = rt xs d m hs t r (x0 :: x1 :: x2 :: x3 :: x4 :: x5 :: x6 :: x7 :: x8 :: x9 :: kl x10 :: .int (v + nI 1) :: L, st, h) := by
  apply rt_s
  show some (ab_sto _ _ (.int (v + Int32.ofInt 1)), _) = _
  rw [show v + Int32.ofInt 1 = v + nI 1 from rfl]
  cases x10 <;> rfl
theorem xr_269 {x0 x1 x2 x3 x4 x5 x6 x7 x8 x9 x10 x11 x12 x13 x14 : Value} {v : Int32} : rt xs d m hs t ((.istore 14, q) :: r) (x0 :: x1 :: x2 :: x3 :: x4 :: x5 :: x6 :: x7 :: x8 :: x9 :: x10 :: x11 :: x12 :: x13 :: x14 :: L, .int v :: st, h) = rt xs d m hs t r (x0 :: x1 :: x2 :: x3 :: x4 :: x5 :: x6 :: x7 :: x8 :: x9 :: x10 :: x11 :: x12 :: kl x13 :: .int v :: L, st, h) := by
  apply rt_s
  show ab_st ab_isI 14 (x0 :: x1 :: x2 :: x3 :: x4 :: x5 :: x6 :: x7 :: x8 :: x9 :: x10 :: x11 :: x12 :: x13 :: x14 :: L, .int v :: st, h) = _
  simp only [ab_st]
  rw [if_pos ⟨rfl, by simp only [List.length_cons, Value.category]; omega⟩]
  cases x13 <;> rfl
theorem xr_270 {x0 x1 x2 x3 x4 x5 x6 x7 x8 x9 x10 x11 x12 x13 : Value} {v : Int32} : rt xs d m hs t ((.iload 14, q) :: r) (x0 :: x1 :: x2 :: x3 :: x4 :: x5 :: x6 :: x7 :: x8 :: x9 :: x10 :: x11 :: x12 :: x13 :: (.int v) :: L, st, h) = rt xs d m hs t r (x0 :: x1 :: x2 :: x3 :: x4 :: x5 :: x6 :: x7 :: x8 :: x9 :: x10 :: x11 :: x12 :: x13 :: (.int v) :: L, .int v :: st, h) := rt_s rfl
theorem xr_271 {x0 x1 x2 x3 x4 x5 x6 x7 x8 x9 x10 x11 x12 x13 : Value} {v : Int32} : rt xs d m hs t ((.iinc 14 1, q) :: r) (x0 :: x1 :: x2 :: x3 :: x4 :: x5 :: x6 :: x7 :: x8 :: x9 :: x10 :: x11 :: x12 :: x13 :: .int v :: L, st, h) = rt xs d m hs t r (x0 :: x1 :: x2 :: x3 :: x4 :: x5 :: x6 :: x7 :: x8 :: x9 :: x10 :: x11 :: x12 :: kl x13 :: .int (v + nI 1) :: L, st, h) := by
  apply rt_s
  show some (ab_sto _ _ (.int (v + Int32.ofInt 1)), _) = _
  rw [show v + Int32.ofInt 1 = v + nI 1 from rfl]
  cases x13 <;> rfl
theorem xr_272 : rt xs d m hs t ((.bipush 17, q) :: r) (L, st, h) = rt xs d m hs t r (L, .int (nI 17) :: st, h) := rt_s rfl
theorem xr_146 {x0 x1 : Value} {v : Nat} : rt xs d m hs t ((.astore_n 1, q) :: r) (x0 :: x1 :: L, .ref v :: st, h) = rt xs d m hs t r (kl x0 :: .ref v :: L, st, h) := by
  apply rt_s
  show ab_st ab_isA 1 (x0 :: x1 :: L, .ref v :: st, h) = _
  simp only [ab_st]
  rw [if_pos ⟨rfl, by simp only [List.length_cons, Value.category]; omega⟩]
  cases x0 <;> rfl
theorem xr_147 {x0 x1 : Value}  : rt xs d m hs t ((.astore_n 1, q) :: r) (x0 :: x1 :: L, .null :: st, h) = rt xs d m hs t r (kl x0 :: .null :: L, st, h) := by
  apply rt_s
  show ab_st ab_isA 1 (x0 :: x1 :: L, .null :: st, h) = _
  simp only [ab_st]
  rw [if_pos ⟨rfl, by simp only [List.length_cons, Value.category]; omega⟩]
  cases x0 <;> rfl
theorem xr_148 {x0 x1 : Value}  : rt xs d m hs t ((.astore_n 1, q) :: r) (x0 :: x1 :: L, .retAddr 1 :: st, h) = rt xs d m hs t r (kl x0 :: .retAddr 1 :: L, st, h) := by
  apply rt_s
  show ab_st ab_isA 1 (x0 :: x1 :: L, .retAddr 1 :: st, h) = _
  simp only [ab_st]
  rw [if_pos ⟨rfl, by simp only [List.length_cons, Value.category]; omega⟩]
  cases x0 <;> rfl
theorem xr_149 {x0 x1 : Value}  : rt xs d m hs t ((.astore_n 1, q) :: r) (x0 :: x1 :: L, .retAddr 8 :: st, h) = rt xs d m hs t r (kl x0 :: .retAddr 8 :: L, st, h) := by
  apply rt_s
  show ab_st ab_isA 1 (x0 :: x1 :: L, .retAddr 8 :: st, h) = _
  simp only [ab_st]
  rw [if_pos ⟨rfl, by simp only [List.length_cons, Value.category]; omega⟩]
  cases x0 <;> rfl
theorem xr_150 {x0 x1 : Value}  : rt xs d m hs t ((.astore_n 1, q) :: r) (x0 :: x1 :: L, .retAddr 0 :: st, h) = rt xs d m hs t r (kl x0 :: .retAddr 0 :: L, st, h) := by
  apply rt_s
  show ab_st ab_isA 1 (x0 :: x1 :: L, .retAddr 0 :: st, h) = _
  simp only [ab_st]
  rw [if_pos ⟨rfl, by simp only [List.length_cons, Value.category]; omega⟩]
  cases x0 <;> rfl
theorem xr_273 : rt xs d m hs t ((.bipush 15, q) :: r) (L, st, h) = rt xs d m hs t r (L, .int (nI 15) :: st, h) := rt_s rfl
theorem xr_232 {n w : Nat} {j : _} : rt xs d m hs t ((.new j, (n, 11, w)) :: r) (L, st, h) = rt xs d m hs t r (L, .ref h.length :: st, h ++ [.inl (11, ab_def 11)]) := rt_s rfl
theorem xr_145 {n w : Nat} {j : _} : rt xs d m hs t ((.new j, (n, 12, w)) :: r) (L, st, h) = rt xs d m hs t r (L, .ref h.length :: st, h ++ [.inl (12, ab_def 12)]) := rt_s rfl
theorem xr_158 {x0 x1 x2 x3 : Value} {v : Nat} : rt xs d m hs t ((.astore_n 3, q) :: r) (x0 :: x1 :: x2 :: x3 :: L, .ref v :: st, h) = rt xs d m hs t r (x0 :: x1 :: kl x2 :: .ref v :: L, st, h) := by
  apply rt_s
  show ab_st ab_isA 3 (x0 :: x1 :: x2 :: x3 :: L, .ref v :: st, h) = _
  simp only [ab_st]
  rw [if_pos ⟨rfl, by simp only [List.length_cons, Value.category]; omega⟩]
  cases x2 <;> rfl
theorem xr_159 {x0 x1 x2 x3 : Value}  : rt xs d m hs t ((.astore_n 3, q) :: r) (x0 :: x1 :: x2 :: x3 :: L, .null :: st, h) = rt xs d m hs t r (x0 :: x1 :: kl x2 :: .null :: L, st, h) := by
  apply rt_s
  show ab_st ab_isA 3 (x0 :: x1 :: x2 :: x3 :: L, .null :: st, h) = _
  simp only [ab_st]
  rw [if_pos ⟨rfl, by simp only [List.length_cons, Value.category]; omega⟩]
  cases x2 <;> rfl
theorem xr_160 {x0 x1 x2 x3 : Value}  : rt xs d m hs t ((.astore_n 3, q) :: r) (x0 :: x1 :: x2 :: x3 :: L, .retAddr 1 :: st, h) = rt xs d m hs t r (x0 :: x1 :: kl x2 :: .retAddr 1 :: L, st, h) := by
  apply rt_s
  show ab_st ab_isA 3 (x0 :: x1 :: x2 :: x3 :: L, .retAddr 1 :: st, h) = _
  simp only [ab_st]
  rw [if_pos ⟨rfl, by simp only [List.length_cons, Value.category]; omega⟩]
  cases x2 <;> rfl
theorem xr_161 {x0 x1 x2 x3 : Value}  : rt xs d m hs t ((.astore_n 3, q) :: r) (x0 :: x1 :: x2 :: x3 :: L, .retAddr 8 :: st, h) = rt xs d m hs t r (x0 :: x1 :: kl x2 :: .retAddr 8 :: L, st, h) := by
  apply rt_s
  show ab_st ab_isA 3 (x0 :: x1 :: x2 :: x3 :: L, .retAddr 8 :: st, h) = _
  simp only [ab_st]
  rw [if_pos ⟨rfl, by simp only [List.length_cons, Value.category]; omega⟩]
  cases x2 <;> rfl
theorem xr_162 {x0 x1 x2 x3 : Value}  : rt xs d m hs t ((.astore_n 3, q) :: r) (x0 :: x1 :: x2 :: x3 :: L, .retAddr 0 :: st, h) = rt xs d m hs t r (x0 :: x1 :: kl x2 :: .retAddr 0 :: L, st, h) := by
  apply rt_s
  show ab_st ab_isA 3 (x0 :: x1 :: x2 :: x3 :: L, .retAddr 0 :: st, h) = _
  simp only [ab_st]
  rw [if_pos ⟨rfl, by simp only [List.length_cons, Value.category]; omega⟩]
  cases x2 <;> rfl
end Xr
