/-! THE LAW: from its start to its end -/
def sg0 : Nat → Nat → Nat := fun b j => match b, j with
  | 1, 0 => 2
  | 1, 1 => 3
  | 1, 2 => 6
  | 11, 0 => 1
  | 11, 1 => 1
  | 11, 2 => 1
  | _, _ => 0
def M_0 : Nat → Nat → Nat := fun b j => match b, j with
  | 19, 11 => 4294967295
  | 28, 10 => 4294967295
  | 37, 4 => 4294967295
  | 40, 8 => 4294967295
  | _, _ => 0
/-- the class's cells before the turn of the places -/
def H1 (ρ : Int32) : ab_H :=
  oI [ρ] ::
  .inl (11, [.ref 2, .ref 13, .ref 16, .ref 19, .ref 20, .ref 29, .ref 38, .ref 41, .ref 44, .ref 45, .ref 53, .ref 55, .ref 62, .int (nI (M_0 0 13))]) ::
  .inl (6, [.int (nI (sg0 1 0)), .int (nI (sg0 1 1)), .int (nI (sg0 1 2)), .int (nI (sg0 1 3)), .int (nI (sg0 1 4)), .int (nI (sg0 1 5)), .int (nI (sg0 1 6)), .int (nI (sg0 1 7)), .int (nI (M_0 1 8)), .ref 3, .ref 4, .ref 5, .ref 6, .ref 7, .ref 8, .ref 9, .ref 10, .ref 11, .ref 12]) ::
  oI (ar 4 (sg0 2)) ::
  oI (ar 4 (sg0 3)) ::
  oI (ar 3 (sg0 4)) ::
  oI (ar 6 (sg0 5)) ::
  oI (ar 6 (sg0 6)) ::
  oI (ar 6 (sg0 7)) ::
  oI (ar 10 (sg0 8)) ::
  oI (ar 10 (sg0 9)) ::
  oI (ar 10 (sg0 10)) ::
  oI (ar 3 (sg0 11)) ::
  .inl (9, [.int (nI (M_0 12 0)), .int (nI (M_0 12 1)), .ref 14, .ref 15]) ::
  oI (ar 6 (M_0 13)) ::
  oI (ar 6 (M_0 14)) ::
  .inl (9, [.int (nI (M_0 15 0)), .int (nI (M_0 15 1)), .ref 17, .ref 18]) ::
  oI (ar 6 (M_0 16)) ::
  oI (ar 6 (M_0 17)) ::
  .inl (2, [.ref 2]) ::
  .inl (3, [.ref 2, .ref 21, .ref 22, .ref 23, .ref 24, .ref 25, .ref 26, .ref 27, .ref 28, .int (nI (M_0 19 9)), .int (nI (M_0 19 10)), .int (nI (M_0 19 11))]) ::
  oI (ar 6 (M_0 20)) ::
  oI (ar 6 (M_0 21)) ::
  oI (ar 4 (M_0 22)) ::
  oI (ar 216 (M_0 23)) ::
  oI (ar 216 (M_0 24)) ::
  oI (ar 36 (M_0 25)) ::
  oI (ar 108 (M_0 26)) ::
  oI (ar 36 (M_0 27)) ::
  .inl (7, [.ref 2, .ref 20, .ref 30, .ref 33, .ref 34, .ref 35, .ref 36, .ref 37, .int (nI (M_0 28 8)), .int (nI (M_0 28 9)), .int (nI (M_0 28 10)), .int (nI (M_0 28 11))]) ::
  .inl (9, [.int (nI (M_0 29 0)), .int (nI (M_0 29 1)), .ref 31, .ref 32]) ::
  oI (ar 6 (M_0 30)) ::
  oI (ar 6 (M_0 31)) ::
  oI (ar 42 (M_0 32)) ::
  oI (ar 6 (M_0 33)) ::
  oI (ar 6 (M_0 34)) ::
  oI (ar 6 (M_0 35)) ::
  oI (ar 4 (M_0 36)) ::
  .inl (10, [.ref 2, .ref 20, .ref 39, .ref 40, .int (nI (M_0 37 4))]) ::
  oI (ar 6 (M_0 38)) ::
  oI (ar 6 (M_0 39)) ::
  .inl (5, [.ref 2, .ref 19, .ref 20, .ref 29, .ref 42, .int (nI (M_0 40 5)), .ref 43, .int (nI (M_0 40 7)), .int (nI (M_0 40 8))]) ::
  oI (ar 252 (M_0 41)) ::
  oI (ar 64 (M_0 42)) ::
  .inl (8, [.ref 2]) ::
  .inl (4, [.ref 2, .ref 19, .ref 46, .ref 49, .ref 52, .int (nI (M_0 44 5))]) ::
  .inl (9, [.int (nI (M_0 45 0)), .int (nI (M_0 45 1)), .ref 47, .ref 48]) ::
  oI (ar 6 (M_0 46)) ::
  oI (ar 6 (M_0 47)) ::
  .inl (9, [.int (nI (M_0 48 0)), .int (nI (M_0 48 1)), .ref 50, .ref 51]) ::
  oI (ar 6 (M_0 49)) ::
  oI (ar 6 (M_0 50)) ::
  oI (ar 4 (M_0 51)) ::
  .inl (1, [.ref 2, .ref 54]) ::
  oI (ar 6 (M_0 53)) ::
  .inl (0, [.ref 2, .ref 19, .ref 38, .ref 56, .ref 59, .int (nI (M_0 54 5)), .int (nI (M_0 54 6)), .int (nI (M_0 54 7)), .int (nI (M_0 54 8)), .int (nI (M_0 54 9)), .int (nI (M_0 54 10))]) ::
  .inl (9, [.int (nI (M_0 55 0)), .int (nI (M_0 55 1)), .ref 57, .ref 58]) ::
  oI (ar 6 (M_0 56)) ::
  oI (ar 6 (M_0 57)) ::
  .inl (9, [.int (nI (M_0 58 0)), .int (nI (M_0 58 1)), .ref 60, .ref 61]) ::
  oI (ar 6 (M_0 59)) ::
  oI (ar 6 (M_0 60)) ::
  oB (ar 7 (M_0 61)) :: []
/-- the School as it is made -/
def SC0 (ρ : Int32) : ab_H := hc sg0 M_0 [oI [ρ], .inl (12, [.int (nI 0), .int (nI 0), .int (nI 0), .ref 64, .int (nI 0), .ref 65, .ref 66, .int (nI 0), .int (nI 0), .ref 67, .ref 68, .ref 69, .int (nI 0), .ref 70, .ref 71, .ref 72, .ref 73, .ref 74, .ref 75, .int (nI 0)]), oI [0, 0, 0], oI [0, 0, 0, 0], oI [0, 0, 0, 0], oI [0, 0, 0, 0, 0, 0], oI [0, 0, 0, 0, 0, 0], oI [0, 0, 0, 0, 0, 0], oI [0, 0, 0, 0, 0, 0, 0, 0, 0, 0], oI [0, 0, 0, 0, 0, 0, 0, 0, 0, 0], oI [0, 0, 0, 0, 0, 0, 0, 0, 0, 0], oI [1, 1, 1], oR (List.replicate 2000 none), oI (List.replicate 2000 0)]
section Pk
variable {xs : List Int32} {d m2 n k : Nat} {hs : List (Nat × Nat)} {tt : ab_T} {rr : List ab_I} {qq : Nat × Nat × Nat} {Lc st : List Value} {σ M M0 N W : Nat → Nat → Nat} {ρ w1 u : Int32} {R h E Q Q2 : ab_H} {B w : Nat → Nat} {c : ab_O} {S : ab_S} {x2 x3 : Value}
set_option maxRecDepth 100000 in
theorem lxs (hx : xs[k]? = some u) (hk : k < 2147483648) : rt xs d m2 hs tt ((.iaload, qq) :: rr) (Lc, .int (nI k) :: .retAddr 1 :: st, h) = rt xs d m2 hs tt rr (Lc, .int u :: st, h) := by
  apply rt_s
  show ab_iald (ab_fx xs) .int (Lc, .int (nI k) :: .retAddr 1 :: st, h) = _
  have e : ab_ix (ab_fx xs 1) (nI k) = some u := by
    show ab_ix xs (nI k) = _
    unfold ab_ix
    rw [if_neg (iN_nn hk), iN_cl hk]
    exact hx
  simp only [ab_iald, e, and_self, if_true]
  rfl
set_option maxRecDepth 100000 in
theorem lxl (hl : xs.length < 2000000) : rt xs d m2 hs tt ((.arraylength, qq) :: rr) (Lc, .retAddr 1 :: st, h) = rt xs d m2 hs tt rr (Lc, .int (nI xs.length) :: st, h) := by
  apply rt_s
  show ab_alen (ab_fx xs) (Lc, .retAddr 1 :: st, h) = _
  have e : (ab_fx xs 1).length < 2000000 := hl
  simp only [ab_alen, e, and_self, if_true]
  rfl
set_option maxRecDepth 100000 in
theorem sN : rt xs d m2 hs tt ((.newarray .int, qq) :: rr) (Lc, .int (nI 1) :: st, []) = rt xs d m2 hs tt rr (Lc, .ref 0 :: st, [oI [nI 0]]) := rt_s rfl
set_option maxRecDepth 100000 in
theorem sA : rt xs d m2 hs tt ((.iaload, qq) :: rr) (Lc, .int (nI 0) :: .ref 0 :: st, [oI [ρ]]) = rt xs d m2 hs tt rr (Lc, .int ρ :: st, [oI [ρ]]) := rt_s rfl
set_option maxRecDepth 100000 in
theorem sW : rt xs d m2 hs tt ((.iastore, qq) :: rr) (Lc, .int w1 :: .int (nI 0) :: .ref 0 :: st, [oI [ρ]]) = rt xs d m2 hs tt rr (Lc, st, [oI [w1]]) := rt_s rfl
set_option maxRecDepth 100000 in
theorem sL : ([oI [ρ]] : ab_H).length = 1 := rfl
set_option maxRecDepth 100000 in
theorem sAp : [oI [ρ]] ++ [c] = [oI [ρ], c] := rfl
set_option maxRecDepth 100000 in
theorem hc_63 : (hc σ M [c]).length = 63 := rfl
set_option maxRecDepth 100000 in
theorem xt_rot {nn kk : Nat} (h63 : 63 ≤ S.2.2.length) : rt xs d m2 hs (.nop, nn, (7, 0, 0), [kk]) [] S = ev xs d m2 kk (ab_rot S) := by
  show (if 63 ≤ S.2.2.length then ev xs d m2 kk (ab_rot S) else none) = _
  rw [if_pos h63]
set_option maxRecDepth 100000 in
theorem go_121 : ab_go ab_mt (ab_fx xs) 200 20 121 0 ([.ref 1], [], [oI [ρ], .inl (11, ab_def 11)]) = some (.inl none, H1 ρ) := rfl
set_option maxRecDepth 100000 in
theorem rot_1 {a : Int32} : ab_rot ([.retAddr 1, .ref 0, .int a, .retAddr 9], [.ref 1], H1 ρ) = ([.retAddr 1, .ref 62, .int a, .retAddr 9], [.ref 0], hc sg0 M_0 [oI [ρ]]) := rfl
set_option maxRecDepth 100000 in
theorem go_280 : ab_go ab_mt (ab_fx xs) 200 20 280 0 ([.ref 63], [], hc sg0 M_0 [oI [ρ], .inl (12, ab_def 12)]) = some (.inl none, SC0 ρ) := sorry
set_option maxRecDepth 100000 in
theorem SC0_LR : SC0 ρ = hc sg0 M_0 (LR ρ (up (up sg0 1 0 0) 1 1 0) 0 (TSS 0) (fun _ => 0) []) := by
  unfold SC0
  rw [TSS_0, ar_zero]
  rfl
end Pk
