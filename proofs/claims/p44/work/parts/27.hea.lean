/-! THE CLASS'S CELLS (σ: the school as the model holds it too; M: all else), THE MODEL'S CELLS; their rules -/
def hc (σ M : Nat → Nat → Nat) (R : ab_H) : ab_H :=
  .inl (11, [.ref 1, .ref 12, .ref 15, .ref 18, .ref 19, .ref 28, .ref 37, .ref 40, .ref 43, .ref 44, .ref 52, .ref 54, .ref 61, .int (nI (M 0 13))]) ::
  .inl (6, [.int (nI (σ 1 0)), .int (nI (σ 1 1)), .int (nI (σ 1 2)), .int (nI (σ 1 3)), .int (nI (σ 1 4)), .int (nI (σ 1 5)), .int (nI (σ 1 6)), .int (nI (σ 1 7)), .int (nI (M 1 8)), .ref 2, .ref 3, .ref 4, .ref 5, .ref 6, .ref 7, .ref 8, .ref 9, .ref 10, .ref 11]) ::
  oI (ar 4 (σ 2)) ::
  oI (ar 4 (σ 3)) ::
  oI (ar 3 (σ 4)) ::
  oI (ar 6 (σ 5)) ::
  oI (ar 6 (σ 6)) ::
  oI (ar 6 (σ 7)) ::
  oI (ar 10 (σ 8)) ::
  oI (ar 10 (σ 9)) ::
  oI (ar 10 (σ 10)) ::
  oI (ar 3 (σ 11)) ::
  .inl (9, [.int (nI (M 12 0)), .int (nI (M 12 1)), .ref 13, .ref 14]) ::
  oI (ar 6 (M 13)) ::
  oI (ar 6 (M 14)) ::
  .inl (9, [.int (nI (M 15 0)), .int (nI (M 15 1)), .ref 16, .ref 17]) ::
  oI (ar 6 (M 16)) ::
  oI (ar 6 (M 17)) ::
  .inl (2, [.ref 1]) ::
  .inl (3, [.ref 1, .ref 20, .ref 21, .ref 22, .ref 23, .ref 24, .ref 25, .ref 26, .ref 27, .int (nI (M 19 9)), .int (nI (M 19 10)), .int (nI (M 19 11))]) ::
  oI (ar 6 (M 20)) ::
  oI (ar 6 (M 21)) ::
  oI (ar 4 (M 22)) ::
  oI (ar 216 (M 23)) ::
  oI (ar 216 (M 24)) ::
  oI (ar 36 (M 25)) ::
  oI (ar 108 (M 26)) ::
  oI (ar 36 (M 27)) ::
  .inl (7, [.ref 1, .ref 19, .ref 29, .ref 32, .ref 33, .ref 34, .ref 35, .ref 36, .int (nI (M 28 8)), .int (nI (M 28 9)), .int (nI (M 28 10)), .int (nI (M 28 11))]) ::
  .inl (9, [.int (nI (M 29 0)), .int (nI (M 29 1)), .ref 30, .ref 31]) ::
  oI (ar 6 (M 30)) ::
  oI (ar 6 (M 31)) ::
  oI (ar 42 (M 32)) ::
  oI (ar 6 (M 33)) ::
  oI (ar 6 (M 34)) ::
  oI (ar 6 (M 35)) ::
  oI (ar 4 (M 36)) ::
  .inl (10, [.ref 1, .ref 19, .ref 38, .ref 39, .int (nI (M 37 4))]) ::
  oI (ar 6 (M 38)) ::
  oI (ar 6 (M 39)) ::
  .inl (5, [.ref 1, .ref 18, .ref 19, .ref 28, .ref 41, .int (nI (M 40 5)), .ref 42, .int (nI (M 40 7)), .int (nI (M 40 8))]) ::
  oI (ar 252 (M 41)) ::
  oI (ar 64 (M 42)) ::
  .inl (8, [.ref 1]) ::
  .inl (4, [.ref 1, .ref 18, .ref 45, .ref 48, .ref 51, .int (nI (M 44 5))]) ::
  .inl (9, [.int (nI (M 45 0)), .int (nI (M 45 1)), .ref 46, .ref 47]) ::
  oI (ar 6 (M 46)) ::
  oI (ar 6 (M 47)) ::
  .inl (9, [.int (nI (M 48 0)), .int (nI (M 48 1)), .ref 49, .ref 50]) ::
  oI (ar 6 (M 49)) ::
  oI (ar 6 (M 50)) ::
  oI (ar 4 (M 51)) ::
  .inl (1, [.ref 1, .ref 53]) ::
  oI (ar 6 (M 53)) ::
  .inl (0, [.ref 1, .ref 18, .ref 37, .ref 55, .ref 58, .int (nI (M 54 5)), .int (nI (M 54 6)), .int (nI (M 54 7)), .int (nI (M 54 8)), .int (nI (M 54 9)), .int (nI (M 54 10))]) ::
  .inl (9, [.int (nI (M 55 0)), .int (nI (M 55 1)), .ref 56, .ref 57]) ::
  oI (ar 6 (M 56)) ::
  oI (ar 6 (M 57)) ::
  .inl (9, [.int (nI (M 58 0)), .int (nI (M 58 1)), .ref 59, .ref 60]) ::
  oI (ar 6 (M 59)) ::
  oI (ar 6 (M 60)) ::
  oB (ar 7 (M 61)) :: R
def ur (M : Nat → Nat → Nat) (a : Nat) (f : Nat → Nat) : Nat → Nat → Nat := fun b => if b = a then f else M b
abbrev TT (t : Nat) : Prop := t = 12 ∨ t = 15 ∨ t = 29 ∨ t = 45 ∨ t = 48 ∨ t = 55 ∨ t = 58
def cls (h : ab_H) (x : Nat) : Option Nat := match h[x]? with
  | some (.inl (ci, _)) => some ci
  | _ => none
section Hr
variable {xs : List Int32} {d m n : Nat} {hs : List (Nat × Nat)} {t : ab_T} {r : List ab_I} {q : Nat × Nat × Nat} {L st : List Value} {h : ab_H} {σ M : Nat → Nat → Nat} {R : ab_H} {k v : Nat}
theorem gF_54_0 {j : _} : rt xs d m hs t ((.getfield j, n, 0, 0) :: r) (L, .ref 54 :: st, hc σ M R) = rt xs d m hs t r (L, .ref 1 :: st, hc σ M R) := q_gf rfl rfl
theorem gF_54_1 {j : _} : rt xs d m hs t ((.getfield j, n, 0, 1) :: r) (L, .ref 54 :: st, hc σ M R) = rt xs d m hs t r (L, .ref 18 :: st, hc σ M R) := q_gf rfl rfl
theorem gF_54_2 {j : _} : rt xs d m hs t ((.getfield j, n, 0, 2) :: r) (L, .ref 54 :: st, hc σ M R) = rt xs d m hs t r (L, .ref 37 :: st, hc σ M R) := q_gf rfl rfl
theorem gF_54_3 {j : _} : rt xs d m hs t ((.getfield j, n, 0, 3) :: r) (L, .ref 54 :: st, hc σ M R) = rt xs d m hs t r (L, .ref 55 :: st, hc σ M R) := q_gf rfl rfl
theorem gF_54_4 {j : _} : rt xs d m hs t ((.getfield j, n, 0, 4) :: r) (L, .ref 54 :: st, hc σ M R) = rt xs d m hs t r (L, .ref 58 :: st, hc σ M R) := q_gf rfl rfl
theorem gF_54_5 {j : _} : rt xs d m hs t ((.getfield j, n, 0, 5) :: r) (L, .ref 54 :: st, hc σ M R) = rt xs d m hs t r (L, .int (nI (M 54 5)) :: st, hc σ M R) := q_gf rfl rfl
theorem gF_54_6 {j : _} : rt xs d m hs t ((.getfield j, n, 0, 6) :: r) (L, .ref 54 :: st, hc σ M R) = rt xs d m hs t r (L, .int (nI (M 54 6)) :: st, hc σ M R) := q_gf rfl rfl
theorem gF_54_7 {j : _} : rt xs d m hs t ((.getfield j, n, 0, 7) :: r) (L, .ref 54 :: st, hc σ M R) = rt xs d m hs t r (L, .int (nI (M 54 7)) :: st, hc σ M R) := q_gf rfl rfl
theorem gF_54_8 {j : _} : rt xs d m hs t ((.getfield j, n, 0, 8) :: r) (L, .ref 54 :: st, hc σ M R) = rt xs d m hs t r (L, .int (nI (M 54 8)) :: st, hc σ M R) := q_gf rfl rfl
theorem gF_54_9 {j : _} : rt xs d m hs t ((.getfield j, n, 0, 9) :: r) (L, .ref 54 :: st, hc σ M R) = rt xs d m hs t r (L, .int (nI (M 54 9)) :: st, hc σ M R) := q_gf rfl rfl
theorem gF_54_10 {j : _} : rt xs d m hs t ((.getfield j, n, 0, 10) :: r) (L, .ref 54 :: st, hc σ M R) = rt xs d m hs t r (L, .int (nI (M 54 10)) :: st, hc σ M R) := q_gf rfl rfl
theorem gF_52_0 {j : _} : rt xs d m hs t ((.getfield j, n, 1, 0) :: r) (L, .ref 52 :: st, hc σ M R) = rt xs d m hs t r (L, .ref 1 :: st, hc σ M R) := q_gf rfl rfl
theorem gF_52_1 {j : _} : rt xs d m hs t ((.getfield j, n, 1, 1) :: r) (L, .ref 52 :: st, hc σ M R) = rt xs d m hs t r (L, .ref 53 :: st, hc σ M R) := q_gf rfl rfl
theorem gF_18_0 {j : _} : rt xs d m hs t ((.getfield j, n, 2, 0) :: r) (L, .ref 18 :: st, hc σ M R) = rt xs d m hs t r (L, .ref 1 :: st, hc σ M R) := q_gf rfl rfl
theorem gF_19_0 {j : _} : rt xs d m hs t ((.getfield j, n, 3, 0) :: r) (L, .ref 19 :: st, hc σ M R) = rt xs d m hs t r (L, .ref 1 :: st, hc σ M R) := q_gf rfl rfl
theorem gF_19_1 {j : _} : rt xs d m hs t ((.getfield j, n, 3, 1) :: r) (L, .ref 19 :: st, hc σ M R) = rt xs d m hs t r (L, .ref 20 :: st, hc σ M R) := q_gf rfl rfl
theorem gF_19_2 {j : _} : rt xs d m hs t ((.getfield j, n, 3, 2) :: r) (L, .ref 19 :: st, hc σ M R) = rt xs d m hs t r (L, .ref 21 :: st, hc σ M R) := q_gf rfl rfl
theorem gF_19_3 {j : _} : rt xs d m hs t ((.getfield j, n, 3, 3) :: r) (L, .ref 19 :: st, hc σ M R) = rt xs d m hs t r (L, .ref 22 :: st, hc σ M R) := q_gf rfl rfl
theorem gF_19_4 {j : _} : rt xs d m hs t ((.getfield j, n, 3, 4) :: r) (L, .ref 19 :: st, hc σ M R) = rt xs d m hs t r (L, .ref 23 :: st, hc σ M R) := q_gf rfl rfl
theorem gF_19_5 {j : _} : rt xs d m hs t ((.getfield j, n, 3, 5) :: r) (L, .ref 19 :: st, hc σ M R) = rt xs d m hs t r (L, .ref 24 :: st, hc σ M R) := q_gf rfl rfl
theorem gF_19_6 {j : _} : rt xs d m hs t ((.getfield j, n, 3, 6) :: r) (L, .ref 19 :: st, hc σ M R) = rt xs d m hs t r (L, .ref 25 :: st, hc σ M R) := q_gf rfl rfl
theorem gF_19_7 {j : _} : rt xs d m hs t ((.getfield j, n, 3, 7) :: r) (L, .ref 19 :: st, hc σ M R) = rt xs d m hs t r (L, .ref 26 :: st, hc σ M R) := q_gf rfl rfl
theorem gF_19_8 {j : _} : rt xs d m hs t ((.getfield j, n, 3, 8) :: r) (L, .ref 19 :: st, hc σ M R) = rt xs d m hs t r (L, .ref 27 :: st, hc σ M R) := q_gf rfl rfl
theorem gF_19_9 {j : _} : rt xs d m hs t ((.getfield j, n, 3, 9) :: r) (L, .ref 19 :: st, hc σ M R) = rt xs d m hs t r (L, .int (nI (M 19 9)) :: st, hc σ M R) := q_gf rfl rfl
theorem gF_19_10 {j : _} : rt xs d m hs t ((.getfield j, n, 3, 10) :: r) (L, .ref 19 :: st, hc σ M R) = rt xs d m hs t r (L, .int (nI (M 19 10)) :: st, hc σ M R) := q_gf rfl rfl
theorem gF_19_11 {j : _} : rt xs d m hs t ((.getfield j, n, 3, 11) :: r) (L, .ref 19 :: st, hc σ M R) = rt xs d m hs t r (L, .int (nI (M 19 11)) :: st, hc σ M R) := q_gf rfl rfl
theorem gF_44_0 {j : _} : rt xs d m hs t ((.getfield j, n, 4, 0) :: r) (L, .ref 44 :: st, hc σ M R) = rt xs d m hs t r (L, .ref 1 :: st, hc σ M R) := q_gf rfl rfl
theorem gF_44_1 {j : _} : rt xs d m hs t ((.getfield j, n, 4, 1) :: r) (L, .ref 44 :: st, hc σ M R) = rt xs d m hs t r (L, .ref 18 :: st, hc σ M R) := q_gf rfl rfl
theorem gF_44_2 {j : _} : rt xs d m hs t ((.getfield j, n, 4, 2) :: r) (L, .ref 44 :: st, hc σ M R) = rt xs d m hs t r (L, .ref 45 :: st, hc σ M R) := q_gf rfl rfl
theorem gF_44_3 {j : _} : rt xs d m hs t ((.getfield j, n, 4, 3) :: r) (L, .ref 44 :: st, hc σ M R) = rt xs d m hs t r (L, .ref 48 :: st, hc σ M R) := q_gf rfl rfl
theorem gF_44_4 {j : _} : rt xs d m hs t ((.getfield j, n, 4, 4) :: r) (L, .ref 44 :: st, hc σ M R) = rt xs d m hs t r (L, .ref 51 :: st, hc σ M R) := q_gf rfl rfl
theorem gF_44_5 {j : _} : rt xs d m hs t ((.getfield j, n, 4, 5) :: r) (L, .ref 44 :: st, hc σ M R) = rt xs d m hs t r (L, .int (nI (M 44 5)) :: st, hc σ M R) := q_gf rfl rfl
theorem gF_40_0 {j : _} : rt xs d m hs t ((.getfield j, n, 5, 0) :: r) (L, .ref 40 :: st, hc σ M R) = rt xs d m hs t r (L, .ref 1 :: st, hc σ M R) := q_gf rfl rfl
theorem gF_40_1 {j : _} : rt xs d m hs t ((.getfield j, n, 5, 1) :: r) (L, .ref 40 :: st, hc σ M R) = rt xs d m hs t r (L, .ref 18 :: st, hc σ M R) := q_gf rfl rfl
theorem gF_40_2 {j : _} : rt xs d m hs t ((.getfield j, n, 5, 2) :: r) (L, .ref 40 :: st, hc σ M R) = rt xs d m hs t r (L, .ref 19 :: st, hc σ M R) := q_gf rfl rfl
theorem gF_40_3 {j : _} : rt xs d m hs t ((.getfield j, n, 5, 3) :: r) (L, .ref 40 :: st, hc σ M R) = rt xs d m hs t r (L, .ref 28 :: st, hc σ M R) := q_gf rfl rfl
theorem gF_40_4 {j : _} : rt xs d m hs t ((.getfield j, n, 5, 4) :: r) (L, .ref 40 :: st, hc σ M R) = rt xs d m hs t r (L, .ref 41 :: st, hc σ M R) := q_gf rfl rfl
theorem gF_40_5 {j : _} : rt xs d m hs t ((.getfield j, n, 5, 5) :: r) (L, .ref 40 :: st, hc σ M R) = rt xs d m hs t r (L, .int (nI (M 40 5)) :: st, hc σ M R) := q_gf rfl rfl
theorem gF_40_6 {j : _} : rt xs d m hs t ((.getfield j, n, 5, 6) :: r) (L, .ref 40 :: st, hc σ M R) = rt xs d m hs t r (L, .ref 42 :: st, hc σ M R) := q_gf rfl rfl
theorem gF_40_7 {j : _} : rt xs d m hs t ((.getfield j, n, 5, 7) :: r) (L, .ref 40 :: st, hc σ M R) = rt xs d m hs t r (L, .int (nI (M 40 7)) :: st, hc σ M R) := q_gf rfl rfl
theorem gF_40_8 {j : _} : rt xs d m hs t ((.getfield j, n, 5, 8) :: r) (L, .ref 40 :: st, hc σ M R) = rt xs d m hs t r (L, .int (nI (M 40 8)) :: st, hc σ M R) := q_gf rfl rfl
theorem gF_1_0 {j : _} : rt xs d m hs t ((.getfield j, n, 6, 0) :: r) (L, .ref 1 :: st, hc σ M R) = rt xs d m hs t r (L, .int (nI (σ 1 0)) :: st, hc σ M R) := q_gf rfl rfl
theorem gF_1_1 {j : _} : rt xs d m hs t ((.getfield j, n, 6, 1) :: r) (L, .ref 1 :: st, hc σ M R) = rt xs d m hs t r (L, .int (nI (σ 1 1)) :: st, hc σ M R) := q_gf rfl rfl
theorem gF_1_2 {j : _} : rt xs d m hs t ((.getfield j, n, 6, 2) :: r) (L, .ref 1 :: st, hc σ M R) = rt xs d m hs t r (L, .int (nI (σ 1 2)) :: st, hc σ M R) := q_gf rfl rfl
theorem gF_1_3 {j : _} : rt xs d m hs t ((.getfield j, n, 6, 3) :: r) (L, .ref 1 :: st, hc σ M R) = rt xs d m hs t r (L, .int (nI (σ 1 3)) :: st, hc σ M R) := q_gf rfl rfl
theorem gF_1_4 {j : _} : rt xs d m hs t ((.getfield j, n, 6, 4) :: r) (L, .ref 1 :: st, hc σ M R) = rt xs d m hs t r (L, .int (nI (σ 1 4)) :: st, hc σ M R) := q_gf rfl rfl
theorem gF_1_5 {j : _} : rt xs d m hs t ((.getfield j, n, 6, 5) :: r) (L, .ref 1 :: st, hc σ M R) = rt xs d m hs t r (L, .int (nI (σ 1 5)) :: st, hc σ M R) := q_gf rfl rfl
theorem gF_1_6 {j : _} : rt xs d m hs t ((.getfield j, n, 6, 6) :: r) (L, .ref 1 :: st, hc σ M R) = rt xs d m hs t r (L, .int (nI (σ 1 6)) :: st, hc σ M R) := q_gf rfl rfl
theorem gF_1_7 {j : _} : rt xs d m hs t ((.getfield j, n, 6, 7) :: r) (L, .ref 1 :: st, hc σ M R) = rt xs d m hs t r (L, .int (nI (σ 1 7)) :: st, hc σ M R) := q_gf rfl rfl
theorem gF_1_8 {j : _} : rt xs d m hs t ((.getfield j, n, 6, 8) :: r) (L, .ref 1 :: st, hc σ M R) = rt xs d m hs t r (L, .int (nI (M 1 8)) :: st, hc σ M R) := q_gf rfl rfl
theorem gF_1_9 {j : _} : rt xs d m hs t ((.getfield j, n, 6, 9) :: r) (L, .ref 1 :: st, hc σ M R) = rt xs d m hs t r (L, .ref 2 :: st, hc σ M R) := q_gf rfl rfl
theorem gF_1_10 {j : _} : rt xs d m hs t ((.getfield j, n, 6, 10) :: r) (L, .ref 1 :: st, hc σ M R) = rt xs d m hs t r (L, .ref 3 :: st, hc σ M R) := q_gf rfl rfl
theorem gF_1_11 {j : _} : rt xs d m hs t ((.getfield j, n, 6, 11) :: r) (L, .ref 1 :: st, hc σ M R) = rt xs d m hs t r (L, .ref 4 :: st, hc σ M R) := q_gf rfl rfl
theorem gF_1_12 {j : _} : rt xs d m hs t ((.getfield j, n, 6, 12) :: r) (L, .ref 1 :: st, hc σ M R) = rt xs d m hs t r (L, .ref 5 :: st, hc σ M R) := q_gf rfl rfl
theorem gF_1_13 {j : _} : rt xs d m hs t ((.getfield j, n, 6, 13) :: r) (L, .ref 1 :: st, hc σ M R) = rt xs d m hs t r (L, .ref 6 :: st, hc σ M R) := q_gf rfl rfl
theorem gF_1_14 {j : _} : rt xs d m hs t ((.getfield j, n, 6, 14) :: r) (L, .ref 1 :: st, hc σ M R) = rt xs d m hs t r (L, .ref 7 :: st, hc σ M R) := q_gf rfl rfl
theorem gF_1_15 {j : _} : rt xs d m hs t ((.getfield j, n, 6, 15) :: r) (L, .ref 1 :: st, hc σ M R) = rt xs d m hs t r (L, .ref 8 :: st, hc σ M R) := q_gf rfl rfl
theorem gF_1_16 {j : _} : rt xs d m hs t ((.getfield j, n, 6, 16) :: r) (L, .ref 1 :: st, hc σ M R) = rt xs d m hs t r (L, .ref 9 :: st, hc σ M R) := q_gf rfl rfl
theorem gF_1_17 {j : _} : rt xs d m hs t ((.getfield j, n, 6, 17) :: r) (L, .ref 1 :: st, hc σ M R) = rt xs d m hs t r (L, .ref 10 :: st, hc σ M R) := q_gf rfl rfl
theorem gF_1_18 {j : _} : rt xs d m hs t ((.getfield j, n, 6, 18) :: r) (L, .ref 1 :: st, hc σ M R) = rt xs d m hs t r (L, .ref 11 :: st, hc σ M R) := q_gf rfl rfl
theorem gF_28_0 {j : _} : rt xs d m hs t ((.getfield j, n, 7, 0) :: r) (L, .ref 28 :: st, hc σ M R) = rt xs d m hs t r (L, .ref 1 :: st, hc σ M R) := q_gf rfl rfl
theorem gF_28_1 {j : _} : rt xs d m hs t ((.getfield j, n, 7, 1) :: r) (L, .ref 28 :: st, hc σ M R) = rt xs d m hs t r (L, .ref 19 :: st, hc σ M R) := q_gf rfl rfl
theorem gF_28_2 {j : _} : rt xs d m hs t ((.getfield j, n, 7, 2) :: r) (L, .ref 28 :: st, hc σ M R) = rt xs d m hs t r (L, .ref 29 :: st, hc σ M R) := q_gf rfl rfl
theorem gF_28_3 {j : _} : rt xs d m hs t ((.getfield j, n, 7, 3) :: r) (L, .ref 28 :: st, hc σ M R) = rt xs d m hs t r (L, .ref 32 :: st, hc σ M R) := q_gf rfl rfl
theorem gF_28_4 {j : _} : rt xs d m hs t ((.getfield j, n, 7, 4) :: r) (L, .ref 28 :: st, hc σ M R) = rt xs d m hs t r (L, .ref 33 :: st, hc σ M R) := q_gf rfl rfl
theorem gF_28_5 {j : _} : rt xs d m hs t ((.getfield j, n, 7, 5) :: r) (L, .ref 28 :: st, hc σ M R) = rt xs d m hs t r (L, .ref 34 :: st, hc σ M R) := q_gf rfl rfl
theorem gF_28_6 {j : _} : rt xs d m hs t ((.getfield j, n, 7, 6) :: r) (L, .ref 28 :: st, hc σ M R) = rt xs d m hs t r (L, .ref 35 :: st, hc σ M R) := q_gf rfl rfl
theorem gF_28_7 {j : _} : rt xs d m hs t ((.getfield j, n, 7, 7) :: r) (L, .ref 28 :: st, hc σ M R) = rt xs d m hs t r (L, .ref 36 :: st, hc σ M R) := q_gf rfl rfl
theorem gF_28_8 {j : _} : rt xs d m hs t ((.getfield j, n, 7, 8) :: r) (L, .ref 28 :: st, hc σ M R) = rt xs d m hs t r (L, .int (nI (M 28 8)) :: st, hc σ M R) := q_gf rfl rfl
theorem gF_28_9 {j : _} : rt xs d m hs t ((.getfield j, n, 7, 9) :: r) (L, .ref 28 :: st, hc σ M R) = rt xs d m hs t r (L, .int (nI (M 28 9)) :: st, hc σ M R) := q_gf rfl rfl
theorem gF_28_10 {j : _} : rt xs d m hs t ((.getfield j, n, 7, 10) :: r) (L, .ref 28 :: st, hc σ M R) = rt xs d m hs t r (L, .int (nI (M 28 10)) :: st, hc σ M R) := q_gf rfl rfl
theorem gF_28_11 {j : _} : rt xs d m hs t ((.getfield j, n, 7, 11) :: r) (L, .ref 28 :: st, hc σ M R) = rt xs d m hs t r (L, .int (nI (M 28 11)) :: st, hc σ M R) := q_gf rfl rfl
theorem gF_43_0 {j : _} : rt xs d m hs t ((.getfield j, n, 8, 0) :: r) (L, .ref 43 :: st, hc σ M R) = rt xs d m hs t r (L, .ref 1 :: st, hc σ M R) := q_gf rfl rfl
theorem gF_37_0 {j : _} : rt xs d m hs t ((.getfield j, n, 10, 0) :: r) (L, .ref 37 :: st, hc σ M R) = rt xs d m hs t r (L, .ref 1 :: st, hc σ M R) := q_gf rfl rfl
theorem gF_37_1 {j : _} : rt xs d m hs t ((.getfield j, n, 10, 1) :: r) (L, .ref 37 :: st, hc σ M R) = rt xs d m hs t r (L, .ref 19 :: st, hc σ M R) := q_gf rfl rfl
theorem gF_37_2 {j : _} : rt xs d m hs t ((.getfield j, n, 10, 2) :: r) (L, .ref 37 :: st, hc σ M R) = rt xs d m hs t r (L, .ref 38 :: st, hc σ M R) := q_gf rfl rfl
theorem gF_37_3 {j : _} : rt xs d m hs t ((.getfield j, n, 10, 3) :: r) (L, .ref 37 :: st, hc σ M R) = rt xs d m hs t r (L, .ref 39 :: st, hc σ M R) := q_gf rfl rfl
theorem gF_37_4 {j : _} : rt xs d m hs t ((.getfield j, n, 10, 4) :: r) (L, .ref 37 :: st, hc σ M R) = rt xs d m hs t r (L, .int (nI (M 37 4)) :: st, hc σ M R) := q_gf rfl rfl
theorem gF_0_0 {j : _} : rt xs d m hs t ((.getfield j, n, 11, 0) :: r) (L, .ref 0 :: st, hc σ M R) = rt xs d m hs t r (L, .ref 1 :: st, hc σ M R) := q_gf rfl rfl
theorem gF_0_1 {j : _} : rt xs d m hs t ((.getfield j, n, 11, 1) :: r) (L, .ref 0 :: st, hc σ M R) = rt xs d m hs t r (L, .ref 12 :: st, hc σ M R) := q_gf rfl rfl
theorem gF_0_2 {j : _} : rt xs d m hs t ((.getfield j, n, 11, 2) :: r) (L, .ref 0 :: st, hc σ M R) = rt xs d m hs t r (L, .ref 15 :: st, hc σ M R) := q_gf rfl rfl
theorem gF_0_3 {j : _} : rt xs d m hs t ((.getfield j, n, 11, 3) :: r) (L, .ref 0 :: st, hc σ M R) = rt xs d m hs t r (L, .ref 18 :: st, hc σ M R) := q_gf rfl rfl
theorem gF_0_4 {j : _} : rt xs d m hs t ((.getfield j, n, 11, 4) :: r) (L, .ref 0 :: st, hc σ M R) = rt xs d m hs t r (L, .ref 19 :: st, hc σ M R) := q_gf rfl rfl
theorem gF_0_5 {j : _} : rt xs d m hs t ((.getfield j, n, 11, 5) :: r) (L, .ref 0 :: st, hc σ M R) = rt xs d m hs t r (L, .ref 28 :: st, hc σ M R) := q_gf rfl rfl
theorem gF_0_6 {j : _} : rt xs d m hs t ((.getfield j, n, 11, 6) :: r) (L, .ref 0 :: st, hc σ M R) = rt xs d m hs t r (L, .ref 37 :: st, hc σ M R) := q_gf rfl rfl
theorem gF_0_7 {j : _} : rt xs d m hs t ((.getfield j, n, 11, 7) :: r) (L, .ref 0 :: st, hc σ M R) = rt xs d m hs t r (L, .ref 40 :: st, hc σ M R) := q_gf rfl rfl
theorem gF_0_8 {j : _} : rt xs d m hs t ((.getfield j, n, 11, 8) :: r) (L, .ref 0 :: st, hc σ M R) = rt xs d m hs t r (L, .ref 43 :: st, hc σ M R) := q_gf rfl rfl
theorem gF_0_9 {j : _} : rt xs d m hs t ((.getfield j, n, 11, 9) :: r) (L, .ref 0 :: st, hc σ M R) = rt xs d m hs t r (L, .ref 44 :: st, hc σ M R) := q_gf rfl rfl
theorem gF_0_10 {j : _} : rt xs d m hs t ((.getfield j, n, 11, 10) :: r) (L, .ref 0 :: st, hc σ M R) = rt xs d m hs t r (L, .ref 52 :: st, hc σ M R) := q_gf rfl rfl
theorem gF_0_11 {j : _} : rt xs d m hs t ((.getfield j, n, 11, 11) :: r) (L, .ref 0 :: st, hc σ M R) = rt xs d m hs t r (L, .ref 54 :: st, hc σ M R) := q_gf rfl rfl
theorem gP_54_5 {j : _} (hv : v < 2) : rt xs d m hs t ((.putfield j, n, 0, 5) :: r) (L, .int (nI v) :: .ref 54 :: st, hc σ M R) = rt xs d m hs t r (L, st, hc σ (up M 54 5 v) R) := (q_pf (ci := 0) (f := 5) (v := .int (nI v)) rfl (Nat.le_of_ble_eq_true rfl) (bt_i v hv)).trans rfl
theorem gQ_54_5 {j : _} {b : Bool} : rt xs d m hs t ((.putfield j, n, 0, 5) :: r) (L, .int (nI (b1 b)) :: .ref 54 :: st, hc σ M R) = rt xs d m hs t r (L, st, hc σ (up M 54 5 (b1 b)) R) := gP_54_5 (b1_lt b)
theorem gP_54_6 {j : _} (hv : v < 2) : rt xs d m hs t ((.putfield j, n, 0, 6) :: r) (L, .int (nI v) :: .ref 54 :: st, hc σ M R) = rt xs d m hs t r (L, st, hc σ (up M 54 6 v) R) := (q_pf (ci := 0) (f := 6) (v := .int (nI v)) rfl (Nat.le_of_ble_eq_true rfl) (bt_i v hv)).trans rfl
theorem gQ_54_6 {j : _} {b : Bool} : rt xs d m hs t ((.putfield j, n, 0, 6) :: r) (L, .int (nI (b1 b)) :: .ref 54 :: st, hc σ M R) = rt xs d m hs t r (L, st, hc σ (up M 54 6 (b1 b)) R) := gP_54_6 (b1_lt b)
theorem gP_54_7 {j : _} : rt xs d m hs t ((.putfield j, n, 0, 7) :: r) (L, .int (nI v) :: .ref 54 :: st, hc σ M R) = rt xs d m hs t r (L, st, hc σ (up M 54 7 v) R) := (q_pf rfl (Nat.le_of_ble_eq_true rfl) rfl).trans rfl
theorem gP_54_8 {j : _} : rt xs d m hs t ((.putfield j, n, 0, 8) :: r) (L, .int (nI v) :: .ref 54 :: st, hc σ M R) = rt xs d m hs t r (L, st, hc σ (up M 54 8 v) R) := (q_pf rfl (Nat.le_of_ble_eq_true rfl) rfl).trans rfl
theorem gP_54_9 {j : _} : rt xs d m hs t ((.putfield j, n, 0, 9) :: r) (L, .int (nI v) :: .ref 54 :: st, hc σ M R) = rt xs d m hs t r (L, st, hc σ (up M 54 9 v) R) := (q_pf rfl (Nat.le_of_ble_eq_true rfl) rfl).trans rfl
theorem gP_54_10 {j : _} (hv : v < 2) : rt xs d m hs t ((.putfield j, n, 0, 10) :: r) (L, .int (nI v) :: .ref 54 :: st, hc σ M R) = rt xs d m hs t r (L, st, hc σ (up M 54 10 v) R) := (q_pf (ci := 0) (f := 10) (v := .int (nI v)) rfl (Nat.le_of_ble_eq_true rfl) (bt_i v hv)).trans rfl
theorem gQ_54_10 {j : _} {b : Bool} : rt xs d m hs t ((.putfield j, n, 0, 10) :: r) (L, .int (nI (b1 b)) :: .ref 54 :: st, hc σ M R) = rt xs d m hs t r (L, st, hc σ (up M 54 10 (b1 b)) R) := gP_54_10 (b1_lt b)
theorem gP_19_9 {j : _} : rt xs d m hs t ((.putfield j, n, 3, 9) :: r) (L, .int (nI v) :: .ref 19 :: st, hc σ M R) = rt xs d m hs t r (L, st, hc σ (up M 19 9 v) R) := (q_pf rfl (Nat.le_of_ble_eq_true rfl) rfl).trans rfl
theorem gP_19_10 {j : _} : rt xs d m hs t ((.putfield j, n, 3, 10) :: r) (L, .int (nI v) :: .ref 19 :: st, hc σ M R) = rt xs d m hs t r (L, st, hc σ (up M 19 10 v) R) := (q_pf rfl (Nat.le_of_ble_eq_true rfl) rfl).trans rfl
theorem gP_19_11 {j : _} : rt xs d m hs t ((.putfield j, n, 3, 11) :: r) (L, .int (nI v) :: .ref 19 :: st, hc σ M R) = rt xs d m hs t r (L, st, hc σ (up M 19 11 v) R) := (q_pf rfl (Nat.le_of_ble_eq_true rfl) rfl).trans rfl
theorem gP_44_5 {j : _} : rt xs d m hs t ((.putfield j, n, 4, 5) :: r) (L, .int (nI v) :: .ref 44 :: st, hc σ M R) = rt xs d m hs t r (L, st, hc σ (up M 44 5 v) R) := (q_pf rfl (Nat.le_of_ble_eq_true rfl) rfl).trans rfl
theorem gP_40_5 {j : _} : rt xs d m hs t ((.putfield j, n, 5, 5) :: r) (L, .int (nI v) :: .ref 40 :: st, hc σ M R) = rt xs d m hs t r (L, st, hc σ (up M 40 5 v) R) := (q_pf rfl (Nat.le_of_ble_eq_true rfl) rfl).trans rfl
theorem gP_40_7 {j : _} : rt xs d m hs t ((.putfield j, n, 5, 7) :: r) (L, .int (nI v) :: .ref 40 :: st, hc σ M R) = rt xs d m hs t r (L, st, hc σ (up M 40 7 v) R) := (q_pf rfl (Nat.le_of_ble_eq_true rfl) rfl).trans rfl
theorem gP_40_8 {j : _} : rt xs d m hs t ((.putfield j, n, 5, 8) :: r) (L, .int (nI v) :: .ref 40 :: st, hc σ M R) = rt xs d m hs t r (L, st, hc σ (up M 40 8 v) R) := (q_pf rfl (Nat.le_of_ble_eq_true rfl) rfl).trans rfl
theorem gP_1_0 {j : _} : rt xs d m hs t ((.putfield j, n, 6, 0) :: r) (L, .int (nI v) :: .ref 1 :: st, hc σ M R) = rt xs d m hs t r (L, st, hc (up σ 1 0 v) M R) := (q_pf rfl (Nat.le_of_ble_eq_true rfl) rfl).trans rfl
theorem gP_1_1 {j : _} : rt xs d m hs t ((.putfield j, n, 6, 1) :: r) (L, .int (nI v) :: .ref 1 :: st, hc σ M R) = rt xs d m hs t r (L, st, hc (up σ 1 1 v) M R) := (q_pf rfl (Nat.le_of_ble_eq_true rfl) rfl).trans rfl
theorem gP_1_2 {j : _} : rt xs d m hs t ((.putfield j, n, 6, 2) :: r) (L, .int (nI v) :: .ref 1 :: st, hc σ M R) = rt xs d m hs t r (L, st, hc (up σ 1 2 v) M R) := (q_pf rfl (Nat.le_of_ble_eq_true rfl) rfl).trans rfl
theorem gP_1_3 {j : _} : rt xs d m hs t ((.putfield j, n, 6, 3) :: r) (L, .int (nI v) :: .ref 1 :: st, hc σ M R) = rt xs d m hs t r (L, st, hc (up σ 1 3 v) M R) := (q_pf rfl (Nat.le_of_ble_eq_true rfl) rfl).trans rfl
theorem gP_1_4 {j : _} : rt xs d m hs t ((.putfield j, n, 6, 4) :: r) (L, .int (nI v) :: .ref 1 :: st, hc σ M R) = rt xs d m hs t r (L, st, hc (up σ 1 4 v) M R) := (q_pf rfl (Nat.le_of_ble_eq_true rfl) rfl).trans rfl
theorem gP_1_5 {j : _} : rt xs d m hs t ((.putfield j, n, 6, 5) :: r) (L, .int (nI v) :: .ref 1 :: st, hc σ M R) = rt xs d m hs t r (L, st, hc (up σ 1 5 v) M R) := (q_pf rfl (Nat.le_of_ble_eq_true rfl) rfl).trans rfl
theorem gP_1_6 {j : _} : rt xs d m hs t ((.putfield j, n, 6, 6) :: r) (L, .int (nI v) :: .ref 1 :: st, hc σ M R) = rt xs d m hs t r (L, st, hc (up σ 1 6 v) M R) := (q_pf rfl (Nat.le_of_ble_eq_true rfl) rfl).trans rfl
theorem gP_1_7 {j : _} : rt xs d m hs t ((.putfield j, n, 6, 7) :: r) (L, .int (nI v) :: .ref 1 :: st, hc σ M R) = rt xs d m hs t r (L, st, hc (up σ 1 7 v) M R) := (q_pf rfl (Nat.le_of_ble_eq_true rfl) rfl).trans rfl
theorem gP_1_8 {j : _} : rt xs d m hs t ((.putfield j, n, 6, 8) :: r) (L, .int (nI v) :: .ref 1 :: st, hc σ M R) = rt xs d m hs t r (L, st, hc σ (up M 1 8 v) R) := (q_pf rfl (Nat.le_of_ble_eq_true rfl) rfl).trans rfl
theorem gP_28_8 {j : _} : rt xs d m hs t ((.putfield j, n, 7, 8) :: r) (L, .int (nI v) :: .ref 28 :: st, hc σ M R) = rt xs d m hs t r (L, st, hc σ (up M 28 8 v) R) := (q_pf rfl (Nat.le_of_ble_eq_true rfl) rfl).trans rfl
theorem gP_28_9 {j : _} : rt xs d m hs t ((.putfield j, n, 7, 9) :: r) (L, .int (nI v) :: .ref 28 :: st, hc σ M R) = rt xs d m hs t r (L, st, hc σ (up M 28 9 v) R) := (q_pf rfl (Nat.le_of_ble_eq_true rfl) rfl).trans rfl
theorem gP_28_10 {j : _} : rt xs d m hs t ((.putfield j, n, 7, 10) :: r) (L, .int (nI v) :: .ref 28 :: st, hc σ M R) = rt xs d m hs t r (L, st, hc σ (up M 28 10 v) R) := (q_pf rfl (Nat.le_of_ble_eq_true rfl) rfl).trans rfl
theorem gP_28_11 {j : _} (hv : v < 2) : rt xs d m hs t ((.putfield j, n, 7, 11) :: r) (L, .int (nI v) :: .ref 28 :: st, hc σ M R) = rt xs d m hs t r (L, st, hc σ (up M 28 11 v) R) := (q_pf (ci := 7) (f := 11) (v := .int (nI v)) rfl (Nat.le_of_ble_eq_true rfl) (bt_i v hv)).trans rfl
theorem gQ_28_11 {j : _} {b : Bool} : rt xs d m hs t ((.putfield j, n, 7, 11) :: r) (L, .int (nI (b1 b)) :: .ref 28 :: st, hc σ M R) = rt xs d m hs t r (L, st, hc σ (up M 28 11 (b1 b)) R) := gP_28_11 (b1_lt b)
theorem gP_37_4 {j : _} : rt xs d m hs t ((.putfield j, n, 10, 4) :: r) (L, .int (nI v) :: .ref 37 :: st, hc σ M R) = rt xs d m hs t r (L, st, hc σ (up M 37 4 v) R) := (q_pf rfl (Nat.le_of_ble_eq_true rfl) rfl).trans rfl
theorem gP_0_13 {j : _} : rt xs d m hs t ((.putfield j, n, 11, 13) :: r) (L, .int (nI v) :: .ref 0 :: st, hc σ M R) = rt xs d m hs t r (L, st, hc σ (up M 0 13 v) R) := (q_pf rfl (Nat.le_of_ble_eq_true rfl) rfl).trans rfl
theorem gA_2 (hk : k < 4) : rt xs d m hs t ((.iaload, q) :: r) (L, .int (nI k) :: .ref 2 :: st, hc σ M R) = rt xs d m hs t r (L, .int (nI (σ 2 k)) :: st, hc σ M R) := q_ia rfl hk (by decide)
theorem gW_2 (hk : k < 4) : rt xs d m hs t ((.iastore, q) :: r) (L, .int (nI v) :: .int (nI k) :: .ref 2 :: st, hc σ M R) = rt xs d m hs t r (L, st, hc (up σ 2 k v) M R) := (q_is rfl hk (by decide)).trans rfl
theorem gA_3 (hk : k < 4) : rt xs d m hs t ((.iaload, q) :: r) (L, .int (nI k) :: .ref 3 :: st, hc σ M R) = rt xs d m hs t r (L, .int (nI (σ 3 k)) :: st, hc σ M R) := q_ia rfl hk (by decide)
theorem gW_3 (hk : k < 4) : rt xs d m hs t ((.iastore, q) :: r) (L, .int (nI v) :: .int (nI k) :: .ref 3 :: st, hc σ M R) = rt xs d m hs t r (L, st, hc (up σ 3 k v) M R) := (q_is rfl hk (by decide)).trans rfl
theorem gA_4 (hk : k < 3) : rt xs d m hs t ((.iaload, q) :: r) (L, .int (nI k) :: .ref 4 :: st, hc σ M R) = rt xs d m hs t r (L, .int (nI (σ 4 k)) :: st, hc σ M R) := q_ia rfl hk (by decide)
theorem gW_4 (hk : k < 3) : rt xs d m hs t ((.iastore, q) :: r) (L, .int (nI v) :: .int (nI k) :: .ref 4 :: st, hc σ M R) = rt xs d m hs t r (L, st, hc (up σ 4 k v) M R) := (q_is rfl hk (by decide)).trans rfl
theorem gA_5 (hk : k < 6) : rt xs d m hs t ((.iaload, q) :: r) (L, .int (nI k) :: .ref 5 :: st, hc σ M R) = rt xs d m hs t r (L, .int (nI (σ 5 k)) :: st, hc σ M R) := q_ia rfl hk (by decide)
theorem gW_5 (hk : k < 6) : rt xs d m hs t ((.iastore, q) :: r) (L, .int (nI v) :: .int (nI k) :: .ref 5 :: st, hc σ M R) = rt xs d m hs t r (L, st, hc (up σ 5 k v) M R) := (q_is rfl hk (by decide)).trans rfl
theorem gA_6 (hk : k < 6) : rt xs d m hs t ((.iaload, q) :: r) (L, .int (nI k) :: .ref 6 :: st, hc σ M R) = rt xs d m hs t r (L, .int (nI (σ 6 k)) :: st, hc σ M R) := q_ia rfl hk (by decide)
theorem gW_6 (hk : k < 6) : rt xs d m hs t ((.iastore, q) :: r) (L, .int (nI v) :: .int (nI k) :: .ref 6 :: st, hc σ M R) = rt xs d m hs t r (L, st, hc (up σ 6 k v) M R) := (q_is rfl hk (by decide)).trans rfl
theorem gA_7 (hk : k < 6) : rt xs d m hs t ((.iaload, q) :: r) (L, .int (nI k) :: .ref 7 :: st, hc σ M R) = rt xs d m hs t r (L, .int (nI (σ 7 k)) :: st, hc σ M R) := q_ia rfl hk (by decide)
theorem gW_7 (hk : k < 6) : rt xs d m hs t ((.iastore, q) :: r) (L, .int (nI v) :: .int (nI k) :: .ref 7 :: st, hc σ M R) = rt xs d m hs t r (L, st, hc (up σ 7 k v) M R) := (q_is rfl hk (by decide)).trans rfl
theorem gA_8 (hk : k < 10) : rt xs d m hs t ((.iaload, q) :: r) (L, .int (nI k) :: .ref 8 :: st, hc σ M R) = rt xs d m hs t r (L, .int (nI (σ 8 k)) :: st, hc σ M R) := q_ia rfl hk (by decide)
theorem gW_8 (hk : k < 10) : rt xs d m hs t ((.iastore, q) :: r) (L, .int (nI v) :: .int (nI k) :: .ref 8 :: st, hc σ M R) = rt xs d m hs t r (L, st, hc (up σ 8 k v) M R) := (q_is rfl hk (by decide)).trans rfl
theorem gA_9 (hk : k < 10) : rt xs d m hs t ((.iaload, q) :: r) (L, .int (nI k) :: .ref 9 :: st, hc σ M R) = rt xs d m hs t r (L, .int (nI (σ 9 k)) :: st, hc σ M R) := q_ia rfl hk (by decide)
theorem gW_9 (hk : k < 10) : rt xs d m hs t ((.iastore, q) :: r) (L, .int (nI v) :: .int (nI k) :: .ref 9 :: st, hc σ M R) = rt xs d m hs t r (L, st, hc (up σ 9 k v) M R) := (q_is rfl hk (by decide)).trans rfl
theorem gA_10 (hk : k < 10) : rt xs d m hs t ((.iaload, q) :: r) (L, .int (nI k) :: .ref 10 :: st, hc σ M R) = rt xs d m hs t r (L, .int (nI (σ 10 k)) :: st, hc σ M R) := q_ia rfl hk (by decide)
theorem gW_10 (hk : k < 10) : rt xs d m hs t ((.iastore, q) :: r) (L, .int (nI v) :: .int (nI k) :: .ref 10 :: st, hc σ M R) = rt xs d m hs t r (L, st, hc (up σ 10 k v) M R) := (q_is rfl hk (by decide)).trans rfl
theorem gA_11 (hk : k < 3) : rt xs d m hs t ((.iaload, q) :: r) (L, .int (nI k) :: .ref 11 :: st, hc σ M R) = rt xs d m hs t r (L, .int (nI (σ 11 k)) :: st, hc σ M R) := q_ia rfl hk (by decide)
theorem gW_11 (hk : k < 3) : rt xs d m hs t ((.iastore, q) :: r) (L, .int (nI v) :: .int (nI k) :: .ref 11 :: st, hc σ M R) = rt xs d m hs t r (L, st, hc (up σ 11 k v) M R) := (q_is rfl hk (by decide)).trans rfl
theorem gA_13 (hk : k < 6) : rt xs d m hs t ((.iaload, q) :: r) (L, .int (nI k) :: .ref 13 :: st, hc σ M R) = rt xs d m hs t r (L, .int (nI (M 13 k)) :: st, hc σ M R) := q_ia rfl hk (by decide)
theorem gW_13 (hk : k < 6) : rt xs d m hs t ((.iastore, q) :: r) (L, .int (nI v) :: .int (nI k) :: .ref 13 :: st, hc σ M R) = rt xs d m hs t r (L, st, hc σ (up M 13 k v) R) := (q_is rfl hk (by decide)).trans rfl
theorem gA_14 (hk : k < 6) : rt xs d m hs t ((.iaload, q) :: r) (L, .int (nI k) :: .ref 14 :: st, hc σ M R) = rt xs d m hs t r (L, .int (nI (M 14 k)) :: st, hc σ M R) := q_ia rfl hk (by decide)
theorem gW_14 (hk : k < 6) : rt xs d m hs t ((.iastore, q) :: r) (L, .int (nI v) :: .int (nI k) :: .ref 14 :: st, hc σ M R) = rt xs d m hs t r (L, st, hc σ (up M 14 k v) R) := (q_is rfl hk (by decide)).trans rfl
theorem gA_16 (hk : k < 6) : rt xs d m hs t ((.iaload, q) :: r) (L, .int (nI k) :: .ref 16 :: st, hc σ M R) = rt xs d m hs t r (L, .int (nI (M 16 k)) :: st, hc σ M R) := q_ia rfl hk (by decide)
theorem gW_16 (hk : k < 6) : rt xs d m hs t ((.iastore, q) :: r) (L, .int (nI v) :: .int (nI k) :: .ref 16 :: st, hc σ M R) = rt xs d m hs t r (L, st, hc σ (up M 16 k v) R) := (q_is rfl hk (by decide)).trans rfl
theorem gA_17 (hk : k < 6) : rt xs d m hs t ((.iaload, q) :: r) (L, .int (nI k) :: .ref 17 :: st, hc σ M R) = rt xs d m hs t r (L, .int (nI (M 17 k)) :: st, hc σ M R) := q_ia rfl hk (by decide)
theorem gW_17 (hk : k < 6) : rt xs d m hs t ((.iastore, q) :: r) (L, .int (nI v) :: .int (nI k) :: .ref 17 :: st, hc σ M R) = rt xs d m hs t r (L, st, hc σ (up M 17 k v) R) := (q_is rfl hk (by decide)).trans rfl
theorem gA_20 (hk : k < 6) : rt xs d m hs t ((.iaload, q) :: r) (L, .int (nI k) :: .ref 20 :: st, hc σ M R) = rt xs d m hs t r (L, .int (nI (M 20 k)) :: st, hc σ M R) := q_ia rfl hk (by decide)
theorem gW_20 (hk : k < 6) : rt xs d m hs t ((.iastore, q) :: r) (L, .int (nI v) :: .int (nI k) :: .ref 20 :: st, hc σ M R) = rt xs d m hs t r (L, st, hc σ (up M 20 k v) R) := (q_is rfl hk (by decide)).trans rfl
theorem gA_21 (hk : k < 6) : rt xs d m hs t ((.iaload, q) :: r) (L, .int (nI k) :: .ref 21 :: st, hc σ M R) = rt xs d m hs t r (L, .int (nI (M 21 k)) :: st, hc σ M R) := q_ia rfl hk (by decide)
theorem gW_21 (hk : k < 6) : rt xs d m hs t ((.iastore, q) :: r) (L, .int (nI v) :: .int (nI k) :: .ref 21 :: st, hc σ M R) = rt xs d m hs t r (L, st, hc σ (up M 21 k v) R) := (q_is rfl hk (by decide)).trans rfl
theorem gA_22 (hk : k < 4) : rt xs d m hs t ((.iaload, q) :: r) (L, .int (nI k) :: .ref 22 :: st, hc σ M R) = rt xs d m hs t r (L, .int (nI (M 22 k)) :: st, hc σ M R) := q_ia rfl hk (by decide)
theorem gW_22 (hk : k < 4) : rt xs d m hs t ((.iastore, q) :: r) (L, .int (nI v) :: .int (nI k) :: .ref 22 :: st, hc σ M R) = rt xs d m hs t r (L, st, hc σ (up M 22 k v) R) := (q_is rfl hk (by decide)).trans rfl
theorem gA_23 (hk : k < 216) : rt xs d m hs t ((.iaload, q) :: r) (L, .int (nI k) :: .ref 23 :: st, hc σ M R) = rt xs d m hs t r (L, .int (nI (M 23 k)) :: st, hc σ M R) := q_ia rfl hk (by decide)
theorem gW_23 (hk : k < 216) : rt xs d m hs t ((.iastore, q) :: r) (L, .int (nI v) :: .int (nI k) :: .ref 23 :: st, hc σ M R) = rt xs d m hs t r (L, st, hc σ (up M 23 k v) R) := (q_is rfl hk (by decide)).trans rfl
theorem gA_24 (hk : k < 216) : rt xs d m hs t ((.iaload, q) :: r) (L, .int (nI k) :: .ref 24 :: st, hc σ M R) = rt xs d m hs t r (L, .int (nI (M 24 k)) :: st, hc σ M R) := q_ia rfl hk (by decide)
theorem gW_24 (hk : k < 216) : rt xs d m hs t ((.iastore, q) :: r) (L, .int (nI v) :: .int (nI k) :: .ref 24 :: st, hc σ M R) = rt xs d m hs t r (L, st, hc σ (up M 24 k v) R) := (q_is rfl hk (by decide)).trans rfl
theorem gA_25 (hk : k < 36) : rt xs d m hs t ((.iaload, q) :: r) (L, .int (nI k) :: .ref 25 :: st, hc σ M R) = rt xs d m hs t r (L, .int (nI (M 25 k)) :: st, hc σ M R) := q_ia rfl hk (by decide)
theorem gW_25 (hk : k < 36) : rt xs d m hs t ((.iastore, q) :: r) (L, .int (nI v) :: .int (nI k) :: .ref 25 :: st, hc σ M R) = rt xs d m hs t r (L, st, hc σ (up M 25 k v) R) := (q_is rfl hk (by decide)).trans rfl
theorem gA_26 (hk : k < 108) : rt xs d m hs t ((.iaload, q) :: r) (L, .int (nI k) :: .ref 26 :: st, hc σ M R) = rt xs d m hs t r (L, .int (nI (M 26 k)) :: st, hc σ M R) := q_ia rfl hk (by decide)
theorem gW_26 (hk : k < 108) : rt xs d m hs t ((.iastore, q) :: r) (L, .int (nI v) :: .int (nI k) :: .ref 26 :: st, hc σ M R) = rt xs d m hs t r (L, st, hc σ (up M 26 k v) R) := (q_is rfl hk (by decide)).trans rfl
theorem gA_27 (hk : k < 36) : rt xs d m hs t ((.iaload, q) :: r) (L, .int (nI k) :: .ref 27 :: st, hc σ M R) = rt xs d m hs t r (L, .int (nI (M 27 k)) :: st, hc σ M R) := q_ia rfl hk (by decide)
theorem gW_27 (hk : k < 36) : rt xs d m hs t ((.iastore, q) :: r) (L, .int (nI v) :: .int (nI k) :: .ref 27 :: st, hc σ M R) = rt xs d m hs t r (L, st, hc σ (up M 27 k v) R) := (q_is rfl hk (by decide)).trans rfl
theorem gA_30 (hk : k < 6) : rt xs d m hs t ((.iaload, q) :: r) (L, .int (nI k) :: .ref 30 :: st, hc σ M R) = rt xs d m hs t r (L, .int (nI (M 30 k)) :: st, hc σ M R) := q_ia rfl hk (by decide)
theorem gW_30 (hk : k < 6) : rt xs d m hs t ((.iastore, q) :: r) (L, .int (nI v) :: .int (nI k) :: .ref 30 :: st, hc σ M R) = rt xs d m hs t r (L, st, hc σ (up M 30 k v) R) := (q_is rfl hk (by decide)).trans rfl
theorem gA_31 (hk : k < 6) : rt xs d m hs t ((.iaload, q) :: r) (L, .int (nI k) :: .ref 31 :: st, hc σ M R) = rt xs d m hs t r (L, .int (nI (M 31 k)) :: st, hc σ M R) := q_ia rfl hk (by decide)
theorem gW_31 (hk : k < 6) : rt xs d m hs t ((.iastore, q) :: r) (L, .int (nI v) :: .int (nI k) :: .ref 31 :: st, hc σ M R) = rt xs d m hs t r (L, st, hc σ (up M 31 k v) R) := (q_is rfl hk (by decide)).trans rfl
theorem gA_32 (hk : k < 42) : rt xs d m hs t ((.iaload, q) :: r) (L, .int (nI k) :: .ref 32 :: st, hc σ M R) = rt xs d m hs t r (L, .int (nI (M 32 k)) :: st, hc σ M R) := q_ia rfl hk (by decide)
theorem gW_32 (hk : k < 42) : rt xs d m hs t ((.iastore, q) :: r) (L, .int (nI v) :: .int (nI k) :: .ref 32 :: st, hc σ M R) = rt xs d m hs t r (L, st, hc σ (up M 32 k v) R) := (q_is rfl hk (by decide)).trans rfl
theorem gA_33 (hk : k < 6) : rt xs d m hs t ((.iaload, q) :: r) (L, .int (nI k) :: .ref 33 :: st, hc σ M R) = rt xs d m hs t r (L, .int (nI (M 33 k)) :: st, hc σ M R) := q_ia rfl hk (by decide)
theorem gW_33 (hk : k < 6) : rt xs d m hs t ((.iastore, q) :: r) (L, .int (nI v) :: .int (nI k) :: .ref 33 :: st, hc σ M R) = rt xs d m hs t r (L, st, hc σ (up M 33 k v) R) := (q_is rfl hk (by decide)).trans rfl
theorem gA_34 (hk : k < 6) : rt xs d m hs t ((.iaload, q) :: r) (L, .int (nI k) :: .ref 34 :: st, hc σ M R) = rt xs d m hs t r (L, .int (nI (M 34 k)) :: st, hc σ M R) := q_ia rfl hk (by decide)
theorem gW_34 (hk : k < 6) : rt xs d m hs t ((.iastore, q) :: r) (L, .int (nI v) :: .int (nI k) :: .ref 34 :: st, hc σ M R) = rt xs d m hs t r (L, st, hc σ (up M 34 k v) R) := (q_is rfl hk (by decide)).trans rfl
theorem gA_35 (hk : k < 6) : rt xs d m hs t ((.iaload, q) :: r) (L, .int (nI k) :: .ref 35 :: st, hc σ M R) = rt xs d m hs t r (L, .int (nI (M 35 k)) :: st, hc σ M R) := q_ia rfl hk (by decide)
theorem gW_35 (hk : k < 6) : rt xs d m hs t ((.iastore, q) :: r) (L, .int (nI v) :: .int (nI k) :: .ref 35 :: st, hc σ M R) = rt xs d m hs t r (L, st, hc σ (up M 35 k v) R) := (q_is rfl hk (by decide)).trans rfl
theorem gA_36 (hk : k < 4) : rt xs d m hs t ((.iaload, q) :: r) (L, .int (nI k) :: .ref 36 :: st, hc σ M R) = rt xs d m hs t r (L, .int (nI (M 36 k)) :: st, hc σ M R) := q_ia rfl hk (by decide)
theorem gW_36 (hk : k < 4) : rt xs d m hs t ((.iastore, q) :: r) (L, .int (nI v) :: .int (nI k) :: .ref 36 :: st, hc σ M R) = rt xs d m hs t r (L, st, hc σ (up M 36 k v) R) := (q_is rfl hk (by decide)).trans rfl
theorem gA_38 (hk : k < 6) : rt xs d m hs t ((.iaload, q) :: r) (L, .int (nI k) :: .ref 38 :: st, hc σ M R) = rt xs d m hs t r (L, .int (nI (M 38 k)) :: st, hc σ M R) := q_ia rfl hk (by decide)
theorem gW_38 (hk : k < 6) : rt xs d m hs t ((.iastore, q) :: r) (L, .int (nI v) :: .int (nI k) :: .ref 38 :: st, hc σ M R) = rt xs d m hs t r (L, st, hc σ (up M 38 k v) R) := (q_is rfl hk (by decide)).trans rfl
theorem gA_39 (hk : k < 6) : rt xs d m hs t ((.iaload, q) :: r) (L, .int (nI k) :: .ref 39 :: st, hc σ M R) = rt xs d m hs t r (L, .int (nI (M 39 k)) :: st, hc σ M R) := q_ia rfl hk (by decide)
theorem gW_39 (hk : k < 6) : rt xs d m hs t ((.iastore, q) :: r) (L, .int (nI v) :: .int (nI k) :: .ref 39 :: st, hc σ M R) = rt xs d m hs t r (L, st, hc σ (up M 39 k v) R) := (q_is rfl hk (by decide)).trans rfl
theorem gA_41 (hk : k < 252) : rt xs d m hs t ((.iaload, q) :: r) (L, .int (nI k) :: .ref 41 :: st, hc σ M R) = rt xs d m hs t r (L, .int (nI (M 41 k)) :: st, hc σ M R) := q_ia rfl hk (by decide)
theorem gW_41 (hk : k < 252) : rt xs d m hs t ((.iastore, q) :: r) (L, .int (nI v) :: .int (nI k) :: .ref 41 :: st, hc σ M R) = rt xs d m hs t r (L, st, hc σ (up M 41 k v) R) := (q_is rfl hk (by decide)).trans rfl
theorem gA_42 (hk : k < 64) : rt xs d m hs t ((.iaload, q) :: r) (L, .int (nI k) :: .ref 42 :: st, hc σ M R) = rt xs d m hs t r (L, .int (nI (M 42 k)) :: st, hc σ M R) := q_ia rfl hk (by decide)
theorem gW_42 (hk : k < 64) : rt xs d m hs t ((.iastore, q) :: r) (L, .int (nI v) :: .int (nI k) :: .ref 42 :: st, hc σ M R) = rt xs d m hs t r (L, st, hc σ (up M 42 k v) R) := (q_is rfl hk (by decide)).trans rfl
theorem gA_46 (hk : k < 6) : rt xs d m hs t ((.iaload, q) :: r) (L, .int (nI k) :: .ref 46 :: st, hc σ M R) = rt xs d m hs t r (L, .int (nI (M 46 k)) :: st, hc σ M R) := q_ia rfl hk (by decide)
theorem gW_46 (hk : k < 6) : rt xs d m hs t ((.iastore, q) :: r) (L, .int (nI v) :: .int (nI k) :: .ref 46 :: st, hc σ M R) = rt xs d m hs t r (L, st, hc σ (up M 46 k v) R) := (q_is rfl hk (by decide)).trans rfl
theorem gA_47 (hk : k < 6) : rt xs d m hs t ((.iaload, q) :: r) (L, .int (nI k) :: .ref 47 :: st, hc σ M R) = rt xs d m hs t r (L, .int (nI (M 47 k)) :: st, hc σ M R) := q_ia rfl hk (by decide)
theorem gW_47 (hk : k < 6) : rt xs d m hs t ((.iastore, q) :: r) (L, .int (nI v) :: .int (nI k) :: .ref 47 :: st, hc σ M R) = rt xs d m hs t r (L, st, hc σ (up M 47 k v) R) := (q_is rfl hk (by decide)).trans rfl
theorem gA_49 (hk : k < 6) : rt xs d m hs t ((.iaload, q) :: r) (L, .int (nI k) :: .ref 49 :: st, hc σ M R) = rt xs d m hs t r (L, .int (nI (M 49 k)) :: st, hc σ M R) := q_ia rfl hk (by decide)
theorem gW_49 (hk : k < 6) : rt xs d m hs t ((.iastore, q) :: r) (L, .int (nI v) :: .int (nI k) :: .ref 49 :: st, hc σ M R) = rt xs d m hs t r (L, st, hc σ (up M 49 k v) R) := (q_is rfl hk (by decide)).trans rfl
theorem gA_50 (hk : k < 6) : rt xs d m hs t ((.iaload, q) :: r) (L, .int (nI k) :: .ref 50 :: st, hc σ M R) = rt xs d m hs t r (L, .int (nI (M 50 k)) :: st, hc σ M R) := q_ia rfl hk (by decide)
theorem gW_50 (hk : k < 6) : rt xs d m hs t ((.iastore, q) :: r) (L, .int (nI v) :: .int (nI k) :: .ref 50 :: st, hc σ M R) = rt xs d m hs t r (L, st, hc σ (up M 50 k v) R) := (q_is rfl hk (by decide)).trans rfl
theorem gA_51 (hk : k < 4) : rt xs d m hs t ((.iaload, q) :: r) (L, .int (nI k) :: .ref 51 :: st, hc σ M R) = rt xs d m hs t r (L, .int (nI (M 51 k)) :: st, hc σ M R) := q_ia rfl hk (by decide)
theorem gW_51 (hk : k < 4) : rt xs d m hs t ((.iastore, q) :: r) (L, .int (nI v) :: .int (nI k) :: .ref 51 :: st, hc σ M R) = rt xs d m hs t r (L, st, hc σ (up M 51 k v) R) := (q_is rfl hk (by decide)).trans rfl
theorem gA_53 (hk : k < 6) : rt xs d m hs t ((.iaload, q) :: r) (L, .int (nI k) :: .ref 53 :: st, hc σ M R) = rt xs d m hs t r (L, .int (nI (M 53 k)) :: st, hc σ M R) := q_ia rfl hk (by decide)
theorem gW_53 (hk : k < 6) : rt xs d m hs t ((.iastore, q) :: r) (L, .int (nI v) :: .int (nI k) :: .ref 53 :: st, hc σ M R) = rt xs d m hs t r (L, st, hc σ (up M 53 k v) R) := (q_is rfl hk (by decide)).trans rfl
theorem gA_56 (hk : k < 6) : rt xs d m hs t ((.iaload, q) :: r) (L, .int (nI k) :: .ref 56 :: st, hc σ M R) = rt xs d m hs t r (L, .int (nI (M 56 k)) :: st, hc σ M R) := q_ia rfl hk (by decide)
theorem gW_56 (hk : k < 6) : rt xs d m hs t ((.iastore, q) :: r) (L, .int (nI v) :: .int (nI k) :: .ref 56 :: st, hc σ M R) = rt xs d m hs t r (L, st, hc σ (up M 56 k v) R) := (q_is rfl hk (by decide)).trans rfl
theorem gA_57 (hk : k < 6) : rt xs d m hs t ((.iaload, q) :: r) (L, .int (nI k) :: .ref 57 :: st, hc σ M R) = rt xs d m hs t r (L, .int (nI (M 57 k)) :: st, hc σ M R) := q_ia rfl hk (by decide)
theorem gW_57 (hk : k < 6) : rt xs d m hs t ((.iastore, q) :: r) (L, .int (nI v) :: .int (nI k) :: .ref 57 :: st, hc σ M R) = rt xs d m hs t r (L, st, hc σ (up M 57 k v) R) := (q_is rfl hk (by decide)).trans rfl
theorem gA_59 (hk : k < 6) : rt xs d m hs t ((.iaload, q) :: r) (L, .int (nI k) :: .ref 59 :: st, hc σ M R) = rt xs d m hs t r (L, .int (nI (M 59 k)) :: st, hc σ M R) := q_ia rfl hk (by decide)
theorem gW_59 (hk : k < 6) : rt xs d m hs t ((.iastore, q) :: r) (L, .int (nI v) :: .int (nI k) :: .ref 59 :: st, hc σ M R) = rt xs d m hs t r (L, st, hc σ (up M 59 k v) R) := (q_is rfl hk (by decide)).trans rfl
theorem gA_60 (hk : k < 6) : rt xs d m hs t ((.iaload, q) :: r) (L, .int (nI k) :: .ref 60 :: st, hc σ M R) = rt xs d m hs t r (L, .int (nI (M 60 k)) :: st, hc σ M R) := q_ia rfl hk (by decide)
theorem gW_60 (hk : k < 6) : rt xs d m hs t ((.iastore, q) :: r) (L, .int (nI v) :: .int (nI k) :: .ref 60 :: st, hc σ M R) = rt xs d m hs t r (L, st, hc σ (up M 60 k v) R) := (q_is rfl hk (by decide)).trans rfl
theorem gL_23 : rt xs d m hs t ((.arraylength, q) :: r) (L, .ref 23 :: st, hc σ M R) = rt xs d m hs t r (L, .int (nI 216) :: st, hc σ M R) := q_ln rfl (by decide)
theorem gL_42 : rt xs d m hs t ((.arraylength, q) :: r) (L, .ref 42 :: st, hc σ M R) = rt xs d m hs t r (L, .int (nI 64) :: st, hc σ M R) := q_ln rfl (by decide)
theorem gL_61 : rt xs d m hs t ((.arraylength, q) :: r) (L, .ref 61 :: st, hc σ M R) = rt xs d m hs t r (L, .int (nI 7) :: st, hc σ M R) := by
  apply rt_s
  show ab_alen (ab_fx xs) (L, .ref 61 :: st, hc σ M R) = _
  have h1 : (hc σ M R)[61]? = some (oB (ar 7 (M 61))) := rfl
  simp only [ab_alen, h1, ar_len]
  rfl
theorem ar_cp {n : Nat} {f g : Nat → Nat} : (ar n fun j => if j < n then f j else g j) = ar n f := by
  unfold ar
  apply List.map_congr_left
  intro a ha
  show nI (if a < n then f a else g a) = _
  rw [if_pos (List.mem_range.mp ha)]
theorem gC_24_23 {n2 w : Nat} {j : _} (h8 : st8 st = true) : rt xs d m hs t ((.invokestatic j, n2, 0, w) :: r) (L, .int (nI 216) :: .int (nI 0) :: .ref 23 :: .int (nI 0) :: .ref 24 :: st, hc σ M R) = rt xs d m hs t r (L, st, hc σ (ur M 23 (M 24)) R) := by
  rw [q_cp (a := 24) (b := 23) (i := 216) (i2 := 216) (f := M 24) (g := M 23) rfl rfl (by decide) (by decide) (by decide) h8, ar_cp]
  rfl
theorem gC_34_30 {n2 w : Nat} {j : _} (h8 : st8 st = true) : rt xs d m hs t ((.invokestatic j, n2, 0, w) :: r) (L, .int (nI 6) :: .int (nI 0) :: .ref 30 :: .int (nI 0) :: .ref 34 :: st, hc σ M R) = rt xs d m hs t r (L, st, hc σ (ur M 30 (M 34)) R) := by
  rw [q_cp (a := 34) (b := 30) (i := 6) (i2 := 6) (f := M 34) (g := M 30) rfl rfl (by decide) (by decide) (by decide) h8, ar_cp]
  rfl
theorem gC_35_31 {n2 w : Nat} {j : _} (h8 : st8 st = true) : rt xs d m hs t ((.invokestatic j, n2, 0, w) :: r) (L, .int (nI 6) :: .int (nI 0) :: .ref 31 :: .int (nI 0) :: .ref 35 :: st, hc σ M R) = rt xs d m hs t r (L, st, hc σ (ur M 31 (M 35)) R) := by
  rw [q_cp (a := 35) (b := 31) (i := 6) (i2 := 6) (f := M 35) (g := M 31) rfl rfl (by decide) (by decide) (by decide) h8, ar_cp]
  rfl
variable {t1 : Nat}
theorem tc_o (ht : TT t1) : (hc σ M R)[t1]? = some (.inl (9, [.int (nI (M t1 0)), .int (nI (M t1 1)), .ref (t1 + 1), .ref (t1 + 2)])) := by
  rcases ht with rfl | rfl | rfl | rfl | rfl | rfl | rfl <;> rfl
theorem tc_1 (ht : TT t1) : (hc σ M R)[t1 + 1]? = some (oI (ar 6 (M (t1 + 1)))) := by
  rcases ht with rfl | rfl | rfl | rfl | rfl | rfl | rfl <;> rfl
theorem tc_2 (ht : TT t1) : (hc σ M R)[t1 + 2]? = some (oI (ar 6 (M (t1 + 2)))) := by
  rcases ht with rfl | rfl | rfl | rfl | rfl | rfl | rfl <;> rfl
theorem cls_t (ht : TT t1) : cls (hc σ M R) t1 = some 9 := by
  unfold cls
  rw [tc_o ht]
theorem tF_0 (ht : TT t1) {j : _} : rt xs d m hs t ((.getfield j, n, 9, 0) :: r) (L, .ref t1 :: st, hc σ M R) = rt xs d m hs t r (L, .int (nI (M t1 0)) :: st, hc σ M R) := q_gf (tc_o ht) rfl
theorem tF_1 (ht : TT t1) {j : _} : rt xs d m hs t ((.getfield j, n, 9, 1) :: r) (L, .ref t1 :: st, hc σ M R) = rt xs d m hs t r (L, .int (nI (M t1 1)) :: st, hc σ M R) := q_gf (tc_o ht) rfl
theorem tF_2 (ht : TT t1) {j : _} : rt xs d m hs t ((.getfield j, n, 9, 2) :: r) (L, .ref t1 :: st, hc σ M R) = rt xs d m hs t r (L, .ref (t1 + 1) :: st, hc σ M R) := q_gf (tc_o ht) rfl
theorem tF_3 (ht : TT t1) {j : _} : rt xs d m hs t ((.getfield j, n, 9, 3) :: r) (L, .ref t1 :: st, hc σ M R) = rt xs d m hs t r (L, .ref (t1 + 2) :: st, hc σ M R) := q_gf (tc_o ht) rfl
theorem tA_1 (ht : TT t1) (hk : k < 6) : rt xs d m hs t ((.iaload, q) :: r) (L, .int (nI k) :: .ref (t1 + 1) :: st, hc σ M R) = rt xs d m hs t r (L, .int (nI (M (t1 + 1) k)) :: st, hc σ M R) := q_ia (tc_1 ht) hk (by decide)
theorem tW_1 (ht : TT t1) (hk : k < 6) : rt xs d m hs t ((.iastore, q) :: r) (L, .int (nI v) :: .int (nI k) :: .ref (t1 + 1) :: st, hc σ M R) = rt xs d m hs t r (L, st, hc σ (up M (t1 + 1) k v) R) := by
  rw [q_is (tc_1 ht) hk (by decide)]
  rcases ht with rfl | rfl | rfl | rfl | rfl | rfl | rfl <;> rfl
theorem tU_1 (ht : TT t1) (f : Nat → Nat) : (hc σ M R).set (t1 + 1) (oI (ar 6 f)) = hc σ (ur M (t1 + 1) f) R := by
  rcases ht with rfl | rfl | rfl | rfl | rfl | rfl | rfl <;> rfl
theorem tC_1 {t2 : Nat} (ht : TT t1) (ht2 : TT t2) {n2 w : Nat} {j : _} (h8 : st8 st = true) : rt xs d m hs t ((.invokestatic j, n2, 0, w) :: r) (L, .int (nI 6) :: .int (nI 0) :: .ref (t1 + 1) :: .int (nI 0) :: .ref (t2 + 1) :: st, hc σ M R) = rt xs d m hs t r (L, st, hc σ (ur M (t1 + 1) (M (t2 + 1))) R) := by
  rw [q_cp (tc_1 ht2) (tc_1 ht) (by decide) (by decide) (by decide) h8, ar_cp, tU_1 ht]
theorem tA_2 (ht : TT t1) (hk : k < 6) : rt xs d m hs t ((.iaload, q) :: r) (L, .int (nI k) :: .ref (t1 + 2) :: st, hc σ M R) = rt xs d m hs t r (L, .int (nI (M (t1 + 2) k)) :: st, hc σ M R) := q_ia (tc_2 ht) hk (by decide)
theorem tW_2 (ht : TT t1) (hk : k < 6) : rt xs d m hs t ((.iastore, q) :: r) (L, .int (nI v) :: .int (nI k) :: .ref (t1 + 2) :: st, hc σ M R) = rt xs d m hs t r (L, st, hc σ (up M (t1 + 2) k v) R) := by
  rw [q_is (tc_2 ht) hk (by decide)]
  rcases ht with rfl | rfl | rfl | rfl | rfl | rfl | rfl <;> rfl
theorem tU_2 (ht : TT t1) (f : Nat → Nat) : (hc σ M R).set (t1 + 2) (oI (ar 6 f)) = hc σ (ur M (t1 + 2) f) R := by
  rcases ht with rfl | rfl | rfl | rfl | rfl | rfl | rfl <;> rfl
theorem tC_2 {t2 : Nat} (ht : TT t1) (ht2 : TT t2) {n2 w : Nat} {j : _} (h8 : st8 st = true) : rt xs d m hs t ((.invokestatic j, n2, 0, w) :: r) (L, .int (nI 6) :: .int (nI 0) :: .ref (t1 + 2) :: .int (nI 0) :: .ref (t2 + 2) :: st, hc σ M R) = rt xs d m hs t r (L, st, hc σ (ur M (t1 + 2) (M (t2 + 2))) R) := by
  rw [q_cp (tc_2 ht2) (tc_2 ht) (by decide) (by decide) (by decide) h8, ar_cp, tU_2 ht]
theorem tP_0 (ht : TT t1) {j : _} (hv : v < 2) : rt xs d m hs t ((.putfield j, n, 9, 0) :: r) (L, .int (nI v) :: .ref t1 :: st, hc σ M R) = rt xs d m hs t r (L, st, hc σ (up M t1 0 v) R) := by
  rw [q_pf (ci := 9) (f := 0) (v := .int (nI v)) (tc_o ht) (Nat.le_of_ble_eq_true rfl) (bt_i v hv)]
  rcases ht with rfl | rfl | rfl | rfl | rfl | rfl | rfl <;> rfl
theorem tP_1 (ht : TT t1) {j : _} : rt xs d m hs t ((.putfield j, n, 9, 1) :: r) (L, .int (nI v) :: .ref t1 :: st, hc σ M R) = rt xs d m hs t r (L, st, hc σ (up M t1 1 v) R) := by
  rw [q_pf (tc_o ht) (Nat.le_of_ble_eq_true rfl) rfl]
  rcases ht with rfl | rfl | rfl | rfl | rfl | rfl | rfl <;> rfl
end Hr
def LR (ρ : Int32) (τ : Nat → Nat → Nat) (N : Nat) (Ts : List (Option Nat)) (B : Nat → Nat) (Q : ab_H) : ab_H :=
  oI [ρ] :: .inl (12, [.int (nI (τ 1 0)), .int (nI (τ 1 1)), .int (nI (τ 1 5)), .ref 64, .int (nI (τ 1 3)), .ref 65, .ref 66, .int (nI (τ 1 4)), .int (nI (τ 1 6)), .ref 67, .ref 68, .ref 69, .int (nI (τ 1 7)), .ref 70, .ref 71, .ref 72, .ref 73, .ref 74, .ref 75, .int (nI N)]) ::
  oI (ar 3 (τ 4)) :: oI (ar 4 (τ 2)) :: oI (ar 4 (τ 3)) :: oI (ar 6 (τ 5)) :: oI (ar 6 (τ 6)) :: oI (ar 6 (τ 7)) :: oI (ar 10 (τ 8)) :: oI (ar 10 (τ 9)) :: oI (ar 10 (τ 10)) :: oI (ar 3 (τ 11)) :: oR Ts :: oI (ar 2000 B) :: Q
section Lr
variable {xs : List Int32} {d m n : Nat} {hs : List (Nat × Nat)} {t : ab_T} {r : List ab_I} {q : Nat × Nat × Nat} {L st : List Value} {σ M τ : Nat → Nat → Nat} {ρ : Int32} {N k v i : Nat} {Ts : List (Option Nat)} {B f : Nat → Nat} {Q : ab_H}
theorem LR_c : cls (hc σ M (LR ρ τ N Ts B Q)) 63 = some 12 := rfl
theorem LR_Q : (hc σ M (LR ρ τ N Ts B Q))[76 + i]? = Q[i]? := by
  rw [Nat.add_comm]
  rfl
theorem LR_Qs {c : ab_O} : (hc σ M (LR ρ τ N Ts B Q)).set (76 + i) c = hc σ M (LR ρ τ N Ts B (Q.set i c)) := by
  rw [Nat.add_comm]
  rfl
theorem lF_0 {j : _} : rt xs d m hs t ((.getfield j, n, 12, 0) :: r) (L, .ref 63 :: st, hc σ M (LR ρ τ N Ts B Q)) = rt xs d m hs t r (L, .int (nI (τ 1 0)) :: st, hc σ M (LR ρ τ N Ts B Q)) := q_gf rfl rfl
theorem lP_0 {j : _} : rt xs d m hs t ((.putfield j, n, 12, 0) :: r) (L, .int (nI v) :: .ref 63 :: st, hc σ M (LR ρ τ N Ts B Q)) = rt xs d m hs t r (L, st, hc σ M (LR ρ (up τ 1 0 v) N Ts B Q)) := (q_pf rfl (Nat.le_of_ble_eq_true rfl) rfl).trans rfl
theorem lF_1 {j : _} : rt xs d m hs t ((.getfield j, n, 12, 1) :: r) (L, .ref 63 :: st, hc σ M (LR ρ τ N Ts B Q)) = rt xs d m hs t r (L, .int (nI (τ 1 1)) :: st, hc σ M (LR ρ τ N Ts B Q)) := q_gf rfl rfl
theorem lP_1 {j : _} : rt xs d m hs t ((.putfield j, n, 12, 1) :: r) (L, .int (nI v) :: .ref 63 :: st, hc σ M (LR ρ τ N Ts B Q)) = rt xs d m hs t r (L, st, hc σ M (LR ρ (up τ 1 1 v) N Ts B Q)) := (q_pf rfl (Nat.le_of_ble_eq_true rfl) rfl).trans rfl
theorem lF_2 {j : _} : rt xs d m hs t ((.getfield j, n, 12, 2) :: r) (L, .ref 63 :: st, hc σ M (LR ρ τ N Ts B Q)) = rt xs d m hs t r (L, .int (nI (τ 1 5)) :: st, hc σ M (LR ρ τ N Ts B Q)) := q_gf rfl rfl
theorem lP_2 {j : _} : rt xs d m hs t ((.putfield j, n, 12, 2) :: r) (L, .int (nI v) :: .ref 63 :: st, hc σ M (LR ρ τ N Ts B Q)) = rt xs d m hs t r (L, st, hc σ M (LR ρ (up τ 1 5 v) N Ts B Q)) := (q_pf rfl (Nat.le_of_ble_eq_true rfl) rfl).trans rfl
theorem lF_3 {j : _} : rt xs d m hs t ((.getfield j, n, 12, 3) :: r) (L, .ref 63 :: st, hc σ M (LR ρ τ N Ts B Q)) = rt xs d m hs t r (L, .ref 64 :: st, hc σ M (LR ρ τ N Ts B Q)) := q_gf rfl rfl
theorem lF_4 {j : _} : rt xs d m hs t ((.getfield j, n, 12, 4) :: r) (L, .ref 63 :: st, hc σ M (LR ρ τ N Ts B Q)) = rt xs d m hs t r (L, .int (nI (τ 1 3)) :: st, hc σ M (LR ρ τ N Ts B Q)) := q_gf rfl rfl
theorem lP_4 {j : _} : rt xs d m hs t ((.putfield j, n, 12, 4) :: r) (L, .int (nI v) :: .ref 63 :: st, hc σ M (LR ρ τ N Ts B Q)) = rt xs d m hs t r (L, st, hc σ M (LR ρ (up τ 1 3 v) N Ts B Q)) := (q_pf rfl (Nat.le_of_ble_eq_true rfl) rfl).trans rfl
theorem lF_5 {j : _} : rt xs d m hs t ((.getfield j, n, 12, 5) :: r) (L, .ref 63 :: st, hc σ M (LR ρ τ N Ts B Q)) = rt xs d m hs t r (L, .ref 65 :: st, hc σ M (LR ρ τ N Ts B Q)) := q_gf rfl rfl
theorem lF_6 {j : _} : rt xs d m hs t ((.getfield j, n, 12, 6) :: r) (L, .ref 63 :: st, hc σ M (LR ρ τ N Ts B Q)) = rt xs d m hs t r (L, .ref 66 :: st, hc σ M (LR ρ τ N Ts B Q)) := q_gf rfl rfl
theorem lF_7 {j : _} : rt xs d m hs t ((.getfield j, n, 12, 7) :: r) (L, .ref 63 :: st, hc σ M (LR ρ τ N Ts B Q)) = rt xs d m hs t r (L, .int (nI (τ 1 4)) :: st, hc σ M (LR ρ τ N Ts B Q)) := q_gf rfl rfl
theorem lP_7 {j : _} : rt xs d m hs t ((.putfield j, n, 12, 7) :: r) (L, .int (nI v) :: .ref 63 :: st, hc σ M (LR ρ τ N Ts B Q)) = rt xs d m hs t r (L, st, hc σ M (LR ρ (up τ 1 4 v) N Ts B Q)) := (q_pf rfl (Nat.le_of_ble_eq_true rfl) rfl).trans rfl
theorem lF_8 {j : _} : rt xs d m hs t ((.getfield j, n, 12, 8) :: r) (L, .ref 63 :: st, hc σ M (LR ρ τ N Ts B Q)) = rt xs d m hs t r (L, .int (nI (τ 1 6)) :: st, hc σ M (LR ρ τ N Ts B Q)) := q_gf rfl rfl
theorem lP_8 {j : _} : rt xs d m hs t ((.putfield j, n, 12, 8) :: r) (L, .int (nI v) :: .ref 63 :: st, hc σ M (LR ρ τ N Ts B Q)) = rt xs d m hs t r (L, st, hc σ M (LR ρ (up τ 1 6 v) N Ts B Q)) := (q_pf rfl (Nat.le_of_ble_eq_true rfl) rfl).trans rfl
theorem lF_9 {j : _} : rt xs d m hs t ((.getfield j, n, 12, 9) :: r) (L, .ref 63 :: st, hc σ M (LR ρ τ N Ts B Q)) = rt xs d m hs t r (L, .ref 67 :: st, hc σ M (LR ρ τ N Ts B Q)) := q_gf rfl rfl
theorem lF_10 {j : _} : rt xs d m hs t ((.getfield j, n, 12, 10) :: r) (L, .ref 63 :: st, hc σ M (LR ρ τ N Ts B Q)) = rt xs d m hs t r (L, .ref 68 :: st, hc σ M (LR ρ τ N Ts B Q)) := q_gf rfl rfl
theorem lF_11 {j : _} : rt xs d m hs t ((.getfield j, n, 12, 11) :: r) (L, .ref 63 :: st, hc σ M (LR ρ τ N Ts B Q)) = rt xs d m hs t r (L, .ref 69 :: st, hc σ M (LR ρ τ N Ts B Q)) := q_gf rfl rfl
theorem lF_12 {j : _} : rt xs d m hs t ((.getfield j, n, 12, 12) :: r) (L, .ref 63 :: st, hc σ M (LR ρ τ N Ts B Q)) = rt xs d m hs t r (L, .int (nI (τ 1 7)) :: st, hc σ M (LR ρ τ N Ts B Q)) := q_gf rfl rfl
theorem lP_12 {j : _} : rt xs d m hs t ((.putfield j, n, 12, 12) :: r) (L, .int (nI v) :: .ref 63 :: st, hc σ M (LR ρ τ N Ts B Q)) = rt xs d m hs t r (L, st, hc σ M (LR ρ (up τ 1 7 v) N Ts B Q)) := (q_pf rfl (Nat.le_of_ble_eq_true rfl) rfl).trans rfl
theorem lF_13 {j : _} : rt xs d m hs t ((.getfield j, n, 12, 13) :: r) (L, .ref 63 :: st, hc σ M (LR ρ τ N Ts B Q)) = rt xs d m hs t r (L, .ref 70 :: st, hc σ M (LR ρ τ N Ts B Q)) := q_gf rfl rfl
theorem lF_14 {j : _} : rt xs d m hs t ((.getfield j, n, 12, 14) :: r) (L, .ref 63 :: st, hc σ M (LR ρ τ N Ts B Q)) = rt xs d m hs t r (L, .ref 71 :: st, hc σ M (LR ρ τ N Ts B Q)) := q_gf rfl rfl
theorem lF_15 {j : _} : rt xs d m hs t ((.getfield j, n, 12, 15) :: r) (L, .ref 63 :: st, hc σ M (LR ρ τ N Ts B Q)) = rt xs d m hs t r (L, .ref 72 :: st, hc σ M (LR ρ τ N Ts B Q)) := q_gf rfl rfl
theorem lF_16 {j : _} : rt xs d m hs t ((.getfield j, n, 12, 16) :: r) (L, .ref 63 :: st, hc σ M (LR ρ τ N Ts B Q)) = rt xs d m hs t r (L, .ref 73 :: st, hc σ M (LR ρ τ N Ts B Q)) := q_gf rfl rfl
theorem lF_17 {j : _} : rt xs d m hs t ((.getfield j, n, 12, 17) :: r) (L, .ref 63 :: st, hc σ M (LR ρ τ N Ts B Q)) = rt xs d m hs t r (L, .ref 74 :: st, hc σ M (LR ρ τ N Ts B Q)) := q_gf rfl rfl
theorem lF_18 {j : _} : rt xs d m hs t ((.getfield j, n, 12, 18) :: r) (L, .ref 63 :: st, hc σ M (LR ρ τ N Ts B Q)) = rt xs d m hs t r (L, .ref 75 :: st, hc σ M (LR ρ τ N Ts B Q)) := q_gf rfl rfl
theorem lF_19 {j : _} : rt xs d m hs t ((.getfield j, n, 12, 19) :: r) (L, .ref 63 :: st, hc σ M (LR ρ τ N Ts B Q)) = rt xs d m hs t r (L, .int (nI N) :: st, hc σ M (LR ρ τ N Ts B Q)) := q_gf rfl rfl
theorem lP_19 {j : _} : rt xs d m hs t ((.putfield j, n, 12, 19) :: r) (L, .int (nI v) :: .ref 63 :: st, hc σ M (LR ρ τ N Ts B Q)) = rt xs d m hs t r (L, st, hc σ M (LR ρ τ v Ts B Q)) := (q_pf rfl (Nat.le_of_ble_eq_true rfl) rfl).trans rfl
theorem lA_64 (hk : k < 3) : rt xs d m hs t ((.iaload, q) :: r) (L, .int (nI k) :: .ref 64 :: st, hc σ M (LR ρ τ N Ts B Q)) = rt xs d m hs t r (L, .int (nI (τ 4 k)) :: st, hc σ M (LR ρ τ N Ts B Q)) := q_ia rfl hk (by decide)
theorem lW_64 (hk : k < 3) : rt xs d m hs t ((.iastore, q) :: r) (L, .int (nI v) :: .int (nI k) :: .ref 64 :: st, hc σ M (LR ρ τ N Ts B Q)) = rt xs d m hs t r (L, st, hc σ M (LR ρ (up τ 4 k v) N Ts B Q)) := (q_is rfl hk (by decide)).trans rfl
theorem lA_65 (hk : k < 4) : rt xs d m hs t ((.iaload, q) :: r) (L, .int (nI k) :: .ref 65 :: st, hc σ M (LR ρ τ N Ts B Q)) = rt xs d m hs t r (L, .int (nI (τ 2 k)) :: st, hc σ M (LR ρ τ N Ts B Q)) := q_ia rfl hk (by decide)
theorem lW_65 (hk : k < 4) : rt xs d m hs t ((.iastore, q) :: r) (L, .int (nI v) :: .int (nI k) :: .ref 65 :: st, hc σ M (LR ρ τ N Ts B Q)) = rt xs d m hs t r (L, st, hc σ M (LR ρ (up τ 2 k v) N Ts B Q)) := (q_is rfl hk (by decide)).trans rfl
theorem lA_66 (hk : k < 4) : rt xs d m hs t ((.iaload, q) :: r) (L, .int (nI k) :: .ref 66 :: st, hc σ M (LR ρ τ N Ts B Q)) = rt xs d m hs t r (L, .int (nI (τ 3 k)) :: st, hc σ M (LR ρ τ N Ts B Q)) := q_ia rfl hk (by decide)
theorem lW_66 (hk : k < 4) : rt xs d m hs t ((.iastore, q) :: r) (L, .int (nI v) :: .int (nI k) :: .ref 66 :: st, hc σ M (LR ρ τ N Ts B Q)) = rt xs d m hs t r (L, st, hc σ M (LR ρ (up τ 3 k v) N Ts B Q)) := (q_is rfl hk (by decide)).trans rfl
theorem lA_67 (hk : k < 6) : rt xs d m hs t ((.iaload, q) :: r) (L, .int (nI k) :: .ref 67 :: st, hc σ M (LR ρ τ N Ts B Q)) = rt xs d m hs t r (L, .int (nI (τ 5 k)) :: st, hc σ M (LR ρ τ N Ts B Q)) := q_ia rfl hk (by decide)
theorem lW_67 (hk : k < 6) : rt xs d m hs t ((.iastore, q) :: r) (L, .int (nI v) :: .int (nI k) :: .ref 67 :: st, hc σ M (LR ρ τ N Ts B Q)) = rt xs d m hs t r (L, st, hc σ M (LR ρ (up τ 5 k v) N Ts B Q)) := (q_is rfl hk (by decide)).trans rfl
theorem lA_68 (hk : k < 6) : rt xs d m hs t ((.iaload, q) :: r) (L, .int (nI k) :: .ref 68 :: st, hc σ M (LR ρ τ N Ts B Q)) = rt xs d m hs t r (L, .int (nI (τ 6 k)) :: st, hc σ M (LR ρ τ N Ts B Q)) := q_ia rfl hk (by decide)
theorem lW_68 (hk : k < 6) : rt xs d m hs t ((.iastore, q) :: r) (L, .int (nI v) :: .int (nI k) :: .ref 68 :: st, hc σ M (LR ρ τ N Ts B Q)) = rt xs d m hs t r (L, st, hc σ M (LR ρ (up τ 6 k v) N Ts B Q)) := (q_is rfl hk (by decide)).trans rfl
theorem lA_69 (hk : k < 6) : rt xs d m hs t ((.iaload, q) :: r) (L, .int (nI k) :: .ref 69 :: st, hc σ M (LR ρ τ N Ts B Q)) = rt xs d m hs t r (L, .int (nI (τ 7 k)) :: st, hc σ M (LR ρ τ N Ts B Q)) := q_ia rfl hk (by decide)
theorem lW_69 (hk : k < 6) : rt xs d m hs t ((.iastore, q) :: r) (L, .int (nI v) :: .int (nI k) :: .ref 69 :: st, hc σ M (LR ρ τ N Ts B Q)) = rt xs d m hs t r (L, st, hc σ M (LR ρ (up τ 7 k v) N Ts B Q)) := (q_is rfl hk (by decide)).trans rfl
theorem lA_70 (hk : k < 10) : rt xs d m hs t ((.iaload, q) :: r) (L, .int (nI k) :: .ref 70 :: st, hc σ M (LR ρ τ N Ts B Q)) = rt xs d m hs t r (L, .int (nI (τ 8 k)) :: st, hc σ M (LR ρ τ N Ts B Q)) := q_ia rfl hk (by decide)
theorem lW_70 (hk : k < 10) : rt xs d m hs t ((.iastore, q) :: r) (L, .int (nI v) :: .int (nI k) :: .ref 70 :: st, hc σ M (LR ρ τ N Ts B Q)) = rt xs d m hs t r (L, st, hc σ M (LR ρ (up τ 8 k v) N Ts B Q)) := (q_is rfl hk (by decide)).trans rfl
theorem lA_71 (hk : k < 10) : rt xs d m hs t ((.iaload, q) :: r) (L, .int (nI k) :: .ref 71 :: st, hc σ M (LR ρ τ N Ts B Q)) = rt xs d m hs t r (L, .int (nI (τ 9 k)) :: st, hc σ M (LR ρ τ N Ts B Q)) := q_ia rfl hk (by decide)
theorem lW_71 (hk : k < 10) : rt xs d m hs t ((.iastore, q) :: r) (L, .int (nI v) :: .int (nI k) :: .ref 71 :: st, hc σ M (LR ρ τ N Ts B Q)) = rt xs d m hs t r (L, st, hc σ M (LR ρ (up τ 9 k v) N Ts B Q)) := (q_is rfl hk (by decide)).trans rfl
theorem lA_72 (hk : k < 10) : rt xs d m hs t ((.iaload, q) :: r) (L, .int (nI k) :: .ref 72 :: st, hc σ M (LR ρ τ N Ts B Q)) = rt xs d m hs t r (L, .int (nI (τ 10 k)) :: st, hc σ M (LR ρ τ N Ts B Q)) := q_ia rfl hk (by decide)
theorem lW_72 (hk : k < 10) : rt xs d m hs t ((.iastore, q) :: r) (L, .int (nI v) :: .int (nI k) :: .ref 72 :: st, hc σ M (LR ρ τ N Ts B Q)) = rt xs d m hs t r (L, st, hc σ M (LR ρ (up τ 10 k v) N Ts B Q)) := (q_is rfl hk (by decide)).trans rfl
theorem lA_73 (hk : k < 3) : rt xs d m hs t ((.iaload, q) :: r) (L, .int (nI k) :: .ref 73 :: st, hc σ M (LR ρ τ N Ts B Q)) = rt xs d m hs t r (L, .int (nI (τ 11 k)) :: st, hc σ M (LR ρ τ N Ts B Q)) := q_ia rfl hk (by decide)
theorem lW_73 (hk : k < 3) : rt xs d m hs t ((.iastore, q) :: r) (L, .int (nI v) :: .int (nI k) :: .ref 73 :: st, hc σ M (LR ρ τ N Ts B Q)) = rt xs d m hs t r (L, st, hc σ M (LR ρ (up τ 11 k v) N Ts B Q)) := (q_is rfl hk (by decide)).trans rfl
theorem lA_75 (hk : k < 2000) : rt xs d m hs t ((.iaload, q) :: r) (L, .int (nI k) :: .ref 75 :: st, hc σ M (LR ρ τ N Ts B Q)) = rt xs d m hs t r (L, .int (nI (B k)) :: st, hc σ M (LR ρ τ N Ts B Q)) := q_ia rfl hk (by decide)
theorem lW_75 (hk : k < 2000) : rt xs d m hs t ((.iastore, q) :: r) (L, .int (nI v) :: .int (nI k) :: .ref 75 :: st, hc σ M (LR ρ τ N Ts B Q)) = rt xs d m hs t r (L, st, hc σ M (LR ρ τ N Ts (u1 B k v) Q)) := (q_is rfl hk (by decide)).trans rfl
theorem lA_62 : rt xs d m hs t ((.iaload, q) :: r) (L, .int (nI 0) :: .ref 62 :: st, hc σ M (LR ρ τ N Ts B Q)) = rt xs d m hs t r (L, .int ρ :: st, hc σ M (LR ρ τ N Ts B Q)) := by
  apply rt_s
  rfl
theorem lW_62 {w : Int32} : rt xs d m hs t ((.iastore, q) :: r) (L, .int w :: .int (nI 0) :: .ref 62 :: st, hc σ M (LR ρ τ N Ts B Q)) = rt xs d m hs t r (L, st, hc σ M (LR w τ N Ts B Q)) := by
  apply rt_s
  rfl
theorem lA_74 {a : Nat} (hk : Ts[k]? = some (some a)) (hn : k < 2147483648) : rt xs d m hs t ((.aaload, q) :: r) (L, .int (nI k) :: .ref 74 :: st, hc σ M (LR ρ τ N Ts B Q)) = rt xs d m hs t r (L, .ref a :: st, hc σ M (LR ρ τ N Ts B Q)) := by
  apply rt_s
  show ((ab_ix Ts (nI k)).bind fun v => some (L, ab_rf v :: st, hc σ M (LR ρ τ N Ts B Q))) = _
  unfold ab_ix
  rw [if_neg (iN_nn hn), iN_cl hn, hk]
  rfl
theorem lL_74 (hl : Ts.length = 2000) : rt xs d m hs t ((.arraylength, q) :: r) (L, .ref 74 :: st, hc σ M (LR ρ τ N Ts B Q)) = rt xs d m hs t r (L, .int (nI 2000) :: st, hc σ M (LR ρ τ N Ts B Q)) := by
  apply rt_s
  show (if Ts.length < 2000000 then some (L, .int (nI Ts.length) :: st, hc σ M (LR ρ τ N Ts B Q)) else none) = _
  rw [hl]
  rfl
theorem lW_74 {rw : List Int32} (hl : Ts.length = 2000) (hk : k < 2000) (hq : Q[i]? = some (oI rw)) : rt xs d m hs t ((.aastore, q) :: r) (L, .ref (76 + i) :: .int (nI k) :: .ref 74 :: st, hc σ M (LR ρ τ N Ts B Q)) = rt xs d m hs t r (L, st, hc σ M (LR ρ τ N (Ts.set k (some (76 + i))) B Q)) := by
  apply rt_s
  show ab_aast (L, .ref (76 + i) :: .int (nI k) :: .ref 74 :: st, hc σ M (LR ρ τ N Ts B Q)) = _
  have h1 := (LR_Q (σ := σ) (M := M) (ρ := ρ) (τ := τ) (N := N) (Ts := Ts) (B := B) (Q := Q) (i := i)).trans hq
  have h2 : (hc σ M (LR ρ τ N Ts B Q))[74]? = some (oR Ts) := rfl
  unfold ab_aast
  dsimp only
  rw [h1, h2]
  dsimp only
  unfold ab_ux
  rw [if_neg (by
    intro z
    rcases z with z | z
    · exact iN_nn (by omega) z
    · rw [iN_cl (by omega)] at z
      omega), iN_cl (by omega)]
  rfl
theorem lA_Q {nn : Nat} (hq : Q[i]? = some (oI (ar nn f))) (hk : k < nn) (hn : nn ≤ 100000) : rt xs d m hs t ((.iaload, q) :: r) (L, .int (nI k) :: .ref (76 + i) :: st, hc σ M (LR ρ τ N Ts B Q)) = rt xs d m hs t r (L, .int (nI (f k)) :: st, hc σ M (LR ρ τ N Ts B Q)) := q_ia (LR_Q.trans hq) hk (by omega)
theorem lW_Q {nn : Nat} (hq : Q[i]? = some (oI (ar nn f))) (hk : k < nn) (hn : nn ≤ 100000) : rt xs d m hs t ((.iastore, q) :: r) (L, .int (nI v) :: .int (nI k) :: .ref (76 + i) :: st, hc σ M (LR ρ τ N Ts B Q)) = rt xs d m hs t r (L, st, hc σ M (LR ρ τ N Ts B (Q.set i (oI (ar nn (u1 f k v)))))) := by
  rw [q_is (LR_Q.trans hq) hk (by omega), LR_Qs]
theorem LR_len : (hc σ M (LR ρ τ N Ts B Q)).length = 76 + Q.length := Nat.add_comm Q.length 76
theorem LR_app {E : ab_H} : hc σ M (LR ρ τ N Ts B Q) ++ E = hc σ M (LR ρ τ N Ts B (Q ++ E)) := rfl
theorem ga_l {h E : ab_H} {p : Nat} {c : ab_O} (h1 : h[p]? = some c) : (h ++ E)[p]? = some c := by
  rw [List.getElem?_append_left (List.getElem?_eq_some_iff.mp h1).1]
  exact h1
theorem LR_ga {E : ab_H} {p : Nat} {c : ab_O} (h1 : (hc σ M (LR ρ τ N Ts B Q))[p]? = some c) : (hc σ M (LR ρ τ N Ts B (Q ++ E)))[p]? = some c := by
  rw [← LR_app]
  exact ga_l h1
theorem LR_last {c : ab_O} : (hc σ M (LR ρ τ N Ts B (Q ++ [c])))[76 + Q.length]? = some c := by
  rw [LR_Q]
  simp
theorem LR_lset {c c2 : ab_O} : (hc σ M (LR ρ τ N Ts B (Q ++ [c]))).set (76 + Q.length) c2 = hc σ M (LR ρ τ N Ts B (Q ++ [c2])) := by
  rw [LR_Qs]
  simp
theorem LR_t {c : ab_O} : (hc σ M (LR ρ τ N Ts B (c :: Q)))[76]? = some c := rfl
theorem LR_r {c : ab_O} : (hc σ M (LR ρ τ N Ts B (c :: Q)))[77 + k]? = Q[k]? := by
  rw [show 77 + k = 76 + (k + 1) by omega, LR_Q]
  rfl
theorem lA_L {nn : Nat} (hk : k < nn) (hn : nn ≤ 100000) : rt xs d m hs t ((.iaload, q) :: r) (L, .int (nI k) :: .ref (76 + Q.length) :: st, hc σ M (LR ρ τ N Ts B (Q ++ [oI (ar nn f)]))) = rt xs d m hs t r (L, .int (nI (f k)) :: st, hc σ M (LR ρ τ N Ts B (Q ++ [oI (ar nn f)]))) := q_ia LR_last hk (by omega)
theorem lW_L {nn : Nat} (hk : k < nn) (hn : nn ≤ 100000) : rt xs d m hs t ((.iastore, q) :: r) (L, .int (nI v) :: .int (nI k) :: .ref (76 + Q.length) :: st, hc σ M (LR ρ τ N Ts B (Q ++ [oI (ar nn f)]))) = rt xs d m hs t r (L, st, hc σ M (LR ρ τ N Ts B (Q ++ [oI (ar nn (u1 f k v))]))) := by
  rw [q_is LR_last hk (by omega), LR_lset]
theorem lA_t {nn : Nat} (hk : k < nn) (hn : nn ≤ 100000) : rt xs d m hs t ((.iaload, q) :: r) (L, .int (nI k) :: .ref 76 :: st, hc σ M (LR ρ τ N Ts B (oI (ar nn f) :: Q))) = rt xs d m hs t r (L, .int (nI (f k)) :: st, hc σ M (LR ρ τ N Ts B (oI (ar nn f) :: Q))) := q_ia LR_t hk (by omega)
theorem lW_t {nn : Nat} (hk : k < nn) (hn : nn ≤ 100000) : rt xs d m hs t ((.iastore, q) :: r) (L, .int (nI v) :: .int (nI k) :: .ref 76 :: st, hc σ M (LR ρ τ N Ts B (oI (ar nn f) :: Q))) = rt xs d m hs t r (L, st, hc σ M (LR ρ τ N Ts B (oI (ar nn (u1 f k v)) :: Q))) := (q_is LR_t hk (by omega)).trans rfl
end Lr
