/-! THE LAW: from its start to its end -/
def sg0 : Nat → Nat → Nat := fun b j => match b, j with
  | 1, 0 => 2
  | 1, 1 => 3
  | 1, 2 => 6
  | 11, 0 => 1
  | 11, 1 => 1
  | 11, 2 => 1
  | _, _ => 0
def M_0 : Nat → Nat → Nat := fun b j => match b, j with
  | 19, 11 => 4294967295
  | 28, 10 => 4294967295
  | 37, 4 => 4294967295
  | 40, 8 => 4294967295
  | _, _ => 0
section Pk
variable {xs : List Int32} {d m2 n k : Nat} {hs : List (Nat × Nat)} {tt : ab_T} {rr : List ab_I} {qq : Nat × Nat × Nat} {Lc st : List Value} {σ M M0 N W : Nat → Nat → Nat} {ρ w1 u : Int32} {R h E Q Q2 : ab_H} {B w : Nat → Nat} {c : ab_O} {S : ab_S} {x2 x3 : Value}
set_option maxRecDepth 100000 in
theorem lxs (hx : xs[k]? = some u) (hk : k < 2147483648) : rt xs d m2 hs tt ((.iaload, qq) :: rr) (Lc, .int (nI k) :: .retAddr 1 :: st, h) = rt xs d m2 hs tt rr (Lc, .int u :: st, h) := by
  apply rt_s
  show ab_iald (ab_fx xs) .int (Lc, .int (nI k) :: .retAddr 1 :: st, h) = _
  have e : ab_ix (ab_fx xs 1) (nI k) = some u := by
    show ab_ix xs (nI k) = _
    unfold ab_ix
    rw [if_neg (iN_nn hk), iN_cl hk]
    exact hx
  simp only [ab_iald, e, and_self, if_true]
  rfl
set_option maxRecDepth 100000 in
theorem lxl (hl : xs.length < 2000000) : rt xs d m2 hs tt ((.arraylength, qq) :: rr) (Lc, .retAddr 1 :: st, h) = rt xs d m2 hs tt rr (Lc, .int (nI xs.length) :: st, h) := by
  apply rt_s
  show ab_alen (ab_fx xs) (Lc, .retAddr 1 :: st, h) = _
  have e : (ab_fx xs 1).length < 2000000 := hl
  simp only [ab_alen, e, and_self, if_true]
  rfl
set_option maxRecDepth 100000 in
theorem sN : rt xs d m2 hs tt ((.newarray .int, qq) :: rr) (Lc, .int (nI 1) :: st, []) = rt xs d m2 hs tt rr (Lc, .ref 0 :: st, [oI [nI 0]]) := rt_s rfl
set_option maxRecDepth 100000 in
theorem sA : rt xs d m2 hs tt ((.iaload, qq) :: rr) (Lc, .int (nI 0) :: .ref 0 :: st, [oI [ρ]]) = rt xs d m2 hs tt rr (Lc, .int ρ :: st, [oI [ρ]]) := rt_s rfl
set_option maxRecDepth 100000 in
theorem sW : rt xs d m2 hs tt ((.iastore, qq) :: rr) (Lc, .int w1 :: .int (nI 0) :: .ref 0 :: st, [oI [ρ]]) = rt xs d m2 hs tt rr (Lc, st, [oI [w1]]) := rt_s rfl
set_option maxRecDepth 100000 in
theorem sL : ([oI [ρ]] : ab_H).length = 1 := rfl
set_option maxRecDepth 100000 in
theorem sAp : [oI [ρ]] ++ [c] = [oI [ρ], c] := rfl
set_option maxRecDepth 100000 in
theorem hc_63 : (hc σ M [c]).length = 63 := rfl
set_option maxRecDepth 100000 in
theorem xt_rot {nn kk : Nat} (h63 : 63 ≤ S.2.2.length) : rt xs d m2 hs (.nop, nn, (7, 0, 0), [kk]) [] S = ev xs d m2 kk (ab_rot S) := by
  show (if 63 ≤ S.2.2.length then ev xs d m2 kk (ab_rot S) else none) = _
  rw [if_pos h63]
set_option maxRecDepth 100000 in
theorem HT1_hc : HT1 ρ = hc sg0 M_0 [oI [ρ]] := rfl
set_option maxRecDepth 100000 in
theorem HT2_hc : HT2 ρ = hc sg0 M_0 [oI [ρ], .inl (12, ab_def 12)] := rfl
set_option maxRecDepth 100000 in
theorem rot_1 {a : Int32} : ab_rot ([.retAddr 1, .ref 0, .int a, .retAddr 9], [.ref 1], H1 ρ) = ([.retAddr 1, .ref 62, .int a, .retAddr 9], [.ref 0], HT1 ρ) := rfl
set_option maxRecDepth 100000 in
theorem ar3 : oI (List.replicate 3 0) = oI (ar 3 fun _ => 0) := rfl
set_option maxRecDepth 100000 in
theorem SC0_LR : SC0 ρ = hc sg0 M_0 (LR ρ (up (up sg0 1 0 0) 1 1 0) 0 (TSS 0) (fun _ => 0) []) := by
  have e2 : oI (List.replicate 2000 0) = oI (ar 2000 fun _ => 0) := by rw [ar_zero]
  have e1 : SC0 ρ = hc sg0 M_0 (oI [ρ] :: .inl (12, [.int (nI 0), .int (nI 0), .int (nI 0), .ref 64, .int (nI 0), .ref 65, .ref 66, .int (nI 0), .int (nI 0), .ref 67, .ref 68, .ref 69, .int (nI 0), .ref 70, .ref 71, .ref 72, .ref 73, .ref 74, .ref 75, .int (nI 0)]) :: oI (ar 3 (sg0 4)) :: oI (ar 4 (sg0 2)) :: oI (ar 4 (sg0 3)) :: oI (ar 6 (sg0 5)) :: oI (ar 6 (sg0 6)) :: oI (ar 6 (sg0 7)) :: oI (ar 10 (sg0 8)) :: oI (ar 10 (sg0 9)) :: oI (ar 10 (sg0 10)) :: oI (ar 3 (sg0 11)) :: oR (List.replicate 2000 none) :: [oI (List.replicate 2000 0)]) := rfl
  rw [e1, TSS_0, e2]
  rfl
set_option maxRecDepth 100000 in
theorem m_121 : ev xs (d + 2) 121 0 ([.ref 1], [], [oI [ρ], .inl (11, ab_def 11)]) = some (.inl none, H1 ρ) := nw_class
set_option maxRecDepth 100000 in
theorem m_280 : ev xs d 280 0 ([.ref 63], [], hc sg0 M_0 [oI [ρ], .inl (12, ab_def 12)]) = some (.inl none, hc sg0 M_0 (LR ρ (up (up sg0 1 0 0) 1 1 0) 0 (TSS 0) (fun _ => 0) [])) := by
  rw [← HT2_hc, ← SC0_LR]
  exact nw_school
end Pk
