/-! THE MODEL'S Ways: the constructor -/
def bgn (σ : Nat → Nat → Nat) (a : Nat) : Nat := en ((σ 1 2) * (σ 1 5)) fun v => sty σ a (v / (σ 1 5)) && sts σ a (v % (σ 1 5))
def bsd (σ : Nat → Nat → Nat) (a u b : Nat) : Nat := if b = a then 0 else en ((σ 1 2) * (σ 1 5)) fun v => decide (cl2 σ a u b v = 0)
def aln (σ : Nat → Nat → Nat) (q a : Nat) : Nat := en ((σ 1 2) * (σ 1 5)) (ka σ q a)
def of1 (σ : Nat → Nat → Nat) (q u : Nat) : Nat := en ((σ 1 2) * (σ 1 5)) fun v => kp2 σ q (u / (σ 1 5)) (v / (σ 1 5))
def of2 (σ : Nat → Nat → Nat) (q v : Nat) : Nat := en ((σ 1 2) * (σ 1 5)) fun u => kp2 σ q (u / (σ 1 5)) (v / (σ 1 5))
def wix (a u b : Nat) : Nat := (a * 18 + u) * 6 + b
/-- what the constructor leaves -/
def WB (σ W : Nat → Nat → Nat) : Prop := W 0 0 = (σ 1 2) * (σ 1 5) ∧ (∀ a, a < (σ 1 6) → W 1 a = bgn σ a) ∧ (∀ a u b, a < (σ 1 6) → u < (σ 1 2) * (σ 1 5) → b < (σ 1 6) → W 2 (wix a u b) = bsd σ a u b) ∧ (∀ q a, q < (σ 1 7) → a < (σ 1 6) → W 3 (6 * q + a) = aln σ q a) ∧ ∀ q u, q < (σ 1 7) → 2 ≤ σ 8 q → σ 8 q ≤ 5 → u < (σ 1 2) * (σ 1 5) → W 4 (36 * q + u) = of1 σ q u ∧ W 4 (18 * (2 * q + 1) + u) = of2 σ q u
set_option maxRecDepth 100000 in
theorem en_s1 {n : Nat} {p : Nat → Bool} (h : p n = true) : en (n + 1) p = en n p ||| 1 <<< n := by rw [en_st, if_pos h]
set_option maxRecDepth 100000 in
theorem en_s0 {n : Nat} {p : Nat → Bool} (h : p n = false) : en (n + 1) p = en n p ||| 0 := by rw [en_st, h, Nat.or_zero]; rfl
set_option maxRecDepth 100000 in
theorem wix_i {a u b a2 u2 b2 : Nat} (hu : u < 18) (hb : b < 6) (hu2 : u2 < 18) (hb2 : b2 < 6) (h : wix a u b = wix a2 u2 b2) : a = a2 ∧ u = u2 ∧ b = b2 := by
  unfold wix at h
  omega
def W0 (σ : Nat → Nat → Nat) : Nat → Nat → Nat := fun a j => if a = 0 ∧ j = 0 then (σ 1 2) * (σ 1 5) else 0
section Wya
variable {xs : List Int32} {d m n : Nat} {hs : List (Nat × Nat)} {t : ab_T} {r : List ab_I} {q : Nat × Nat × Nat} {L st : List Value} {h0 T A : ab_H} {σ W : Nat → Nat → Nat} {μ : Nat → Nat} {ν : Nat → Value} {β x0 x1 x2 x3 x4 x5 x6 x7 x8 x9 xa xb xc xd : Value} {a b u k v y : Nat} {c : ab_O}
set_option maxRecDepth 100000 in
theorem ab_d12 : ab_def 12 = [.int 0, .null, .null, .null, .null, .null, .null, .null, .null, .null, .int 0, .null, .null, .null] := rfl
set_option maxRecDepth 100000 in
theorem nw_g {fs : List Value} : (h0 ++ (.inl (12, fs) :: A))[h0.length]? = some (.inl (12, fs)) := by
  rw [List.getElem?_append_right (Nat.le_refl _), Nat.sub_self]
  rfl
set_option maxRecDepth 100000 in
theorem nw_c {fs : List Value} : cls (h0 ++ (.inl (12, fs) :: A)) h0.length = some 12 := by
  unfold cls
  rw [nw_g]
set_option maxRecDepth 100000 in
theorem nw_s {o c : ab_O} : (h0 ++ (o :: A)).set h0.length c = h0 ++ (c :: A) := by
  rw [List.set_append_right _ _ (Nat.le_refl _), Nat.sub_self]
  rfl
set_option maxRecDepth 100000 in
theorem nw_p0 {j : _} : rt xs d m hs t ((.putfield j, n, 12, 0) :: r) (L, .int (nI v) :: .ref h0.length :: st, h0 ++ (.inl (12, [x0, x1, x2, x3, x4, x5, x6, x7, x8, x9, xa, xb, xc, xd]) :: A)) = rt xs d m hs t r (L, st, h0 ++ (.inl (12, [.int (nI v), x1, x2, x3, x4, x5, x6, x7, x8, x9, xa, xb, xc, xd]) :: A)) := (q_pf nw_g (Nat.le_of_ble_eq_true rfl) rfl).trans (congrArg (fun h => rt xs d m hs t r (L, st, h)) nw_s)
set_option maxRecDepth 100000 in
theorem nw_p1 {j : _} : rt xs d m hs t ((.putfield j, n, 12, 1) :: r) (L, .ref v :: .ref h0.length :: st, h0 ++ (.inl (12, [x0, x1, x2, x3, x4, x5, x6, x7, x8, x9, xa, xb, xc, xd]) :: A)) = rt xs d m hs t r (L, st, h0 ++ (.inl (12, [x0, .ref v, x2, x3, x4, x5, x6, x7, x8, x9, xa, xb, xc, xd]) :: A)) := (q_pf nw_g (Nat.le_of_ble_eq_true rfl) rfl).trans (congrArg (fun h => rt xs d m hs t r (L, st, h)) nw_s)
set_option maxRecDepth 100000 in
theorem nw_p2 {j : _} : rt xs d m hs t ((.putfield j, n, 12, 2) :: r) (L, .ref v :: .ref h0.length :: st, h0 ++ (.inl (12, [x0, x1, x2, x3, x4, x5, x6, x7, x8, x9, xa, xb, xc, xd]) :: A)) = rt xs d m hs t r (L, st, h0 ++ (.inl (12, [x0, x1, .ref v, x3, x4, x5, x6, x7, x8, x9, xa, xb, xc, xd]) :: A)) := (q_pf nw_g (Nat.le_of_ble_eq_true rfl) rfl).trans (congrArg (fun h => rt xs d m hs t r (L, st, h)) nw_s)
set_option maxRecDepth 100000 in
theorem nw_p3 {j : _} : rt xs d m hs t ((.putfield j, n, 12, 3) :: r) (L, .ref v :: .ref h0.length :: st, h0 ++ (.inl (12, [x0, x1, x2, x3, x4, x5, x6, x7, x8, x9, xa, xb, xc, xd]) :: A)) = rt xs d m hs t r (L, st, h0 ++ (.inl (12, [x0, x1, x2, .ref v, x4, x5, x6, x7, x8, x9, xa, xb, xc, xd]) :: A)) := (q_pf nw_g (Nat.le_of_ble_eq_true rfl) rfl).trans (congrArg (fun h => rt xs d m hs t r (L, st, h)) nw_s)
set_option maxRecDepth 100000 in
theorem nw_p4 {j : _} : rt xs d m hs t ((.putfield j, n, 12, 4) :: r) (L, .ref v :: .ref h0.length :: st, h0 ++ (.inl (12, [x0, x1, x2, x3, x4, x5, x6, x7, x8, x9, xa, xb, xc, xd]) :: A)) = rt xs d m hs t r (L, st, h0 ++ (.inl (12, [x0, x1, x2, x3, .ref v, x5, x6, x7, x8, x9, xa, xb, xc, xd]) :: A)) := (q_pf nw_g (Nat.le_of_ble_eq_true rfl) rfl).trans (congrArg (fun h => rt xs d m hs t r (L, st, h)) nw_s)
set_option maxRecDepth 100000 in
theorem nw_p5 {j : _} : rt xs d m hs t ((.putfield j, n, 12, 5) :: r) (L, .ref v :: .ref h0.length :: st, h0 ++ (.inl (12, [x0, x1, x2, x3, x4, x5, x6, x7, x8, x9, xa, xb, xc, xd]) :: A)) = rt xs d m hs t r (L, st, h0 ++ (.inl (12, [x0, x1, x2, x3, x4, .ref v, x6, x7, x8, x9, xa, xb, xc, xd]) :: A)) := (q_pf nw_g (Nat.le_of_ble_eq_true rfl) rfl).trans (congrArg (fun h => rt xs d m hs t r (L, st, h)) nw_s)
set_option maxRecDepth 100000 in
theorem nw_p6 {j : _} : rt xs d m hs t ((.putfield j, n, 12, 6) :: r) (L, .ref v :: .ref h0.length :: st, h0 ++ (.inl (12, [x0, x1, x2, x3, x4, x5, x6, x7, x8, x9, xa, xb, xc, xd]) :: A)) = rt xs d m hs t r (L, st, h0 ++ (.inl (12, [x0, x1, x2, x3, x4, x5, .ref v, x7, x8, x9, xa, xb, xc, xd]) :: A)) := (q_pf nw_g (Nat.le_of_ble_eq_true rfl) rfl).trans (congrArg (fun h => rt xs d m hs t r (L, st, h)) nw_s)
set_option maxRecDepth 100000 in
theorem nw_p7 {j : _} : rt xs d m hs t ((.putfield j, n, 12, 7) :: r) (L, .ref v :: .ref h0.length :: st, h0 ++ (.inl (12, [x0, x1, x2, x3, x4, x5, x6, x7, x8, x9, xa, xb, xc, xd]) :: A)) = rt xs d m hs t r (L, st, h0 ++ (.inl (12, [x0, x1, x2, x3, x4, x5, x6, .ref v, x8, x9, xa, xb, xc, xd]) :: A)) := (q_pf nw_g (Nat.le_of_ble_eq_true rfl) rfl).trans (congrArg (fun h => rt xs d m hs t r (L, st, h)) nw_s)
set_option maxRecDepth 100000 in
theorem nw_p8 {j : _} : rt xs d m hs t ((.putfield j, n, 12, 8) :: r) (L, .ref v :: .ref h0.length :: st, h0 ++ (.inl (12, [x0, x1, x2, x3, x4, x5, x6, x7, x8, x9, xa, xb, xc, xd]) :: A)) = rt xs d m hs t r (L, st, h0 ++ (.inl (12, [x0, x1, x2, x3, x4, x5, x6, x7, .ref v, x9, xa, xb, xc, xd]) :: A)) := (q_pf nw_g (Nat.le_of_ble_eq_true rfl) rfl).trans (congrArg (fun h => rt xs d m hs t r (L, st, h)) nw_s)
set_option maxRecDepth 100000 in
theorem nw_p11 {j : _} : rt xs d m hs t ((.putfield j, n, 12, 11) :: r) (L, .ref v :: .ref h0.length :: st, h0 ++ (.inl (12, [x0, x1, x2, x3, x4, x5, x6, x7, x8, x9, xa, xb, xc, xd]) :: A)) = rt xs d m hs t r (L, st, h0 ++ (.inl (12, [x0, x1, x2, x3, x4, x5, x6, x7, x8, x9, xa, .ref v, xc, xd]) :: A)) := (q_pf nw_g (Nat.le_of_ble_eq_true rfl) rfl).trans (congrArg (fun h => rt xs d m hs t r (L, st, h)) nw_s)
set_option maxRecDepth 100000 in
theorem nw_p12 {j : _} : rt xs d m hs t ((.putfield j, n, 12, 12) :: r) (L, .ref v :: .ref h0.length :: st, h0 ++ (.inl (12, [x0, x1, x2, x3, x4, x5, x6, x7, x8, x9, xa, xb, xc, xd]) :: A)) = rt xs d m hs t r (L, st, h0 ++ (.inl (12, [x0, x1, x2, x3, x4, x5, x6, x7, x8, x9, xa, xb, .ref v, xd]) :: A)) := (q_pf nw_g (Nat.le_of_ble_eq_true rfl) rfl).trans (congrArg (fun h => rt xs d m hs t r (L, st, h)) nw_s)
set_option maxRecDepth 100000 in
theorem nw_p13 {j : _} : rt xs d m hs t ((.putfield j, n, 12, 13) :: r) (L, .ref v :: .ref h0.length :: st, h0 ++ (.inl (12, [x0, x1, x2, x3, x4, x5, x6, x7, x8, x9, xa, xb, xc, xd]) :: A)) = rt xs d m hs t r (L, st, h0 ++ (.inl (12, [x0, x1, x2, x3, x4, x5, x6, x7, x8, x9, xa, xb, xc, .ref v]) :: A)) := (q_pf nw_g (Nat.le_of_ble_eq_true rfl) rfl).trans (congrArg (fun h => rt xs d m hs t r (L, st, h)) nw_s)
set_option maxRecDepth 100000 in
theorem nw_g13 {j : _} : rt xs d m hs t ((.getfield j, n, 12, 13) :: r) (L, .ref h0.length :: st, h0 ++ (.inl (12, [x0, x1, x2, x3, x4, x5, x6, x7, x8, x9, xa, xb, xc, xd]) :: A)) = rt xs d m hs t r (L, xd :: st, h0 ++ (.inl (12, [x0, x1, x2, x3, x4, x5, x6, x7, x8, x9, xa, xb, xc, xd]) :: A)) := q_gf nw_g rfl
set_option maxRecDepth 100000 in
theorem m_172a (O : Ok σ) (H : Mo σ μ ν h0) : ev xs (d + 1) 172 0 ([.ref h0.length, .ref 62, .retAddr 9, .retAddr 9, .retAddr 9, .retAddr 9, .retAddr 9], [], h0 ++ [.inl (12, ab_def 12)]) = ev xs (d + 1) 172 2 ([.ref h0.length, .ref 62, .int (nI 0), .retAddr 9, .retAddr 9, .retAddr 9, .retAddr 9], [], hw h0 (σ 1 6) (W0 σ) .null []) := by
  obtain ⟨hD1, hD2, hH1, hH2, hS, hC, hT, hR, hL, hQ⟩ := Ok_b O
  have e0 : ∀ A, ev xs d 189 0 ([.ref 62], [], h0 ++ A) = some (.inl (some (.int (nI ((σ 1 2))))), h0 ++ A) := fun A => m_189 O (Mo_app H)
  rw [ab_d12]
  simp (disch := first | assumption | omega | exact st8_a (Nat.le_of_ble_eq_true rfl)) only [xr_49, xr_133, e0, nw_p0, nw_p1, nw_p2, nw_p3, nw_p4, nw_p5, nw_p6, nw_p7, nw_p8, nw_p11, nw_p12, nw_p13, nw_g13, List.append_assoc, List.cons_append, List.nil_append, List.length_append, List.length_cons, List.length_nil, eb_172_0, eb_172_1, kl_a, kl_d, kl_f, kl_i, kl_l, kl_n, kl_r, xr_1, xr_10, xr_11, xr_12, xr_13, xr_130, xr_131, xr_132, xr_134, xr_14, xr_15, xr_2, xr_27, xr_3, xr_30, xr_31, xr_32, xr_33, xr_34, xr_35, xr_36, xr_37, xr_38, xr_4, xr_40, xr_41, xr_42, xr_43, xr_45, xr_48, xr_5, xr_56, xr_57, xr_58, xr_6, xr_63, xr_65, xr_67, xr_69, xr_74, xr_87, xr_88, af_0, af_1, xt_goto, xt_ic_eq, xt_ic_ge, xt_if_eq, xt_if_ne, xt_nop, xt_re, mF_12 (Mo_app H), mF_6 (Mo_app H), mF_8 (Mo_app H), mA_63 (Mo_app H), mA_64 (Mo_app H), mA_65 (Mo_app H), mA_66 (Mo_app H), mA_67 (Mo_app H), mA_68 (Mo_app H), mA_69 (Mo_app H), mA_70 (Mo_app H), mA_71 (Mo_app H), xq_173_12_virtual nw_c, xq_189_63_virtualm (Mo_app H), xq_198_63_virtualm (Mo_app H), xq_199_63_virtualm (Mo_app H), xq_200_63_virtualm (Mo_app H), xq_201_63_virtualm (Mo_app H), xq_202_63_virtualm (Mo_app H), xq_203_63_virtualm (Mo_app H), iN_add, iN_mul, iN_sub, iN_and, iN_or, iN_clr, iN_shl, iN_shr, tb_r1, b1_z, b1_or, b1_and, b1_or0, b1_or1, b1_0or, b1_t, b1_f, iN_lt, iN_inj, reduceIte, if_true, if_false, Nat.zero_add, Nat.add_zero, Bool.false_eq_true, Bool.true_eq_false, Nat.lt_irrefl, iN_az, not_true_eq_false, not_false_eq_true, Nat.reduceEqDiff, Nat.reduceLT, Nat.reduceAdd, Nat.reduceMul, Nat.reduceSub]
  rfl
end Wya
