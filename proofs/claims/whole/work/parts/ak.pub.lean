/-! THE HEAP OF CLASS AND MODEL; the model's stores -/
def mh (τ M σ : Nat → Nat → Nat) (μ : Nat → Nat) (ν : Nat → Value) (Q : ab_H) : ab_H := hc τ M (mc σ μ ν ++ Q)
def uv (ν : Nat → Value) (k : Nat) (x : Value) : Nat → Value := fun i => if i = k then x else ν i
section Pub
variable {xs : List Int32} {d m n nn : Nat} {hs : List (Nat × Nat)} {t : ab_T} {r : List ab_I} {q : Nat × Nat × Nat} {L st : List Value} {τ M σ W : Nat → Nat → Nat} {μ : Nat → Nat} {ν : Nat → Value} {Q T : ab_H} {β : Value} {k v a i : Nat} {c : ab_O} {f : Nat → Nat}
set_option maxRecDepth 100000 in
theorem mh_62 : (mh τ M σ μ ν Q)[62 + k]? = (mc σ μ ν ++ Q)[k]? := by
  rw [Nat.add_comm]
  rfl
set_option maxRecDepth 100000 in
theorem mh_Mo : Mo σ μ ν (mh τ M σ μ ν Q) := fun k c h => by
  obtain ⟨h2, -⟩ := List.getElem?_eq_some_iff.mp h
  rw [mh_62, List.getElem?_append_left h2, h]
set_option maxRecDepth 100000 in
theorem mh_Q : (mh τ M σ μ ν Q)[72 + i]? = Q[i]? := by
  rw [Nat.add_comm]
  rfl
set_option maxRecDepth 100000 in
theorem mh_Qs : (mh τ M σ μ ν Q).set (72 + i) c = mh τ M σ μ ν (Q.set i c) := by
  rw [Nat.add_comm]
  rfl
set_option maxRecDepth 100000 in
theorem mh_app : mh τ M σ μ ν Q ++ [c] = mh τ M σ μ ν (Q ++ [c]) := rfl
set_option maxRecDepth 100000 in
theorem mh_ap2 : mh τ M σ μ ν Q ++ T = mh τ M σ μ ν (Q ++ T) := rfl
set_option maxRecDepth 100000 in
theorem mh_len : (mh τ M σ μ ν Q).length = 72 + Q.length := by
  show Q.length + 72 = _
  omega
set_option maxRecDepth 100000 in
theorem hw_mh : hw (mh τ M σ μ ν Q) nn W β T = mh τ M σ μ ν (Q ++ (wcs (72 + Q.length) nn W β ++ T)) := by
  unfold hw
  rw [mh_len]
  rfl
set_option maxRecDepth 100000 in
theorem pF_0 {j : _} : rt xs d m hs t ((.putfield j, n, 13, 0) :: r) (L, .int (nI v) :: .ref 62 :: st, mh τ M σ μ ν Q) = rt xs d m hs t r (L, st, mh τ M (up σ 1 0 v) μ ν Q) := (q_pf (Mo_o mh_Mo) (Nat.le_of_ble_eq_true rfl) rfl).trans (congrArg (fun h => rt xs d m hs t r (L, st, h)) rfl)
set_option maxRecDepth 100000 in
theorem pF_1 {j : _} : rt xs d m hs t ((.putfield j, n, 13, 1) :: r) (L, .int (nI v) :: .ref 62 :: st, mh τ M σ μ ν Q) = rt xs d m hs t r (L, st, mh τ M (up σ 1 1 v) μ ν Q) := (q_pf (Mo_o mh_Mo) (Nat.le_of_ble_eq_true rfl) rfl).trans (congrArg (fun h => rt xs d m hs t r (L, st, h)) rfl)
set_option maxRecDepth 100000 in
theorem pF_2 {j : _} : rt xs d m hs t ((.putfield j, n, 13, 2) :: r) (L, .int (nI v) :: .ref 62 :: st, mh τ M σ μ ν Q) = rt xs d m hs t r (L, st, mh τ M (up σ 1 3 v) μ ν Q) := (q_pf (Mo_o mh_Mo) (Nat.le_of_ble_eq_true rfl) rfl).trans (congrArg (fun h => rt xs d m hs t r (L, st, h)) rfl)
set_option maxRecDepth 100000 in
theorem pF_5 {j : _} : rt xs d m hs t ((.putfield j, n, 13, 5) :: r) (L, .int (nI v) :: .ref 62 :: st, mh τ M σ μ ν Q) = rt xs d m hs t r (L, st, mh τ M (up σ 1 4 v) μ ν Q) := (q_pf (Mo_o mh_Mo) (Nat.le_of_ble_eq_true rfl) rfl).trans (congrArg (fun h => rt xs d m hs t r (L, st, h)) rfl)
set_option maxRecDepth 100000 in
theorem pF_6 {j : _} : rt xs d m hs t ((.putfield j, n, 13, 6) :: r) (L, .int (nI v) :: .ref 62 :: st, mh τ M σ μ ν Q) = rt xs d m hs t r (L, st, mh τ M (up σ 1 5 v) μ ν Q) := (q_pf (Mo_o mh_Mo) (Nat.le_of_ble_eq_true rfl) rfl).trans (congrArg (fun h => rt xs d m hs t r (L, st, h)) rfl)
set_option maxRecDepth 100000 in
theorem pF_8 {j : _} : rt xs d m hs t ((.putfield j, n, 13, 8) :: r) (L, .int (nI v) :: .ref 62 :: st, mh τ M σ μ ν Q) = rt xs d m hs t r (L, st, mh τ M (up σ 1 6 v) μ ν Q) := (q_pf (Mo_o mh_Mo) (Nat.le_of_ble_eq_true rfl) rfl).trans (congrArg (fun h => rt xs d m hs t r (L, st, h)) rfl)
set_option maxRecDepth 100000 in
theorem pF_12 {j : _} : rt xs d m hs t ((.putfield j, n, 13, 12) :: r) (L, .int (nI v) :: .ref 62 :: st, mh τ M σ μ ν Q) = rt xs d m hs t r (L, st, mh τ M (up σ 1 7 v) μ ν Q) := (q_pf (Mo_o mh_Mo) (Nat.le_of_ble_eq_true rfl) rfl).trans (congrArg (fun h => rt xs d m hs t r (L, st, h)) rfl)
set_option maxRecDepth 100000 in
theorem pF_16 {j : _} : rt xs d m hs t ((.putfield j, n, 13, 16) :: r) (L, .int (nI v) :: .ref 62 :: st, mh τ M σ μ ν Q) = rt xs d m hs t r (L, st, mh τ M (up σ 11 0 v) μ ν Q) := (q_pf (Mo_o mh_Mo) (Nat.le_of_ble_eq_true rfl) rfl).trans (congrArg (fun h => rt xs d m hs t r (L, st, h)) rfl)
set_option maxRecDepth 100000 in
theorem pF_17 {j : _} : rt xs d m hs t ((.putfield j, n, 13, 17) :: r) (L, .int (nI v) :: .ref 62 :: st, mh τ M σ μ ν Q) = rt xs d m hs t r (L, st, mh τ M (up σ 11 1 v) μ ν Q) := (q_pf (Mo_o mh_Mo) (Nat.le_of_ble_eq_true rfl) rfl).trans (congrArg (fun h => rt xs d m hs t r (L, st, h)) rfl)
set_option maxRecDepth 100000 in
theorem pF_18 {j : _} : rt xs d m hs t ((.putfield j, n, 13, 18) :: r) (L, .int (nI v) :: .ref 62 :: st, mh τ M σ μ ν Q) = rt xs d m hs t r (L, st, mh τ M (up σ 11 2 v) μ ν Q) := (q_pf (Mo_o mh_Mo) (Nat.le_of_ble_eq_true rfl) rfl).trans (congrArg (fun h => rt xs d m hs t r (L, st, h)) rfl)
set_option maxRecDepth 100000 in
theorem pF_22 {j : _} : rt xs d m hs t ((.putfield j, n, 13, 22) :: r) (L, .int (nI v) :: .ref 62 :: st, mh τ M σ μ ν Q) = rt xs d m hs t r (L, st, mh τ M σ (u1 μ 0 v) ν Q) := (q_pf (Mo_o mh_Mo) (Nat.le_of_ble_eq_true rfl) rfl).trans (congrArg (fun h => rt xs d m hs t r (L, st, h)) rfl)
set_option maxRecDepth 100000 in
theorem pF_24 {j : _} : rt xs d m hs t ((.putfield j, n, 13, 24) :: r) (L, .int (nI v) :: .ref 62 :: st, mh τ M σ μ ν Q) = rt xs d m hs t r (L, st, mh τ M σ (u1 μ 1 v) ν Q) := (q_pf (Mo_o mh_Mo) (Nat.le_of_ble_eq_true rfl) rfl).trans (congrArg (fun h => rt xs d m hs t r (L, st, h)) rfl)
set_option maxRecDepth 100000 in
theorem pF_19 {j : _} : rt xs d m hs t ((.putfield j, n, 13, 19) :: r) (L, .ref a :: .ref 62 :: st, mh τ M σ μ ν Q) = rt xs d m hs t r (L, st, mh τ M σ μ (uv ν 0 (.ref a)) Q) := (q_pf (Mo_o mh_Mo) (Nat.le_of_ble_eq_true rfl) rfl).trans (congrArg (fun h => rt xs d m hs t r (L, st, h)) rfl)
set_option maxRecDepth 100000 in
theorem pN_19 {j : _} : rt xs d m hs t ((.putfield j, n, 13, 19) :: r) (L, .null :: .ref 62 :: st, mh τ M σ μ ν Q) = rt xs d m hs t r (L, st, mh τ M σ μ (uv ν 0 .null) Q) := (q_pf (Mo_o mh_Mo) (Nat.le_of_ble_eq_true rfl) rfl).trans (congrArg (fun h => rt xs d m hs t r (L, st, h)) rfl)
set_option maxRecDepth 100000 in
theorem pF_20 {j : _} : rt xs d m hs t ((.putfield j, n, 13, 20) :: r) (L, .ref a :: .ref 62 :: st, mh τ M σ μ ν Q) = rt xs d m hs t r (L, st, mh τ M σ μ (uv ν 1 (.ref a)) Q) := (q_pf (Mo_o mh_Mo) (Nat.le_of_ble_eq_true rfl) rfl).trans (congrArg (fun h => rt xs d m hs t r (L, st, h)) rfl)
set_option maxRecDepth 100000 in
theorem pN_20 {j : _} : rt xs d m hs t ((.putfield j, n, 13, 20) :: r) (L, .null :: .ref 62 :: st, mh τ M σ μ ν Q) = rt xs d m hs t r (L, st, mh τ M σ μ (uv ν 1 .null) Q) := (q_pf (Mo_o mh_Mo) (Nat.le_of_ble_eq_true rfl) rfl).trans (congrArg (fun h => rt xs d m hs t r (L, st, h)) rfl)
set_option maxRecDepth 100000 in
theorem pF_21 {j : _} : rt xs d m hs t ((.putfield j, n, 13, 21) :: r) (L, .ref a :: .ref 62 :: st, mh τ M σ μ ν Q) = rt xs d m hs t r (L, st, mh τ M σ μ (uv ν 2 (.ref a)) Q) := (q_pf (Mo_o mh_Mo) (Nat.le_of_ble_eq_true rfl) rfl).trans (congrArg (fun h => rt xs d m hs t r (L, st, h)) rfl)
set_option maxRecDepth 100000 in
theorem pN_21 {j : _} : rt xs d m hs t ((.putfield j, n, 13, 21) :: r) (L, .null :: .ref 62 :: st, mh τ M σ μ ν Q) = rt xs d m hs t r (L, st, mh τ M σ μ (uv ν 2 .null) Q) := (q_pf (Mo_o mh_Mo) (Nat.le_of_ble_eq_true rfl) rfl).trans (congrArg (fun h => rt xs d m hs t r (L, st, h)) rfl)
set_option maxRecDepth 100000 in
theorem pF_23 {j : _} : rt xs d m hs t ((.putfield j, n, 13, 23) :: r) (L, .ref a :: .ref 62 :: st, mh τ M σ μ ν Q) = rt xs d m hs t r (L, st, mh τ M σ μ (uv ν 3 (.ref a)) Q) := (q_pf (Mo_o mh_Mo) (Nat.le_of_ble_eq_true rfl) rfl).trans (congrArg (fun h => rt xs d m hs t r (L, st, h)) rfl)
set_option maxRecDepth 100000 in
theorem pN_23 {j : _} : rt xs d m hs t ((.putfield j, n, 13, 23) :: r) (L, .null :: .ref 62 :: st, mh τ M σ μ ν Q) = rt xs d m hs t r (L, st, mh τ M σ μ (uv ν 3 .null) Q) := (q_pf (Mo_o mh_Mo) (Nat.le_of_ble_eq_true rfl) rfl).trans (congrArg (fun h => rt xs d m hs t r (L, st, h)) rfl)
set_option maxRecDepth 100000 in
theorem pA_63 (hk : k < 4) : rt xs d m hs t ((.iastore, q) :: r) (L, .int (nI v) :: .int (nI k) :: .ref 63 :: st, mh τ M σ μ ν Q) = rt xs d m hs t r (L, st, mh τ M (up σ 2 k v) μ ν Q) := (q_is (mh_Mo 1 _ rfl) hk (by decide)).trans (congrArg (fun h => rt xs d m hs t r (L, st, h)) rfl)
set_option maxRecDepth 100000 in
theorem pA_64 (hk : k < 4) : rt xs d m hs t ((.iastore, q) :: r) (L, .int (nI v) :: .int (nI k) :: .ref 64 :: st, mh τ M σ μ ν Q) = rt xs d m hs t r (L, st, mh τ M (up σ 3 k v) μ ν Q) := (q_is (mh_Mo 2 _ rfl) hk (by decide)).trans (congrArg (fun h => rt xs d m hs t r (L, st, h)) rfl)
set_option maxRecDepth 100000 in
theorem pA_65 (hk : k < 3) : rt xs d m hs t ((.iastore, q) :: r) (L, .int (nI v) :: .int (nI k) :: .ref 65 :: st, mh τ M σ μ ν Q) = rt xs d m hs t r (L, st, mh τ M (up σ 4 k v) μ ν Q) := (q_is (mh_Mo 3 _ rfl) hk (by decide)).trans (congrArg (fun h => rt xs d m hs t r (L, st, h)) rfl)
set_option maxRecDepth 100000 in
theorem pA_66 (hk : k < 6) : rt xs d m hs t ((.iastore, q) :: r) (L, .int (nI v) :: .int (nI k) :: .ref 66 :: st, mh τ M σ μ ν Q) = rt xs d m hs t r (L, st, mh τ M (up σ 5 k v) μ ν Q) := (q_is (mh_Mo 4 _ rfl) hk (by decide)).trans (congrArg (fun h => rt xs d m hs t r (L, st, h)) rfl)
set_option maxRecDepth 100000 in
theorem pA_67 (hk : k < 6) : rt xs d m hs t ((.iastore, q) :: r) (L, .int (nI v) :: .int (nI k) :: .ref 67 :: st, mh τ M σ μ ν Q) = rt xs d m hs t r (L, st, mh τ M (up σ 6 k v) μ ν Q) := (q_is (mh_Mo 5 _ rfl) hk (by decide)).trans (congrArg (fun h => rt xs d m hs t r (L, st, h)) rfl)
set_option maxRecDepth 100000 in
theorem pA_68 (hk : k < 6) : rt xs d m hs t ((.iastore, q) :: r) (L, .int (nI v) :: .int (nI k) :: .ref 68 :: st, mh τ M σ μ ν Q) = rt xs d m hs t r (L, st, mh τ M (up σ 7 k v) μ ν Q) := (q_is (mh_Mo 6 _ rfl) hk (by decide)).trans (congrArg (fun h => rt xs d m hs t r (L, st, h)) rfl)
set_option maxRecDepth 100000 in
theorem pA_69 (hk : k < 10) : rt xs d m hs t ((.iastore, q) :: r) (L, .int (nI v) :: .int (nI k) :: .ref 69 :: st, mh τ M σ μ ν Q) = rt xs d m hs t r (L, st, mh τ M (up σ 8 k v) μ ν Q) := (q_is (mh_Mo 7 _ rfl) hk (by decide)).trans (congrArg (fun h => rt xs d m hs t r (L, st, h)) rfl)
set_option maxRecDepth 100000 in
theorem pA_70 (hk : k < 10) : rt xs d m hs t ((.iastore, q) :: r) (L, .int (nI v) :: .int (nI k) :: .ref 70 :: st, mh τ M σ μ ν Q) = rt xs d m hs t r (L, st, mh τ M (up σ 9 k v) μ ν Q) := (q_is (mh_Mo 8 _ rfl) hk (by decide)).trans (congrArg (fun h => rt xs d m hs t r (L, st, h)) rfl)
set_option maxRecDepth 100000 in
theorem pA_71 (hk : k < 10) : rt xs d m hs t ((.iastore, q) :: r) (L, .int (nI v) :: .int (nI k) :: .ref 71 :: st, mh τ M σ μ ν Q) = rt xs d m hs t r (L, st, mh τ M (up σ 10 k v) μ ν Q) := (q_is (mh_Mo 9 _ rfl) hk (by decide)).trans (congrArg (fun h => rt xs d m hs t r (L, st, h)) rfl)
set_option maxRecDepth 100000 in
theorem pQ_l (hq : Q[i]? = some (oI (ar nn f))) (hk : k < nn) (hn : nn ≤ 100000) : rt xs d m hs t ((.iaload, q) :: r) (L, .int (nI k) :: .ref (72 + i) :: st, mh τ M σ μ ν Q) = rt xs d m hs t r (L, .int (nI (f k)) :: st, mh τ M σ μ ν Q) := q_ia (mh_Q.trans hq) hk (by omega)
set_option maxRecDepth 100000 in
theorem pQ_s (hq : Q[i]? = some (oI (ar nn f))) (hk : k < nn) (hn : nn ≤ 100000) : rt xs d m hs t ((.iastore, q) :: r) (L, .int (nI v) :: .int (nI k) :: .ref (72 + i) :: st, mh τ M σ μ ν Q) = rt xs d m hs t r (L, st, mh τ M σ μ ν (Q.set i (oI (ar nn (u1 f k v))))) := by
  rw [q_is (mh_Q.trans hq) hk (by omega), mh_Qs]
set_option maxRecDepth 100000 in
theorem m_187 {b : Bool} : ev xs d 187 0 ([.ref 62, .int (nI (b1 b)), .int (nI v)], [], mh τ M σ μ ν Q) = some (.inl (some (.int (nI (b1 (!b))))), mh τ M σ (u1 μ 0 (if b = true then 0 else v)) ν Q) := by
  cases b
  · simp (disch := first | assumption | omega | exact st8_a (Nat.le_of_ble_eq_true rfl)) only [show b1 false = 0 from rfl, show b1 true = 1 from rfl, Bool.not_false, eb_187_0, eb_187_1, eb_187_2, eb_187_3, eb_187_4, eb_187_5, eb_187_6, xr_1, xr_10, xr_2, xr_27, xr_28, xr_3, xr_31, xr_4, xr_5, xt_goto, xt_ib, xt_ic, xt_if_eq, xt_if_ne, xt_ir, xt_nop, pF_0, pF_1, pF_2, pF_5, pF_6, pF_8, pF_12, pF_16, pF_17, pF_18, pF_22, pF_24, pF_19, pF_20, pF_21, pF_23, pN_19, pN_20, pN_21, pN_23, pA_63, pA_64, pA_65, pA_66, pA_67, pA_68, pA_69, pA_70, pA_71, iN_add, iN_mul, iN_sub, iN_and, iN_or, iN_clr, iN_shl, iN_shr, tb_r1, b1_z, b1_or, b1_and, b1_or0, b1_or1, b1_0or, iN_lt, iN_inj, reduceIte, if_true, if_false, Nat.zero_add, Nat.add_zero, Bool.false_eq_true, Bool.true_eq_false, Nat.lt_irrefl, iN_az, not_true_eq_false, not_false_eq_true, Nat.reduceEqDiff, Nat.reduceLT, Nat.reduceAdd, Nat.reduceMul, Nat.reduceSub]
  · simp (disch := first | assumption | omega | exact st8_a (Nat.le_of_ble_eq_true rfl)) only [show b1 false = 0 from rfl, show b1 true = 1 from rfl, Bool.not_true, eb_187_0, eb_187_1, eb_187_2, eb_187_3, eb_187_4, eb_187_5, eb_187_6, xr_1, xr_10, xr_2, xr_27, xr_28, xr_3, xr_31, xr_4, xr_5, xt_goto, xt_ib, xt_ic, xt_if_eq, xt_if_ne, xt_ir, xt_nop, pF_0, pF_1, pF_2, pF_5, pF_6, pF_8, pF_12, pF_16, pF_17, pF_18, pF_22, pF_24, pF_19, pF_20, pF_21, pF_23, pN_19, pN_20, pN_21, pN_23, pA_63, pA_64, pA_65, pA_66, pA_67, pA_68, pA_69, pA_70, pA_71, iN_add, iN_mul, iN_sub, iN_and, iN_or, iN_clr, iN_shl, iN_shr, tb_r1, b1_z, b1_or, b1_and, b1_or0, b1_or1, b1_0or, iN_lt, iN_inj, reduceIte, if_true, if_false, Nat.zero_add, Nat.add_zero, Bool.false_eq_true, Bool.true_eq_false, Nat.lt_irrefl, iN_az, not_true_eq_false, not_false_eq_true, Nat.reduceEqDiff, Nat.reduceLT, Nat.reduceAdd, Nat.reduceMul, Nat.reduceSub]
set_option maxRecDepth 100000 in
theorem m_234n (h : ν 0 = .null) : ev xs (d + 1) 234 0 ([.ref 62, .int (nI v)], [], mh τ M σ μ ν Q) = some (.inl (some (.int (nI (1)))), mh τ M σ (u1 μ 0 v) ν Q) := by
  have e := m_187 (xs := xs) (d := d) (τ := τ) (M := M) (σ := σ) (μ := μ) (ν := ν) (Q := Q) (v := v) (b := false)
  rw [if_neg (by decide), Bool.not_false, b1_f, b1_t] at e
  simp (disch := first | assumption | omega | exact st8_a (Nat.le_of_ble_eq_true rfl)) only [h, e, eb_234_0, eb_234_1, eb_234_2, eb_234_3, eb_234_4, xr_1, xr_10, xr_2, xr_27, xr_28, xr_3, xr_4, xr_5, af_0, af_1, xt_goto, xt_ib, xt_ic, xt_ir, xt_nop, xt_nu_0, xt_nu_1, mF_19 mh_Mo, xq_187_13_virtualm mh_Mo, pF_0, pF_1, pF_2, pF_5, pF_6, pF_8, pF_12, pF_16, pF_17, pF_18, pF_22, pF_24, pF_19, pF_20, pF_21, pF_23, pN_19, pN_20, pN_21, pN_23, pA_63, pA_64, pA_65, pA_66, pA_67, pA_68, pA_69, pA_70, pA_71, iN_add, iN_mul, iN_sub, iN_and, iN_or, iN_clr, iN_shl, iN_shr, tb_r1, b1_z, b1_or, b1_and, b1_or0, b1_or1, b1_0or, b1_t, b1_f, iN_lt, iN_inj, reduceIte, if_true, if_false, Nat.zero_add, Nat.add_zero, Bool.false_eq_true, Bool.true_eq_false, Nat.lt_irrefl, iN_az, not_true_eq_false, not_false_eq_true, Nat.reduceEqDiff, Nat.reduceLT, Nat.reduceAdd, Nat.reduceMul, Nat.reduceSub]
set_option maxRecDepth 100000 in
theorem m_234r (h : ν 0 = .ref a) : ev xs (d + 1) 234 0 ([.ref 62, .int (nI v)], [], mh τ M σ μ ν Q) = some (.inl (some (.int (nI (0)))), mh τ M σ (u1 μ 0 0) ν Q) := by
  have e := m_187 (xs := xs) (d := d) (τ := τ) (M := M) (σ := σ) (μ := μ) (ν := ν) (Q := Q) (v := v) (b := true)
  rw [if_pos rfl, Bool.not_true, b1_f, b1_t] at e
  simp (disch := first | assumption | omega | exact st8_a (Nat.le_of_ble_eq_true rfl)) only [h, e, eb_234_0, eb_234_1, eb_234_2, eb_234_3, eb_234_4, xr_1, xr_10, xr_2, xr_27, xr_28, xr_3, xr_4, xr_5, af_0, af_1, xt_goto, xt_ib, xt_ic, xt_ir, xt_nop, xt_nu_0, xt_nu_1, mF_19 mh_Mo, xq_187_13_virtualm mh_Mo, pF_0, pF_1, pF_2, pF_5, pF_6, pF_8, pF_12, pF_16, pF_17, pF_18, pF_22, pF_24, pF_19, pF_20, pF_21, pF_23, pN_19, pN_20, pN_21, pN_23, pA_63, pA_64, pA_65, pA_66, pA_67, pA_68, pA_69, pA_70, pA_71, iN_add, iN_mul, iN_sub, iN_and, iN_or, iN_clr, iN_shl, iN_shr, tb_r1, b1_z, b1_or, b1_and, b1_or0, b1_or1, b1_0or, b1_t, b1_f, iN_lt, iN_inj, reduceIte, if_true, if_false, Nat.zero_add, Nat.add_zero, Bool.false_eq_true, Bool.true_eq_false, Nat.lt_irrefl, iN_az, not_true_eq_false, not_false_eq_true, Nat.reduceEqDiff, Nat.reduceLT, Nat.reduceAdd, Nat.reduceMul, Nat.reduceSub]
end Pub
