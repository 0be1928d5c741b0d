/-! THE CELLS OF THE MODEL'S Ways (behind any heap h0; T: what came behind) -/
def wcs (w n : Nat) (W : Nat → Nat → Nat) (β : Value) : ab_H := [.inl (12, [.int (nI (W 0 0)), .ref (w + 1), .ref (w + 2), .ref (w + 3), .ref (w + 4), .ref (w + 5), .ref (w + 6), .ref (w + 7), .ref (w + 8), β, .int (nI (W 0 10)), .ref (w + 9), .ref (w + 17), .ref 62]), oI (ar 6 (W 1)), oI (ar 648 (W 2)), oI (ar 60 (W 3)), oI (ar 360 (W 4)), oI (ar 648 (W 5)), oI (ar 4 (W 6)), oI (ar 42 (W 7)), oI (ar n (W 8)), oR [some (w + 10), some (w + 11), some (w + 12), some (w + 13), some (w + 14), some (w + 15), some (w + 16)], oI (ar 4 (W 10)), oI (ar 4 (W 11)), oI (ar 4 (W 12)), oI (ar 4 (W 13)), oI (ar 4 (W 14)), oI (ar 4 (W 15)), oI (ar 4 (W 16)), oI (ar 4 (W 17))]
def hw (h0 : ab_H) (n : Nat) (W : Nat → Nat → Nat) (β : Value) (T : ab_H) : ab_H := h0 ++ (wcs h0.length n W β ++ T)
set_option maxRecDepth 100000 in
theorem ap_g {h0 A T : ab_H} {k : Nat} (hk : k < A.length) : (h0 ++ (A ++ T))[h0.length + k]? = A[k]? := by
  rw [List.getElem?_append_right (Nat.le_add_right _ _), Nat.add_sub_cancel_left, List.getElem?_append_left hk]
set_option maxRecDepth 100000 in
theorem ap_s {h0 A T : ab_H} {k : Nat} {c : ab_O} (hk : k < A.length) : (h0 ++ (A ++ T)).set (h0.length + k) c = h0 ++ (A.set k c ++ T) := by
  rw [List.set_append_right _ _ (Nat.le_add_right _ _), Nat.add_sub_cancel_left, List.set_append_left _ _ hk]
section Wy
variable {xs : List Int32} {d m n nn : Nat} {hs : List (Nat × Nat)} {t : ab_T} {r : List ab_I} {q : Nat × Nat × Nat} {L st : List Value} {h0 T : ab_H} {σ W : Nat → Nat → Nat} {μ : Nat → Nat} {ν : Nat → Value} {β : Value} {k v : Nat} {c : ab_O}
set_option maxRecDepth 100000 in
theorem Mo_app (H : Mo σ μ ν h0) : Mo σ μ ν (h0 ++ T) := fun k c hk => by
  have h1 := H k c hk
  obtain ⟨h2, -⟩ := List.getElem?_eq_some_iff.mp h1
  rw [List.getElem?_append_left h2]
  exact h1
set_option maxRecDepth 100000 in
theorem Mo_hw (H : Mo σ μ ν h0) : Mo σ μ ν (hw h0 nn W β T) := Mo_app H
set_option maxRecDepth 100000 in
theorem hw_o : (hw h0 nn W β T)[h0.length]? = (wcs h0.length nn W β)[0]? := ap_g (k := 0) (Nat.succ_pos _)
set_option maxRecDepth 100000 in
theorem hw_k (hk : k < 18) : (hw h0 nn W β T)[h0.length + k]? = (wcs h0.length nn W β)[k]? := ap_g hk
set_option maxRecDepth 100000 in
theorem wy_c : cls (hw h0 nn W β T) h0.length = some 12 := by
  unfold cls
  rw [hw_o]
  rfl
set_option maxRecDepth 100000 in
theorem hw_os : (hw h0 nn W β T).set h0.length c = h0 ++ ((wcs h0.length nn W β).set 0 c ++ T) := ap_s (k := 0) (Nat.succ_pos _)
set_option maxRecDepth 100000 in
theorem hw_ks (hk : k < 18) : (hw h0 nn W β T).set (h0.length + k) c = h0 ++ ((wcs h0.length nn W β).set k c ++ T) := ap_s hk
set_option maxRecDepth 100000 in
theorem hw_len : (hw h0 nn W β T).length = h0.length + (18 + T.length) := by
  unfold hw
  rw [List.length_append, List.length_append]
  rfl
set_option maxRecDepth 100000 in
theorem hw_app : hw h0 nn W β T ++ [c] = hw h0 nn W β (T ++ [c]) := by
  unfold hw
  rw [List.append_assoc, List.append_assoc]
set_option maxRecDepth 100000 in
theorem hw_l {p : Nat} {c : ab_O} (h : h0[p]? = some c) : (hw h0 nn W β T)[p]? = some c := by
  obtain ⟨h2, -⟩ := List.getElem?_eq_some_iff.mp h
  unfold hw
  rw [List.getElem?_append_left h2]
  exact h
set_option maxRecDepth 100000 in
theorem hw_T {i : Nat} : (hw h0 nn W β T)[h0.length + (18 + i)]? = T[i]? := by
  unfold hw
  rw [List.getElem?_append_right (Nat.le_add_right _ _), Nat.add_sub_cancel_left, List.getElem?_append_right (Nat.le_add_right 18 i)]
  congr 1
  show 18 + i - 18 = i
  omega
set_option maxRecDepth 100000 in
theorem wF_0 {j : _} : rt xs d m hs t ((.getfield j, n, 12, 0) :: r) (L, .ref h0.length :: st, hw h0 nn W β T) = rt xs d m hs t r (L, .int (nI (W 0 0)) :: st, hw h0 nn W β T) := q_gf (hw_o.trans rfl) rfl
set_option maxRecDepth 100000 in
theorem wF_1 {j : _} : rt xs d m hs t ((.getfield j, n, 12, 1) :: r) (L, .ref h0.length :: st, hw h0 nn W β T) = rt xs d m hs t r (L, .ref (h0.length + 1) :: st, hw h0 nn W β T) := q_gf (hw_o.trans rfl) rfl
set_option maxRecDepth 100000 in
theorem wF_2 {j : _} : rt xs d m hs t ((.getfield j, n, 12, 2) :: r) (L, .ref h0.length :: st, hw h0 nn W β T) = rt xs d m hs t r (L, .ref (h0.length + 2) :: st, hw h0 nn W β T) := q_gf (hw_o.trans rfl) rfl
set_option maxRecDepth 100000 in
theorem wF_3 {j : _} : rt xs d m hs t ((.getfield j, n, 12, 3) :: r) (L, .ref h0.length :: st, hw h0 nn W β T) = rt xs d m hs t r (L, .ref (h0.length + 3) :: st, hw h0 nn W β T) := q_gf (hw_o.trans rfl) rfl
set_option maxRecDepth 100000 in
theorem wF_4 {j : _} : rt xs d m hs t ((.getfield j, n, 12, 4) :: r) (L, .ref h0.length :: st, hw h0 nn W β T) = rt xs d m hs t r (L, .ref (h0.length + 4) :: st, hw h0 nn W β T) := q_gf (hw_o.trans rfl) rfl
set_option maxRecDepth 100000 in
theorem wF_5 {j : _} : rt xs d m hs t ((.getfield j, n, 12, 5) :: r) (L, .ref h0.length :: st, hw h0 nn W β T) = rt xs d m hs t r (L, .ref (h0.length + 5) :: st, hw h0 nn W β T) := q_gf (hw_o.trans rfl) rfl
set_option maxRecDepth 100000 in
theorem wF_6 {j : _} : rt xs d m hs t ((.getfield j, n, 12, 6) :: r) (L, .ref h0.length :: st, hw h0 nn W β T) = rt xs d m hs t r (L, .ref (h0.length + 6) :: st, hw h0 nn W β T) := q_gf (hw_o.trans rfl) rfl
set_option maxRecDepth 100000 in
theorem wF_7 {j : _} : rt xs d m hs t ((.getfield j, n, 12, 7) :: r) (L, .ref h0.length :: st, hw h0 nn W β T) = rt xs d m hs t r (L, .ref (h0.length + 7) :: st, hw h0 nn W β T) := q_gf (hw_o.trans rfl) rfl
set_option maxRecDepth 100000 in
theorem wF_8 {j : _} : rt xs d m hs t ((.getfield j, n, 12, 8) :: r) (L, .ref h0.length :: st, hw h0 nn W β T) = rt xs d m hs t r (L, .ref (h0.length + 8) :: st, hw h0 nn W β T) := q_gf (hw_o.trans rfl) rfl
set_option maxRecDepth 100000 in
theorem wF_9 {j : _} : rt xs d m hs t ((.getfield j, n, 12, 9) :: r) (L, .ref h0.length :: st, hw h0 nn W β T) = rt xs d m hs t r (L, β :: st, hw h0 nn W β T) := q_gf (hw_o.trans rfl) rfl
set_option maxRecDepth 100000 in
theorem wF_10 {j : _} : rt xs d m hs t ((.getfield j, n, 12, 10) :: r) (L, .ref h0.length :: st, hw h0 nn W β T) = rt xs d m hs t r (L, .int (nI (W 0 10)) :: st, hw h0 nn W β T) := q_gf (hw_o.trans rfl) rfl
set_option maxRecDepth 100000 in
theorem wF_11 {j : _} : rt xs d m hs t ((.getfield j, n, 12, 11) :: r) (L, .ref h0.length :: st, hw h0 nn W β T) = rt xs d m hs t r (L, .ref (h0.length + 9) :: st, hw h0 nn W β T) := q_gf (hw_o.trans rfl) rfl
set_option maxRecDepth 100000 in
theorem wF_12 {j : _} : rt xs d m hs t ((.getfield j, n, 12, 12) :: r) (L, .ref h0.length :: st, hw h0 nn W β T) = rt xs d m hs t r (L, .ref (h0.length + 17) :: st, hw h0 nn W β T) := q_gf (hw_o.trans rfl) rfl
set_option maxRecDepth 100000 in
theorem wF_13 {j : _} : rt xs d m hs t ((.getfield j, n, 12, 13) :: r) (L, .ref h0.length :: st, hw h0 nn W β T) = rt xs d m hs t r (L, .ref 62 :: st, hw h0 nn W β T) := q_gf (hw_o.trans rfl) rfl
set_option maxRecDepth 100000 in
theorem wP_9 {j : _} {a : Nat} : rt xs d m hs t ((.putfield j, n, 12, 9) :: r) (L, .ref a :: .ref h0.length :: st, hw h0 nn W β T) = rt xs d m hs t r (L, st, hw h0 nn W (.ref a) T) := by
  rw [q_pf (ci := 12) (f := 9) (hw_o.trans rfl) (Nat.le_of_ble_eq_true rfl) rfl, hw_os]
  rfl
set_option maxRecDepth 100000 in
theorem wP_10 {j : _} : rt xs d m hs t ((.putfield j, n, 12, 10) :: r) (L, .int (nI v) :: .ref h0.length :: st, hw h0 nn W β T) = rt xs d m hs t r (L, st, hw h0 nn (up W 0 10 v) β T) := by
  rw [q_pf (ci := 12) (f := 10) (hw_o.trans rfl) (Nat.le_of_ble_eq_true rfl) rfl, hw_os]
  rfl
set_option maxRecDepth 100000 in
theorem wA_1 (hk : k < 6) : rt xs d m hs t ((.iaload, q) :: r) (L, .int (nI k) :: .ref (h0.length + 1) :: st, hw h0 nn W β T) = rt xs d m hs t r (L, .int (nI (W 1 k)) :: st, hw h0 nn W β T) := q_ia ((hw_k (by decide)).trans rfl) hk (by decide)
set_option maxRecDepth 100000 in
theorem wW_1 (hk : k < 6) : rt xs d m hs t ((.iastore, q) :: r) (L, .int (nI v) :: .int (nI k) :: .ref (h0.length + 1) :: st, hw h0 nn W β T) = rt xs d m hs t r (L, st, hw h0 nn (up W 1 k v) β T) := by
  rw [q_is ((hw_k (by decide)).trans rfl) hk (by decide), hw_ks (by decide)]
  rfl
set_option maxRecDepth 100000 in
theorem wA_2 (hk : k < 648) : rt xs d m hs t ((.iaload, q) :: r) (L, .int (nI k) :: .ref (h0.length + 2) :: st, hw h0 nn W β T) = rt xs d m hs t r (L, .int (nI (W 2 k)) :: st, hw h0 nn W β T) := q_ia ((hw_k (by decide)).trans rfl) hk (by decide)
set_option maxRecDepth 100000 in
theorem wW_2 (hk : k < 648) : rt xs d m hs t ((.iastore, q) :: r) (L, .int (nI v) :: .int (nI k) :: .ref (h0.length + 2) :: st, hw h0 nn W β T) = rt xs d m hs t r (L, st, hw h0 nn (up W 2 k v) β T) := by
  rw [q_is ((hw_k (by decide)).trans rfl) hk (by decide), hw_ks (by decide)]
  rfl
set_option maxRecDepth 100000 in
theorem wA_3 (hk : k < 60) : rt xs d m hs t ((.iaload, q) :: r) (L, .int (nI k) :: .ref (h0.length + 3) :: st, hw h0 nn W β T) = rt xs d m hs t r (L, .int (nI (W 3 k)) :: st, hw h0 nn W β T) := q_ia ((hw_k (by decide)).trans rfl) hk (by decide)
set_option maxRecDepth 100000 in
theorem wW_3 (hk : k < 60) : rt xs d m hs t ((.iastore, q) :: r) (L, .int (nI v) :: .int (nI k) :: .ref (h0.length + 3) :: st, hw h0 nn W β T) = rt xs d m hs t r (L, st, hw h0 nn (up W 3 k v) β T) := by
  rw [q_is ((hw_k (by decide)).trans rfl) hk (by decide), hw_ks (by decide)]
  rfl
set_option maxRecDepth 100000 in
theorem wA_4 (hk : k < 360) : rt xs d m hs t ((.iaload, q) :: r) (L, .int (nI k) :: .ref (h0.length + 4) :: st, hw h0 nn W β T) = rt xs d m hs t r (L, .int (nI (W 4 k)) :: st, hw h0 nn W β T) := q_ia ((hw_k (by decide)).trans rfl) hk (by decide)
set_option maxRecDepth 100000 in
theorem wW_4 (hk : k < 360) : rt xs d m hs t ((.iastore, q) :: r) (L, .int (nI v) :: .int (nI k) :: .ref (h0.length + 4) :: st, hw h0 nn W β T) = rt xs d m hs t r (L, st, hw h0 nn (up W 4 k v) β T) := by
  rw [q_is ((hw_k (by decide)).trans rfl) hk (by decide), hw_ks (by decide)]
  rfl
set_option maxRecDepth 100000 in
theorem wA_5 (hk : k < 648) : rt xs d m hs t ((.iaload, q) :: r) (L, .int (nI k) :: .ref (h0.length + 5) :: st, hw h0 nn W β T) = rt xs d m hs t r (L, .int (nI (W 5 k)) :: st, hw h0 nn W β T) := q_ia ((hw_k (by decide)).trans rfl) hk (by decide)
set_option maxRecDepth 100000 in
theorem wW_5 (hk : k < 648) : rt xs d m hs t ((.iastore, q) :: r) (L, .int (nI v) :: .int (nI k) :: .ref (h0.length + 5) :: st, hw h0 nn W β T) = rt xs d m hs t r (L, st, hw h0 nn (up W 5 k v) β T) := by
  rw [q_is ((hw_k (by decide)).trans rfl) hk (by decide), hw_ks (by decide)]
  rfl
set_option maxRecDepth 100000 in
theorem wA_6 (hk : k < 4) : rt xs d m hs t ((.iaload, q) :: r) (L, .int (nI k) :: .ref (h0.length + 6) :: st, hw h0 nn W β T) = rt xs d m hs t r (L, .int (nI (W 6 k)) :: st, hw h0 nn W β T) := q_ia ((hw_k (by decide)).trans rfl) hk (by decide)
set_option maxRecDepth 100000 in
theorem wW_6 (hk : k < 4) : rt xs d m hs t ((.iastore, q) :: r) (L, .int (nI v) :: .int (nI k) :: .ref (h0.length + 6) :: st, hw h0 nn W β T) = rt xs d m hs t r (L, st, hw h0 nn (up W 6 k v) β T) := by
  rw [q_is ((hw_k (by decide)).trans rfl) hk (by decide), hw_ks (by decide)]
  rfl
set_option maxRecDepth 100000 in
theorem wA_7 (hk : k < 42) : rt xs d m hs t ((.iaload, q) :: r) (L, .int (nI k) :: .ref (h0.length + 7) :: st, hw h0 nn W β T) = rt xs d m hs t r (L, .int (nI (W 7 k)) :: st, hw h0 nn W β T) := q_ia ((hw_k (by decide)).trans rfl) hk (by decide)
set_option maxRecDepth 100000 in
theorem wW_7 (hk : k < 42) : rt xs d m hs t ((.iastore, q) :: r) (L, .int (nI v) :: .int (nI k) :: .ref (h0.length + 7) :: st, hw h0 nn W β T) = rt xs d m hs t r (L, st, hw h0 nn (up W 7 k v) β T) := by
  rw [q_is ((hw_k (by decide)).trans rfl) hk (by decide), hw_ks (by decide)]
  rfl
set_option maxRecDepth 100000 in
theorem wA_17 (hk : k < 4) : rt xs d m hs t ((.iaload, q) :: r) (L, .int (nI k) :: .ref (h0.length + 17) :: st, hw h0 nn W β T) = rt xs d m hs t r (L, .int (nI (W 17 k)) :: st, hw h0 nn W β T) := q_ia ((hw_k (by decide)).trans rfl) hk (by decide)
set_option maxRecDepth 100000 in
theorem wW_17 (hk : k < 4) : rt xs d m hs t ((.iastore, q) :: r) (L, .int (nI v) :: .int (nI k) :: .ref (h0.length + 17) :: st, hw h0 nn W β T) = rt xs d m hs t r (L, st, hw h0 nn (up W 17 k v) β T) := by
  rw [q_is ((hw_k (by decide)).trans rfl) hk (by decide), hw_ks (by decide)]
  rfl
set_option maxRecDepth 100000 in
theorem wA_8 (hk : k < nn) (hn : nn ≤ 6) : rt xs d m hs t ((.iaload, q) :: r) (L, .int (nI k) :: .ref (h0.length + 8) :: st, hw h0 nn W β T) = rt xs d m hs t r (L, .int (nI (W 8 k)) :: st, hw h0 nn W β T) := q_ia ((hw_k (by decide)).trans rfl) hk (by omega)
set_option maxRecDepth 100000 in
theorem wW_8 (hk : k < nn) (hn : nn ≤ 6) : rt xs d m hs t ((.iastore, q) :: r) (L, .int (nI v) :: .int (nI k) :: .ref (h0.length + 8) :: st, hw h0 nn W β T) = rt xs d m hs t r (L, st, hw h0 nn (up W 8 k v) β T) := by
  rw [q_is ((hw_k (by decide)).trans rfl) hk (by omega), hw_ks (by decide)]
  rfl
set_option maxRecDepth 100000 in
theorem wL_5 : rt xs d m hs t ((.arraylength, q) :: r) (L, .ref (h0.length + 5) :: st, hw h0 nn W β T) = rt xs d m hs t r (L, .int (nI 648) :: st, hw h0 nn W β T) := q_ln ((hw_k (by decide)).trans rfl) (by decide)
set_option maxRecDepth 100000 in
theorem wC_5 {n2 w : Nat} {j : _} (h8 : st8 st = true) : rt xs d m hs t ((.invokestatic j, n2, 0, w) :: r) (L, .int (nI 648) :: .int (nI 0) :: .ref (h0.length + 5) :: .int (nI 0) :: .ref (h0.length + 2) :: st, hw h0 nn W β T) = rt xs d m hs t r (L, st, hw h0 nn (ur W 5 (W 2)) β T) := by
  rw [q_cp (i := 648) (i2 := 648) (f := W 2) (g := W 5) ((hw_k (by decide)).trans rfl) ((hw_k (by decide)).trans rfl) (by decide) (by decide) (by decide) h8, ar_cp, hw_ks (by decide)]
  rfl
set_option maxRecDepth 100000 in
theorem sh_o (hk : k ≤ 6) : (wcs h0.length nn W β)[10 + k]? = some (oI (ar 4 (W (10 + k)))) := by
  have : k = 0 ∨ k = 1 ∨ k = 2 ∨ k = 3 ∨ k = 4 ∨ k = 5 ∨ k = 6 := by omega
  rcases this with rfl | rfl | rfl | rfl | rfl | rfl | rfl <;> rfl
set_option maxRecDepth 100000 in
theorem sh_k (hk : k ≤ 6) : (hw h0 nn W β T)[h0.length + (10 + k)]? = some (oI (ar 4 (W (10 + k)))) := (hw_k (by omega)).trans (sh_o hk)
set_option maxRecDepth 100000 in
theorem sh_s {f : Nat → Nat} (hk : k ≤ 6) : (hw h0 nn W β T).set (h0.length + (10 + k)) (oI (ar 4 f)) = hw h0 nn (ur W (10 + k) f) β T := by
  rw [hw_ks (by omega)]
  have : k = 0 ∨ k = 1 ∨ k = 2 ∨ k = 3 ∨ k = 4 ∨ k = 5 ∨ k = 6 := by omega
  rcases this with rfl | rfl | rfl | rfl | rfl | rfl | rfl <;> rfl
set_option maxRecDepth 100000 in
theorem wD (hk : k ≤ 6) : rt xs d m hs t ((.aaload, q) :: r) (L, .int (nI k) :: .ref (h0.length + 9) :: st, hw h0 nn W β T) = rt xs d m hs t r (L, .ref (h0.length + (10 + k)) :: st, hw h0 nn W β T) := by
  apply rt_s
  show ab_aald (L, .int (nI k) :: .ref (h0.length + 9) :: st, hw h0 nn W β T) = _
  have h1 : (hw h0 nn W β T)[h0.length + 9]? = some (oR [some (h0.length + 10), some (h0.length + 11), some (h0.length + 12), some (h0.length + 13), some (h0.length + 14), some (h0.length + 15), some (h0.length + 16)]) := (hw_k (by decide)).trans rfl
  simp only [ab_aald, h1]
  unfold ab_ix
  rw [if_neg (iN_nn (by omega)), iN_cl (by omega)]
  have : k = 0 ∨ k = 1 ∨ k = 2 ∨ k = 3 ∨ k = 4 ∨ k = 5 ∨ k = 6 := by omega
  rcases this with rfl | rfl | rfl | rfl | rfl | rfl | rfl <;> rfl
set_option maxRecDepth 100000 in
theorem wC_17 {n2 w : Nat} {j : _} (hk : k ≤ 6) (h8 : st8 st = true) : rt xs d m hs t ((.invokestatic j, n2, 0, w) :: r) (L, .int (nI 4) :: .int (nI 0) :: .ref (h0.length + 17) :: .int (nI 0) :: .ref (h0.length + (10 + k)) :: st, hw h0 nn W β T) = rt xs d m hs t r (L, st, hw h0 nn (ur W 17 (W (10 + k))) β T) := by
  rw [q_cp (i := 4) (i2 := 4) (f := W (10 + k)) (g := W 17) (sh_k hk) ((hw_k (by decide)).trans rfl) (by decide) (by decide) (by decide) h8, ar_cp, hw_ks (by decide)]
  rfl
end Wy
