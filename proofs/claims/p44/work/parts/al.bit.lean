/-! bitCount OF 18 BITS; ranges of ints -/
set_option maxRecDepth 100000 in
theorem land_sp {k x y m n : Nat} (hx : x < 2 ^ k) (hm : m < 2 ^ k) : (x + 2 ^ k * y) &&& (m + 2 ^ k * n) = (x &&& m) + 2 ^ k * (y &&& n) := by
  refine Nat.eq_of_testBit_eq fun i => ?_
  have hxm : x &&& m < 2 ^ k := Nat.lt_of_le_of_lt Nat.and_le_left hx
  rw [Nat.testBit_and, Nat.add_comm x, Nat.add_comm m, Nat.add_comm (x &&& m), Nat.testBit_two_pow_mul_add _ hx, Nat.testBit_two_pow_mul_add _ hm, Nat.testBit_two_pow_mul_add _ hxm]
  split
  · rw [Nat.testBit_and]
  · rw [Nat.testBit_and]
def swp (a : Nat) : Nat := swc (swb (swa a))
set_option maxRecDepth 100000 in
theorem swp_0 : ∀ x, x < 256 → ((x >>> 1) &&& 85) ≤ x ∧ swa x < 256 ∧ swb (swa x) < 256 ∧ swp x = pc 10 x ∧ swp x ≤ 8 := by decide +kernel
set_option maxRecDepth 100000 in
theorem swa_s {x y : Nat} (hx : x < 256) (hy : y < 65536) : swa (x + 256 * y) = swa x + 256 * swa y := by
  obtain ⟨h0, -⟩ := swp_0 x hx
  have e1 : (x + 256 * y) >>> 1 = (x >>> 1 + 128 * (y % 2)) + 256 * (y >>> 1) := by
    rw [Nat.shiftRight_eq_div_pow, Nat.shiftRight_eq_div_pow, Nat.shiftRight_eq_div_pow]
    omega
  have hx1 : x >>> 1 < 128 := by
    rw [Nat.shiftRight_eq_div_pow]
    omega
  have e2 := land_sp (k := 8) (x := x >>> 1 + 128 * (y % 2)) (y := y >>> 1) (m := 85) (n := 5592405) (by omega) (by decide)
  rw [show (2 : Nat) ^ 8 = 256 from rfl, show 85 + 256 * 5592405 = 1431655765 from rfl] at e2
  have e3 := land_sp (k := 7) (x := x >>> 1) (y := y % 2) (m := 85) (n := 0) hx1 (by decide)
  rw [show (2 : Nat) ^ 7 = 128 from rfl, Nat.and_zero, Nat.mul_zero, Nat.add_zero, Nat.add_zero] at e3
  have e4 : (x >>> 1) &&& 1431655765 = (x >>> 1) &&& 85 := by
    have := land_sp (k := 8) (x := x >>> 1) (y := 0) (m := 85) (n := 5592405) (by omega) (by decide)
    rw [Nat.zero_and, Nat.mul_zero, Nat.add_zero, Nat.add_zero] at this
    exact this
  have e5 : (y >>> 1) &&& 1431655765 = (y >>> 1) &&& 5592405 := by
    have hy1 : y >>> 1 < 2 ^ 24 := by
      rw [Nat.shiftRight_eq_div_pow]
      omega
    have := land_sp (k := 24) (x := y >>> 1) (y := 0) (m := 5592405) (n := 85) hy1 (by decide)
    rw [Nat.zero_and, Nat.mul_zero, Nat.add_zero, Nat.add_zero] at this
    exact this
  have h2 : ((y >>> 1) &&& 5592405) ≤ y := Nat.le_trans Nat.and_le_left (by rw [Nat.shiftRight_eq_div_pow]; omega)
  unfold swa
  rw [e1, e2, e3, e4, e5]
  omega
set_option maxRecDepth 100000 in
theorem swb_s {x y : Nat} (hx : x < 256) (hy : y < 65536) : swb (x + 256 * y) = swb x + 256 * swb y := by
  have e1 : (x + 256 * y) >>> 2 = (x >>> 2 + 64 * (y % 4)) + 256 * (y >>> 2) := by
    rw [Nat.shiftRight_eq_div_pow, Nat.shiftRight_eq_div_pow, Nat.shiftRight_eq_div_pow]
    omega
  have hx1 : x >>> 2 < 64 := by
    rw [Nat.shiftRight_eq_div_pow]
    omega
  have m1 : ∀ z, z < 2 ^ 8 → z &&& 858993459 = z &&& 51 := fun z hz => by
    have := land_sp (k := 8) (x := z) (y := 0) (m := 51) (n := 3355443) hz (by decide)
    rw [Nat.zero_and, Nat.mul_zero, Nat.add_zero, Nat.add_zero] at this
    exact this
  have m2 : ∀ z, z < 2 ^ 24 → z &&& 858993459 = z &&& 3355443 := fun z hz => by
    have := land_sp (k := 24) (x := z) (y := 0) (m := 3355443) (n := 51) hz (by decide)
    rw [Nat.zero_and, Nat.mul_zero, Nat.add_zero, Nat.add_zero] at this
    exact this
  have e2 := land_sp (k := 8) (x := x >>> 2 + 64 * (y % 4)) (y := y >>> 2) (m := 51) (n := 3355443) (by omega) (by decide)
  rw [show (2 : Nat) ^ 8 = 256 from rfl, show 51 + 256 * 3355443 = 858993459 from rfl] at e2
  have e3 := land_sp (k := 6) (x := x >>> 2) (y := y % 4) (m := 51) (n := 0) hx1 (by decide)
  rw [show (2 : Nat) ^ 6 = 64 from rfl, Nat.and_zero, Nat.mul_zero, Nat.add_zero, Nat.add_zero] at e3
  have e4 := land_sp (k := 8) (x := x) (y := y) (m := 51) (n := 3355443) hx (by decide)
  rw [show (2 : Nat) ^ 8 = 256 from rfl, show 51 + 256 * 3355443 = 858993459 from rfl] at e4
  have hy2 : y >>> 2 < 2 ^ 24 := by
    rw [Nat.shiftRight_eq_div_pow]
    omega
  unfold swb
  rw [e1, e2, e3, e4, m1 x hx, m1 _ (by omega), m2 y (by omega), m2 _ hy2]
  omega
set_option maxRecDepth 100000 in
theorem swb_l : ∀ x, x < 256 → swb (swa x) ≤ 68 ∧ swb (swa x) % 16 ≤ 4 := by decide +kernel
set_option maxRecDepth 100000 in
theorem swc_s {x y : Nat} (hx : x + x / 16 + 16 * (y % 16) < 256) (hy : y + y / 16 < 16777216) : swc (x + 256 * y) = swc x + 256 * swc y := by
  have e1 : (x + 256 * y) + (x + 256 * y) >>> 4 = (x + x / 16 + 16 * (y % 16)) + 256 * (y + y / 16) := by
    rw [Nat.shiftRight_eq_div_pow]
    omega
  have m1 : ∀ z, z < 2 ^ 8 → z &&& 252645135 = z &&& 15 := fun z hz => by
    have := land_sp (k := 8) (x := z) (y := 0) (m := 15) (n := 986895) hz (by decide)
    rw [Nat.zero_and, Nat.mul_zero, Nat.add_zero, Nat.add_zero] at this
    exact this
  have m2 : ∀ z, z < 2 ^ 24 → z &&& 252645135 = z &&& 986895 := fun z hz => by
    have := land_sp (k := 24) (x := z) (y := 0) (m := 986895) (n := 15) hz (by decide)
    rw [Nat.zero_and, Nat.mul_zero, Nat.add_zero, Nat.add_zero] at this
    exact this
  have m3 : ∀ z, z &&& 15 = z % 16 := fun z => Nat.and_two_pow_sub_one_eq_mod z 4
  have e2 := land_sp (k := 8) (x := x + x / 16 + 16 * (y % 16)) (y := y + y / 16) (m := 15) (n := 986895) hx (by decide)
  rw [show (2 : Nat) ^ 8 = 256 from rfl, show 15 + 256 * 986895 = 252645135 from rfl] at e2
  have f1 : swc x = (x + x / 16) % 16 := by
    unfold swc
    rw [show x >>> 4 = x / 16 from Nat.shiftRight_eq_div_pow x 4, m1 _ (by omega), m3]
  have f2 : swc y = (y + y / 16) &&& 986895 := by
    unfold swc
    rw [show y >>> 4 = y / 16 from Nat.shiftRight_eq_div_pow y 4, m2 _ hy]
  rw [f1, f2]
  unfold swc
  rw [e1, e2, m3]
  omega
set_option maxRecDepth 100000 in
theorem swp_s {x y : Nat} (hx : x < 256) (hy : y < 256) : swp (x + 256 * y) = swp x + 256 * swp y := by
  obtain ⟨-, a1, a2, -⟩ := swp_0 x hx
  obtain ⟨-, b1', b2, -⟩ := swp_0 y hy
  obtain ⟨c1, c2⟩ := swb_l x hx
  obtain ⟨d1, d2⟩ := swb_l y hy
  unfold swp
  rw [swa_s hx (by omega), swb_s a1 (by omega), swc_s (by omega) (by omega)]
set_option maxRecDepth 100000 in
theorem swp_t {x y z : Nat} (hx : x < 256) (hy : y < 256) (hz : z < 256) : swp (x + 256 * (y + 256 * z)) = swp x + 256 * (swp y + 256 * swp z) := by
  obtain ⟨-, a1, a2, -⟩ := swp_0 x hx
  obtain ⟨-, b1', b2, -⟩ := swp_0 y hy
  obtain ⟨-, g1, g2, -⟩ := swp_0 z hz
  obtain ⟨c1, c2⟩ := swb_l x hx
  obtain ⟨d1, d2⟩ := swb_l y hy
  obtain ⟨f1, f2⟩ := swb_l z hz
  have h := swp_s hy hz
  unfold swp at h ⊢
  have e1 := swa_s hy (show z < 65536 by omega)
  have e2 := swb_s (x := swa y) (y := swa z) b1' (by omega)
  rw [swa_s hx (by omega), swb_s a1 (by rw [e1]; omega), swc_s (by rw [e1, e2]; omega) (by rw [e1, e2]; omega), h]
set_option maxRecDepth 100000 in
theorem pc_sp (x y : Nat) (hx : x < 256) (n : Nat) : pc (8 + n) (x + 256 * y) = pc 8 x + pc n y := by
  have tb : ∀ i, (x + 256 * y).testBit i = if i < 8 then x.testBit i else y.testBit (i - 8) := fun i => by
    rw [Nat.add_comm]
    exact Nat.testBit_two_pow_mul_add (i := 8) y hx i
  induction n with
  | zero =>
    show pc 8 (x + 256 * y) = _ + 0
    rw [Nat.add_zero]
    exact pc_cg fun i hi => by rw [tb, if_pos hi]
  | succ n ih =>
    show pc (8 + n) (x + 256 * y) + b1 ((x + 256 * y).testBit (8 + n)) = pc 8 x + (pc n y + b1 (y.testBit n))
    rw [ih, tb, if_neg (by omega), Nat.add_sub_cancel_left, Nat.add_assoc]
set_option maxRecDepth 100000 in
theorem sw18 {a : Nat} (ha : a < 262144) : swe (swd (swp a)) &&& 63 = pc 18 a := by
  obtain ⟨x, y, z, hx, hy, hz, e⟩ : ∃ x y z, x < 256 ∧ y < 256 ∧ z < 4 ∧ a = x + 256 * (y + 256 * z) := ⟨a % 256, a / 256 % 256, a / 65536, by omega, by omega, by omega, by omega⟩
  obtain ⟨-, -, -, a1, a2⟩ := swp_0 x hx
  obtain ⟨-, -, -, b1', b2⟩ := swp_0 y hy
  obtain ⟨-, -, -, c1, c2⟩ := swp_0 z (by omega)
  have p8 : ∀ x, x < 256 → pc 10 x = pc 8 x := fun x hx => pc_ge (n := 8) (m := 10) hx (by decide)
  have pz : pc 10 z = pc 2 z := pc_ge (n := 2) (m := 10) (by omega) (by decide)
  have h1 : pc 18 a = pc 8 x + (pc 8 y + pc 2 z) := by
    rw [e, show (18 : Nat) = 8 + 10 from rfl, pc_sp x _ hx, show (10 : Nat) = 8 + 2 from rfl, pc_sp y z hy]
  rw [h1, ← p8 x hx, ← p8 y hy, ← pz, ← a1, ← b1', ← c1, e, swp_t hx hy (by omega)]
  unfold swe swd
  rw [show ∀ z, z &&& 63 = z % 64 from fun z => Nat.and_two_pow_sub_one_eq_mod z 6, Nat.shiftRight_eq_div_pow, Nat.shiftRight_eq_div_pow, show (2 : Nat) ^ 8 = 256 from rfl, show (2 : Nat) ^ 16 = 65536 from rfl]
  clear h1 p8 pz a1 b1' c1 e ha
  generalize swp x = p0 at *
  generalize swp y = p1 at *
  generalize swp z = p2 at *
  have q1 : (p0 + 256 * (p1 + 256 * p2)) / 256 = p1 + 256 * p2 := by omega
  rw [q1]
  have q2 : (p0 + 256 * (p1 + 256 * p2) + (p1 + 256 * p2)) / 65536 = p2 := by omega
  rw [q2]
  omega
section Bit
variable {xs : List Int32} {d : Nat} {h : ab_H}
set_option maxRecDepth 100000 in
theorem swp_b {a : Nat} (ha : a < 262144) : swa a < 4294967296 ∧ swb (swa a) < 4294967296 ∧ swp a < 4294967296 ∧ swd (swp a) < 4294967296 := by
  have h1 : swa a ≤ a := Nat.sub_le _ _
  have h2 : swb (swa a) ≤ 2 * a := by
    have k1 : (swa a &&& 858993459) ≤ swa a := Nat.and_le_left
    have k2 : ((swa a >>> 2) &&& 858993459) ≤ swa a := Nat.le_trans Nat.and_le_left (Nat.shiftRight_le _ 2)
    unfold swb
    omega
  have h3 : swp a ≤ 4 * a := by
    have k1 : swp a ≤ swb (swa a) + swb (swa a) >>> 4 := Nat.and_le_left
    have k2 := Nat.shiftRight_le (swb (swa a)) 4
    omega
  have h4 : swd (swp a) ≤ 8 * a := by
    have k2 := Nat.shiftRight_le (swp a) 8
    unfold swd
    omega
  omega
-- bitCount of a set of values
set_option maxRecDepth 100000 in
theorem s_277v {a : Nat} (ha : a < 262144) : ev xs d 277 0 ([.int (nI a)], [], h) = some (.inl (some (.int (nI (pc 18 a)))), h) := by
  obtain ⟨h1, h2, h3, h4⟩ := swp_b ha
  have e1 : bxa (nI a) = nI (swa a) := by
    have e1 : (a >>> 1) &&& 1431655765 ≤ a := Nat.le_trans Nat.and_le_left (Nat.shiftRight_le a 1)
    unfold bxa
    rw [iN_ush (by omega) (by decide), iN_and, iN_sub e1]
    rfl
  have e2 : bxb (nI (swa a)) = nI (swb (swa a)) := by
    unfold bxb
    rw [iN_ush h1 (by decide), iN_and, iN_and, iN_add]
    rfl
  have e3 : bxc (nI (swb (swa a))) = nI (swp a) := by
    unfold bxc
    rw [iN_ush h2 (by decide), iN_add, iN_and]
    rfl
  have e4 : bxd (nI (swp a)) = nI (swd (swp a)) := by
    unfold bxd
    rw [iN_ush h3 (by decide), iN_add]
    rfl
  have e5 : bxe (nI (swd (swp a))) = nI (swe (swd (swp a)) &&& 63) := by
    unfold bxe
    rw [iN_ush h4 (by decide), iN_add, iN_and]
    rfl
  rw [s_277a, e1, e2, e3, e4, e5, sw18 ha]
set_option maxRecDepth 100000 in
theorem rng {a lo hi : Nat} (ha : a < 4294967296) (hlo : lo ≤ hi) (hhi : hi < 2147483648) : ((lo ≤ a ∧ a ≤ hi) ∧ (nI a < nI lo) = False ∧ (nI hi < nI a) = False) ∨ (¬ (lo ≤ a ∧ a ≤ hi) ∧ ((nI a < nI lo) = True ∨ ((nI a < nI lo) = False ∧ (nI hi < nI a) = True))) := by
  rw [iN_ltg ha (by omega), iN_ltg (by omega) ha]
  by_cases h1 : (a + 2147483648) % 4294967296 < (lo + 2147483648) % 4294967296
  · exact .inr ⟨by omega, .inl (eq_true h1)⟩
  · by_cases h2 : (hi + 2147483648) % 4294967296 < (a + 2147483648) % 4294967296
    · exact .inr ⟨by omega, .inr ⟨eq_false h1, eq_true h2⟩⟩
    · exact .inl ⟨by omega, eq_false h1, eq_false h2⟩
end Bit
