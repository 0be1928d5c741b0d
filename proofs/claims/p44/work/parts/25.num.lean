/-! NUMBERS: ints that are given as naturals -/
theorem iN_e (n : Nat) : nI n = Int32.ofNat n := rfl
theorem iN_bv (n : Nat) : (nI n).toBitVec = BitVec.ofNat 32 n := rfl
theorem iN_0 : (0 : Int32) = nI 0 := rfl
theorem iN_1 : (1 : Int32) = nI 1 := rfl
theorem iN_add (a b : Nat) : nI a + nI b = nI (a + b) := (Int32.ofNat_add a b).symm
theorem iN_mul (a b : Nat) : nI a * nI b = nI (a * b) := (Int32.ofNat_mul a b).symm
theorem iN_sub {a b : Nat} (h : b ≤ a) : nI a - nI b = nI (a - b) := (Int32.ofNat_sub a b h).symm
theorem iN_lt {a b : Nat} (ha : a < 2147483648) (hb : b < 2147483648) : (nI a < nI b) = (a < b) := propext (Int32.ofNat_lt_iff_lt ha hb)
theorem iN_ltg {a b : Nat} (ha : a < 4294967296) (hb : b < 4294967296) : (nI a < nI b) = ((a + 2147483648) % 4294967296 < (b + 2147483648) % 4294967296) := by
  apply propext
  have e1 : (nI a).toInt = (a : Int).bmod 4294967296 := Int32.toInt_ofNat'
  have e2 : (nI b).toInt = (b : Int).bmod 4294967296 := Int32.toInt_ofNat'
  rw [Int32.lt_iff_toInt_lt, e1, e2, Int.bmod_def, Int.bmod_def]
  omega
theorem iN_inj {a b : Nat} (ha : a < 4294967296) (hb : b < 4294967296) : (nI a = nI b) = (a = b) := by
  apply propext
  constructor
  · intro h
    have h2 : (BitVec.ofNat 32 a).toNat = (BitVec.ofNat 32 b).toNat := congrArg (fun x : Int32 => x.toBitVec.toNat) h
    rw [BitVec.toNat_ofNat, BitVec.toNat_ofNat] at h2
    omega
  · intro h
    rw [h]
theorem iN_sur (x : Int32) : ∃ k, k < 4294967296 ∧ x = nI k := ⟨x.toBitVec.toNat, x.toBitVec.isLt, by
  apply Int32.toBitVec_inj.1
  rw [iN_bv]
  exact (BitVec.ofNat_toNat _ _).symm ▸ by simp⟩
theorem iN_n0 {v : Nat} (h : 0 < v) (h2 : v < 2147483648) : ¬ nI v = 0 := by
  intro hh
  have : v = 0 := (iN_inj (a := v) (b := 0) (by omega) (by omega)).mp hh
  omega
theorem iN_div {a b : Nat} (ha : a < 2147483648) (_hp : 0 < b) (hb : b < 2147483648) : nI a / nI b = nI (a / b) := (Int32.ofNat_div ha hb).symm
theorem iN_rem {a b : Nat} (ha : a < 2147483648) (hp : 0 < b) (hb : b < 2147483648) : nI a - nI a / nI b * nI b = nI (a % b) := by
  rw [iN_div ha hp hb, iN_mul, iN_sub (Nat.div_mul_le_self a b), ← Nat.mod_eq_sub_div_mul]
theorem iN_max {a b : Nat} (ha : a < 2147483648) (hb : b < 2147483648) : (if nI a < nI b then nI b else nI a) = nI (max a b) := by
  simp only [iN_lt ha hb]
  split
  · rw [Nat.max_eq_right (by omega)]
  · rw [Nat.max_eq_left (by omega)]
theorem iN_min {a b : Nat} (ha : a < 2147483648) (hb : b < 2147483648) : (if nI b < nI a then nI b else nI a) = nI (min a b) := by
  simp only [iN_lt hb ha]
  split
  · rw [Nat.min_eq_right (by omega)]
  · rw [Nat.min_eq_left (by omega)]
theorem iN_ext {a b : Nat} (h : ∀ i, i < 32 → a.testBit i = b.testBit i) : nI a = nI b := by
  apply Int32.toBitVec_inj.1
  rw [iN_bv, iN_bv]
  apply BitVec.eq_of_getLsbD_eq
  intro i hi
  rw [BitVec.getLsbD_ofNat, BitVec.getLsbD_ofNat, h i hi]
theorem iN_gl (a i : Nat) (hi : i < 32) : (nI a).toBitVec.getLsbD i = a.testBit i := by
  rw [iN_bv, BitVec.getLsbD_ofNat]
  simp [hi]
theorem iN_and (a b : Nat) : nI a &&& nI b = nI (a &&& b) := by
  apply Int32.toBitVec_inj.1
  rw [Int32.toBitVec_and]
  apply BitVec.eq_of_getLsbD_eq
  intro i hi
  rw [BitVec.getLsbD_and, iN_gl _ _ hi, iN_gl _ _ hi, iN_gl _ _ hi, Nat.testBit_and]
theorem iN_or (a b : Nat) : nI a ||| nI b = nI (a ||| b) := by
  apply Int32.toBitVec_inj.1
  rw [Int32.toBitVec_or]
  apply BitVec.eq_of_getLsbD_eq
  intro i hi
  rw [BitVec.getLsbD_or, iN_gl _ _ hi, iN_gl _ _ hi, iN_gl _ _ hi, Nat.testBit_or]
/-- a without the bits of b -/
def clr (a b : Nat) : Nat := a ^^^ (a &&& b)
theorem clr_tb (a b i : Nat) : (clr a b).testBit i = (a.testBit i && !b.testBit i) := by
  unfold clr
  rw [Nat.testBit_xor, Nat.testBit_and]
  cases a.testBit i <;> cases b.testBit i <;> rfl
theorem tb_nn (i : Nat) (h : i < 32) : (4294967295 : Nat).testBit i = true := by
  have := Nat.testBit_two_pow_sub_one 32 i
  rw [show (2 : Nat) ^ 32 - 1 = 4294967295 from rfl] at this
  rw [this]
  exact decide_eq_true h
theorem iN_clr (a b : Nat) : nI a &&& (nI b ^^^ nI 4294967295) = nI (clr a b) := by
  apply Int32.toBitVec_inj.1
  rw [Int32.toBitVec_and, Int32.toBitVec_xor]
  apply BitVec.eq_of_getLsbD_eq
  intro i hi
  rw [BitVec.getLsbD_and, BitVec.getLsbD_xor, iN_gl _ _ hi, iN_gl _ _ hi, iN_gl _ _ hi, iN_gl _ _ hi, clr_tb, tb_nn i hi]
  cases b.testBit i <;> rfl
theorem iN_am (a : Nat) : nI a &&& nI 4294967295 = nI a := by
  rw [iN_and]
  apply iN_ext
  intro i hi
  rw [Nat.testBit_and, tb_nn i hi, Bool.and_true]
theorem iN_k31 : ∀ k, k < 32 → ((nI k &&& 31).toBitVec.smod 32).toNat = k := by decide +kernel
theorem iN_shl (a : Nat) {k : Nat} (hk : k < 32) : nI a <<< (nI k &&& 31) = nI (a <<< k) := by
  apply Int32.toBitVec_inj.1
  rw [Int32.toBitVec_shiftLeft, BitVec.shiftLeft_eq', iN_k31 k hk]
  apply BitVec.eq_of_getLsbD_eq
  intro i hi
  rw [BitVec.getLsbD_shiftLeft, iN_gl _ _ hi, Nat.testBit_shiftLeft, iN_bv, BitVec.getLsbD_ofNat]
  by_cases h : i < k
  · simp [h, Nat.not_le.mpr h]
  · have h2 : i - k < 32 := by omega
    simp [hi, h, h2, Nat.le_of_not_lt h]
theorem iN_msb {a : Nat} (h : a < 2147483648) : (nI a).toBitVec.msb = false := by
  rw [iN_bv, BitVec.msb_eq_decide, BitVec.toNat_ofNat]
  simp
  omega
theorem iN_shr {a k : Nat} (ha : a < 2147483648) (hk : k < 32) : nI a >>> (nI k &&& 31) = nI (a >>> k) := by
  apply Int32.toBitVec_inj.1
  rw [Int32.toBitVec_shiftRight, BitVec.sshiftRight_eq', iN_k31 k hk, BitVec.sshiftRight_eq_of_msb_false (iN_msb ha)]
  apply BitVec.eq_of_getLsbD_eq
  intro i hi
  rw [BitVec.getLsbD_ushiftRight, iN_gl _ _ hi, Nat.testBit_shiftRight, iN_bv, BitVec.getLsbD_ofNat]
  by_cases h : k + i < 32
  · simp [h]
  · have : a.testBit (k + i) = false := Nat.testBit_lt_two_pow (Nat.lt_of_lt_of_le (m := 2147483648) ha (by
      have : 2 ^ 31 ≤ 2 ^ (k + i) := Nat.pow_le_pow_right (by decide) (by omega)
      simpa using this))
    simp [h, this]
/-- a bool as a number -/
def b1 (b : Bool) : Nat := cond b 1 0
theorem b1_t : b1 true = 1 := rfl
theorem b1_f : b1 false = 0 := rfl
theorem b1_lt (b : Bool) : b1 b < 2 := by cases b <;> decide
theorem b1_z (b : Bool) : (nI (b1 b) = nI 0) = (b = false) := by
  cases b
  · simp [b1]
  · rw [show b1 true = 1 from rfl, iN_inj (by decide) (by decide)]
    simp
theorem b1_or (a b : Bool) : b1 a ||| b1 b = b1 (a || b) := by cases a <;> cases b <;> rfl
theorem b1_and (a b : Bool) : b1 a &&& b1 b = b1 (a && b) := by cases a <;> cases b <;> rfl
theorem b1_or0 (a : Bool) : b1 a ||| 0 = b1 a := by cases a <;> rfl
theorem b1_or1 (a : Bool) : b1 a ||| 1 = 1 := by cases a <;> rfl
theorem b1_0or (a : Bool) : 0 ||| b1 a = b1 a := by cases a <;> rfl
theorem tb_r1 (a k : Nat) : (a >>> k) &&& 1 = b1 (a.testBit k) := by
  have : a.testBit k = decide ((a >>> k) % 2 = 1) := by
    rw [Nat.testBit_eq_decide_div_mod_eq, Nat.shiftRight_eq_div_pow]
  rw [this, Nat.and_one_is_mod]
  have : (a >>> k) % 2 = 0 ∨ (a >>> k) % 2 = 1 := by omega
  rcases this with h | h <;> rw [h] <;> rfl
theorem tb_1s (k i : Nat) : (1 <<< k).testBit i = decide (i = k) := by
  rw [Nat.testBit_shiftLeft]
  by_cases h : i = k
  · subst h; simp
  · by_cases h2 : k ≤ i
    · have h3 : i - k ≠ 0 := by omega
      obtain ⟨j, hj⟩ : ∃ j, i - k = j + 1 := ⟨i - k - 1, by omega⟩
      rw [hj]
      simp [h, Nat.testBit_succ]
    · simp [h, h2]
theorem ar_z0 : True := trivial
/-- as many bits below n -/
def pc (n a : Nat) : Nat := match n with
  | 0 => 0
  | n + 1 => pc n a + b1 (a.testBit n)
/-- the set of the numbers below n with p -/
def en (n : Nat) (p : Nat → Bool) : Nat := match n with
  | 0 => 0
  | n + 1 => en n p ||| (b1 (p n) <<< n)
theorem en_tb (n : Nat) (p : Nat → Bool) (i : Nat) : (en n p).testBit i = (decide (i < n) && p i) := by
  induction n with
  | zero => simp [en]
  | succ n ih =>
    rw [en, Nat.testBit_or, ih]
    by_cases h : p n = true
    · rw [h, b1_t, tb_1s]
      by_cases hi : i = n
      · subst hi; simp [h]
      · by_cases h2 : i < n
        · simp [h2, hi, show i < n + 1 by omega]
        · simp [h2, hi, show ¬ i < n + 1 by omega]
    · have h : p n = false := by simpa using h
      rw [h, b1_f, Nat.zero_shiftLeft, Nat.zero_testBit, Bool.or_false]
      by_cases hi : i = n
      · subst hi; simp [h]
      · by_cases h2 : i < n
        · simp [h2, show i < n + 1 by omega]
        · simp [h2, show ¬ i < n + 1 by omega]
theorem en_lt (n : Nat) (p : Nat → Bool) : en n p < 2 ^ n := by
  apply Nat.lt_pow_two_of_testBit
  intro i hi
  rw [en_tb]
  simp
  omega
theorem en_st (n : Nat) (p : Nat → Bool) : en (n + 1) p = if p n = true then en n p ||| (1 <<< n) else en n p := by
  rw [en]
  split
  · rename_i h; rw [h, b1_t]
  · rename_i h
    have h : p n = false := by simpa using h
    rw [h, b1_f, Nat.zero_shiftLeft, Nat.or_zero]
theorem en_cg {n : Nat} {p q : Nat → Bool} (h : ∀ i, i < n → p i = q i) : en n p = en n q := by
  apply Nat.eq_of_testBit_eq
  intro i
  rw [en_tb, en_tb]
  by_cases hi : i < n
  · rw [h i hi]
  · simp [hi]
theorem nat_ext {n a b : Nat} (ha : a < 2 ^ n) (hb : b < 2 ^ n) (h : ∀ i, i < n → a.testBit i = b.testBit i) : a = b := by
  apply Nat.eq_of_testBit_eq
  intro i
  by_cases hi : i < n
  · exact h i hi
  · have q : 2 ^ n ≤ 2 ^ i := Nat.pow_le_pow_right (by decide) (by omega)
    rw [Nat.testBit_lt_two_pow (by omega), Nat.testBit_lt_two_pow (by omega)]
theorem clr_lt {n a b : Nat} (h : a < 2 ^ n) : clr a b < 2 ^ n := by
  apply Nat.lt_pow_two_of_testBit
  intro i hi
  rw [clr_tb, Nat.testBit_lt_two_pow (Nat.lt_of_lt_of_le h (Nat.pow_le_pow_right (by decide) hi))]
  rfl
theorem and_lt {n a b : Nat} (h : a < 2 ^ n) : a &&& b < 2 ^ n := Nat.lt_of_le_of_lt Nat.and_le_left h
theorem or_lt {n a b : Nat} (h : a < 2 ^ n) (h2 : b < 2 ^ n) : a ||| b < 2 ^ n := Nat.or_lt_two_pow h h2
theorem s1_lt {n k : Nat} (h : k < n) : 1 <<< k < 2 ^ n := by
  rw [Nat.one_shiftLeft]
  exact Nat.pow_lt_pow_right (by decide) h
theorem z_tb {a : Nat} : a = 0 ↔ ∀ i, a.testBit i = false := by
  constructor
  · intro h i
    rw [h, Nat.zero_testBit]
  · intro h
    apply Nat.eq_of_testBit_eq
    intro i
    rw [h i, Nat.zero_testBit]
theorem nz_tb {a : Nat} : a ≠ 0 ↔ ∃ i, a.testBit i = true := by
  rw [Ne, z_tb]
  simp
/-- a sum of n numbers -/
def sm (n : Nat) (f : Nat → Nat) : Nat := match n with
  | 0 => 0
  | n + 1 => sm n f + f n
theorem sm_cg {n : Nat} {f g : Nat → Nat} (h : ∀ i, i < n → f i = g i) : sm n f = sm n g := by
  induction n with
  | zero => rfl
  | succ n ih => rw [sm, sm, ih (fun i hi => h i (by omega)), h n (by omega)]
theorem sm_le {n c : Nat} {f : Nat → Nat} (h : ∀ i, i < n → f i ≤ c) : sm n f ≤ n * c := by
  induction n with
  | zero => simp [sm]
  | succ n ih =>
    have := ih (fun i hi => h i (by omega))
    have := h n (by omega)
    rw [sm, Nat.succ_mul]
    omega
theorem sm_z {n : Nat} {f : Nat → Nat} : sm n f = 0 ↔ ∀ i, i < n → f i = 0 := by
  induction n with
  | zero => simp [sm]
  | succ n ih =>
    rw [sm]
    constructor
    · intro h i hi
      by_cases hn : i = n
      · subst hn; omega
      · exact ih.mp (by omega) i (by omega)
    · intro h
      have := ih.mpr (fun i hi => h i (by omega))
      have := h n (by omega)
      omega
theorem pc_sm (n a : Nat) : pc n a = sm n fun i => b1 (a.testBit i) := by
  induction n with
  | zero => rfl
  | succ n ih => rw [pc, sm, ih]
theorem pc_le (n a : Nat) : pc n a ≤ n := by
  induction n with
  | zero => exact Nat.le_refl _
  | succ n ih =>
    have := b1_lt (a.testBit n)
    rw [pc]
    omega
-- a loop that counts up
theorem lp {P : Nat → Prop} (n : Nat) (h0 : P n) (hs : ∀ k, k < n → P (k + 1) → P k) : ∀ k, k ≤ n → P k := by
  intro k hk
  obtain ⟨j, hj⟩ : ∃ j, n - k = j := ⟨_, rfl⟩
  induction j generalizing k with
  | zero =>
    have : k = n := by omega
    subst this
    exact h0
  | succ j ih => exact hs k (by omega) (ih (k + 1) (by omega) (by omega))
theorem lp0 {P : Nat → Prop} (n : Nat) (h0 : P n) (hs : ∀ k, k < n → P (k + 1) → P k) : P 0 := lp n h0 hs 0 (Nat.zero_le _)
theorem iN_az {a b : Nat} (ha : a < 4294967296) : (nI (a &&& b) = nI 0) = (a &&& b = 0) := iN_inj (Nat.lt_of_le_of_lt Nat.and_le_left ha) (by decide)
/-- the union of n sets; the greatest of n numbers -/
def orn (n : Nat) (f : Nat → Nat) : Nat := match n with
  | 0 => 0
  | n + 1 => orn n f ||| f n
def mxn (n : Nat) (f : Nat → Nat) : Nat := match n with
  | 0 => 0
  | n + 1 => max (mxn n f) (f n)
theorem orn_lt {n e : Nat} {f : Nat → Nat} (h : ∀ i, i < n → f i < 2 ^ e) : orn n f < 2 ^ e := by
  induction n with
  | zero => exact Nat.two_pow_pos e
  | succ n ih => exact or_lt (ih fun i hi => h i (by omega)) (h n (by omega))
theorem orn_tb {n : Nat} {f : Nat → Nat} {i : Nat} : (orn n f).testBit i = true ↔ ∃ k, k < n ∧ (f k).testBit i = true := by
  induction n with
  | zero => simp [orn]
  | succ n ih =>
    rw [orn, Nat.testBit_or, Bool.or_eq_true, ih]
    constructor
    · intro h
      rcases h with ⟨k, hk, h⟩ | h
      · exact ⟨k, by omega, h⟩
      · exact ⟨n, by omega, h⟩
    · intro ⟨k, hk, h⟩
      by_cases hn : k = n
      · subst hn; exact .inr h
      · exact .inl ⟨k, by omega, h⟩
theorem orn_cg {n : Nat} {f g : Nat → Nat} (h : ∀ i, i < n → f i = g i) : orn n f = orn n g := by
  induction n with
  | zero => rfl
  | succ n ih => rw [orn, orn, ih (fun i hi => h i (by omega)), h n (by omega)]
theorem mxn_le {n c : Nat} {f : Nat → Nat} : mxn n f ≤ c ↔ ∀ i, i < n → f i ≤ c := by
  induction n with
  | zero => simp [mxn]
  | succ n ih =>
    rw [mxn, Nat.max_le, ih]
    constructor
    · intro ⟨h1, h2⟩ i hi
      by_cases hn : i = n
      · subst hn; exact h2
      · exact h1 i (by omega)
    · intro h
      exact ⟨fun i hi => h i (by omega), h n (by omega)⟩
theorem mxn_cg {n : Nat} {f g : Nat → Nat} (h : ∀ i, i < n → f i = g i) : mxn n f = mxn n g := by
  induction n with
  | zero => rfl
  | succ n ih => rw [mxn, mxn, ih (fun i hi => h i (by omega)), h n (by omega)]
theorem pc_ge {n m a : Nat} (h : a < 2 ^ n) (hm : n ≤ m) : pc m a = pc n a := by
  obtain ⟨j, hj⟩ : ∃ j, m = n + j := ⟨m - n, by omega⟩
  subst hj
  clear hm
  induction j with
  | zero => rfl
  | succ j ih =>
    rw [← Nat.add_assoc, pc, ih, Nat.testBit_lt_two_pow (Nat.lt_of_lt_of_le h (Nat.pow_le_pow_right (by decide) (by omega)))]
    rfl
theorem pc_cg {n a b : Nat} (h : ∀ i, i < n → a.testBit i = b.testBit i) : pc n a = pc n b := by
  rw [pc_sm, pc_sm]
  exact sm_cg fun i hi => by rw [h i hi]
