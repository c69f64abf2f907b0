/-! BITS of numbers that aren't negative -/
theorem cr_and (a b : Nat) : nI a &&& nI b = nI (a &&& b) := by
  apply Int32.toBitVec_inj.1
  show BitVec.ofNat 32 a &&& BitVec.ofNat 32 b = BitVec.ofNat 32 (a &&& b)
  apply BitVec.eq_of_getLsbD_eq
  intro i hi
  simp [hi]
theorem cr_or (a b : Nat) : nI a ||| nI b = nI (a ||| b) := by
  apply Int32.toBitVec_inj.1
  show BitVec.ofNat 32 a ||| BitVec.ofNat 32 b = BitVec.ofNat 32 (a ||| b)
  apply BitVec.eq_of_getLsbD_eq
  intro i hi
  simp [hi]
theorem cr_orm (c k : Nat) : c ||| (2 ^ k - 1) = 2 ^ k * (c / 2 ^ k) + (2 ^ k - 1) := by
  apply Nat.eq_of_testBit_eq
  intro i
  have hb : 2 ^ k - 1 < 2 ^ k := Nat.sub_lt (Nat.two_pow_pos k) (by decide)
  rw [Nat.testBit_or, Nat.testBit_two_pow_sub_one, Nat.testBit_two_pow_mul_add _ hb, Nat.testBit_two_pow_sub_one]
  by_cases h : i < k
  · simp [h]
  · have e : i - k + k = i := by omega
    simp [h, Nat.testBit_div_two_pow, e]
theorem cr_andm {x : Nat} (k : Nat) (hx : x < 2 ^ 32) (hk : k ≤ 32) : x &&& (2 ^ k * (2 ^ (32 - k) - 1)) = 2 ^ k * (x / 2 ^ k) := by
  apply Nat.eq_of_testBit_eq
  intro j
  rw [Nat.testBit_and, Nat.testBit_two_pow_mul, Nat.testBit_two_pow_mul, Nat.testBit_two_pow_sub_one, Nat.testBit_div_two_pow]
  by_cases h : k ≤ j
  · have e : j - k + k = j := by omega
    rw [e]
    by_cases h2 : j < 32
    · have h3 : j - k < 32 - k := by omega
      simp [h, h3]
    · have h4 : x.testBit j = false := Nat.testBit_lt_two_pow (Nat.lt_of_lt_of_le hx (Nat.pow_le_pow_right (by decide) (by omega)))
      simp [h4]
  · simp [h]
theorem cr_orl (k a b : Nat) (hb : b < 2 ^ k) : 2 ^ k * a ||| b = 2 ^ k * a + b := (Nat.two_pow_add_eq_or_of_lt hb a).symm
/-- x & -64, x & -4096, x & -262144 -/
theorem cr_neg64 {x : Nat} (hx : x < 2 ^ 32) : nI x &&& (-(nI 64)) = nI (x / 64 * 64) := by
  rw [show -(nI 64) = nI (2 ^ 6 * (2 ^ (32 - 6) - 1)) by decide, cr_and, cr_andm 6 hx (by decide), Nat.mul_comm]
theorem cr_neg4096 {x : Nat} (hx : x < 2 ^ 32) : nI x &&& (-(nI 4096)) = nI (x / 4096 * 4096) := by
  rw [show -(nI 4096) = nI (2 ^ 12 * (2 ^ (32 - 12) - 1)) by decide, cr_and, cr_andm 12 hx (by decide), Nat.mul_comm]
theorem cr_neg262144 {x : Nat} (hx : x < 2 ^ 32) : nI x &&& (-(nI 262144)) = nI (x / 262144 * 262144) := by
  rw [show -(nI 262144) = nI (2 ^ 18 * (2 ^ (32 - 18) - 1)) by decide, cr_and, cr_andm 18 hx (by decide), Nat.mul_comm]
/-- x | 63, x | 4095 .. -/
theorem cr_or63 (x : Nat) : nI x ||| nI 63 = nI (x / 64 * 64 + 63) := by
  rw [cr_or, show (63 : Nat) = 2 ^ 6 - 1 by decide, cr_orm, Nat.mul_comm]
theorem cr_or4095 (x : Nat) : nI x ||| nI 4095 = nI (x / 4096 * 4096 + 4095) := by
  rw [cr_or, show (4095 : Nat) = 2 ^ 12 - 1 by decide, cr_orm, Nat.mul_comm]
theorem cr_or262143 (x : Nat) : nI x ||| nI 262143 = nI (x / 262144 * 262144 + 262143) := by
  rw [cr_or, show (262143 : Nat) = 2 ^ 18 - 1 by decide, cr_orm, Nat.mul_comm]
theorem cr_or16777215 (x : Nat) : nI x ||| nI 16777215 = nI (x / 16777216 * 16777216 + 16777215) := by
  rw [cr_or, show (16777215 : Nat) = 2 ^ 24 - 1 by decide, cr_orm, Nat.mul_comm]
theorem cr_and63 {x : Nat} (h : x < 2 ^ 32) : nI x &&& nI 63 = nI (x % 64) := pk_andN h 6 (by decide)
theorem cr_and4095 {x : Nat} (h : x < 2 ^ 32) : nI x &&& nI 4095 = nI (x % 4096) := pk_andN h 12 (by decide)
theorem cr_and262143 {x : Nat} (h : x < 2 ^ 32) : nI x &&& nI 262143 = nI (x % 262144) := pk_andN h 18 (by decide)
/-- comparisons as comparisons of numbers -/
theorem cr_lt0 {x : Int32} : x < 0 ↔ x.toInt < 0 := by rw [Int32.lt_iff_toInt_lt, Int32.toInt_zero]
theorem cr_ltn {x : Int32} {n : Nat} (h : n < 2 ^ 31) : x < nI n ↔ x.toInt < n := by rw [Int32.lt_iff_toInt_lt, nI_toInt h]
theorem cr_nlt {x : Int32} {n : Nat} (h : n < 2 ^ 31) : nI n < x ↔ (n : Int) < x.toInt := by rw [Int32.lt_iff_toInt_lt, nI_toInt h]
theorem cr_len' {x : Int32} {n : Nat} (h : n < 2 ^ 31) : x ≤ nI n ↔ x.toInt ≤ n := by rw [Int32.le_iff_toInt_le, nI_toInt h]
theorem cr_nle' {x : Int32} {n : Nat} (h : n < 2 ^ 31) : nI n ≤ x ↔ (n : Int) ≤ x.toInt := by rw [Int32.le_iff_toInt_le, nI_toInt h]
theorem cr_eqn {x : Int32} {n : Nat} (h : n < 2 ^ 31) : x = nI n ↔ x.toInt = n := by
  constructor
  · intro e; rw [e, nI_toInt h]
  · intro e; exact Int32.toInt_inj.mp (by rw [e, nI_toInt h])
theorem cr_m1 : (-1 : Int32).toInt = -1 := by decide
theorem cr_of {x : Int32} (h : 0 ≤ x.toInt) : ∃ n : Nat, n < 2 ^ 31 ∧ x = nI n := nI_of (by rw [cr_lt0]; omega)
theorem cr_min (a b : Nat) (ha : a < 2 ^ 31) (hb : b < 2 ^ 31) : (if nI b < nI a then nI b else nI a) = nI (min a b) := by
  by_cases h : b < a
  · rw [if_pos ((nI_ltI hb ha).2 h), Nat.min_eq_right (Nat.le_of_lt h)]
  · rw [if_neg (fun q => h ((nI_ltI hb ha).1 q)), Nat.min_eq_left (by omega)]
theorem cr_max (a b : Nat) (ha : a < 2 ^ 31) (hb : b < 2 ^ 31) : (if nI a < nI b then nI b else nI a) = nI (max a b) := by
  by_cases h : a < b
  · rw [if_pos ((nI_ltI ha hb).2 h), Nat.max_eq_right (Nat.le_of_lt h)]
  · rw [if_neg (fun q => h ((nI_ltI ha hb).1 q)), Nat.max_eq_left (by omega)]
