/-! BITS of numbers that aren't negative -/
theorem cr_and (a b : Nat) : nI a &&& nI b = nI (a &&& b) := by
  apply Int32.toBitVec_inj.1
  show BitVec.ofNat 32 a &&& BitVec.ofNat 32 b = BitVec.ofNat 32 (a &&& b)
  apply BitVec.eq_of_getLsbD_eq
  intro i hi
  simp [hi]
theorem cr_or (a b : Nat) : nI a ||| nI b = nI (a ||| b) := by
  apply Int32.toBitVec_inj.1
  show BitVec.ofNat 32 a ||| BitVec.ofNat 32 b = BitVec.ofNat 32 (a ||| b)
  apply BitVec.eq_of_getLsbD_eq
  intro i hi
  simp [hi]
theorem cr_orm (c k : Nat) : c ||| (2 ^ k - 1) = 2 ^ k * (c / 2 ^ k) + (2 ^ k - 1) := by
  apply Nat.eq_of_testBit_eq
  intro i
  have hb : 2 ^ k - 1 < 2 ^ k := Nat.sub_lt (Nat.two_pow_pos k) (by decide)
  rw [Nat.testBit_or, Nat.testBit_two_pow_sub_one, Nat.testBit_two_pow_mul_add _ hb, Nat.testBit_two_pow_sub_one]
  by_cases h : i < k
  · simp [h]
  · have e : k + (i - k) = i := by omega
    simp [h, Nat.testBit_div_two_pow, e]
theorem cr_andm {x : Nat} (k : Nat) (hx : x < 2 ^ 32) (hk : k ≤ 32) : x &&& (2 ^ k * (2 ^ (32 - k) - 1)) = 2 ^ k * (x / 2 ^ k) := by
  apply Nat.eq_of_testBit_eq
  intro j
  rw [Nat.testBit_and, Nat.testBit_two_pow_mul, Nat.testBit_two_pow_mul, Nat.testBit_two_pow_sub_one, Nat.testBit_div_two_pow]
  by_cases h : k ≤ j
  · have e : k + (j - k) = j := by omega
    rw [e]
    by_cases h2 : j < 32
    · have h3 : j - k < 32 - k := by omega
      simp [h, h3]
    · have h4 : x.testBit j = false := Nat.testBit_lt_two_pow (Nat.lt_of_lt_of_le hx (Nat.pow_le_pow_right (by decide) (by omega)))
      simp [h4]
  · simp [h]
theorem cr_orl (k a b : Nat) (hb : b < 2 ^ k) : 2 ^ k * a ||| b = 2 ^ k * a + b := (Nat.two_pow_add_eq_or_of_lt hb a).symm
/-- x & -64, x & -4096, x & -262144 -/
theorem cr_neg64 {x : Nat} (hx : x < 2 ^ 32) : nI x &&& (-(nI 64)) = nI (x / 64 * 64) := by
  rw [show -(nI 64) = nI (2 ^ 6 * (2 ^ (32 - 6) - 1)) by decide, cr_and, cr_andm 6 hx (by decide), Nat.mul_comm]
theorem cr_neg4096 {x : Nat} (hx : x < 2 ^ 32) : nI x &&& (-(nI 4096)) = nI (x / 4096 * 4096) := by
  rw [show -(nI 4096) = nI (2 ^ 12 * (2 ^ (32 - 12) - 1)) by decide, cr_and, cr_andm 12 hx (by decide), Nat.mul_comm]
theorem cr_neg262144 {x : Nat} (hx : x < 2 ^ 32) : nI x &&& (-(nI 262144)) = nI (x / 262144 * 262144) := by
  rw [show -(nI 262144) = nI (2 ^ 18 * (2 ^ (32 - 18) - 1)) by decide, cr_and, cr_andm 18 hx (by decide), Nat.mul_comm]
/-- x | 63, x | 4095 .. -/
theorem cr_or63 (x : Nat) : nI x ||| nI 63 = nI (x / 64 * 64 + 63) := by
  rw [cr_or, show (63 : Nat) = 2 ^ 6 - 1 by decide, cr_orm, Nat.mul_comm]
theorem cr_or4095 (x : Nat) : nI x ||| nI 4095 = nI (x / 4096 * 4096 + 4095) := by
  rw [cr_or, show (4095 : Nat) = 2 ^ 12 - 1 by decide, cr_orm, Nat.mul_comm]
theorem cr_or262143 (x : Nat) : nI x ||| nI 262143 = nI (x / 262144 * 262144 + 262143) := by
  rw [cr_or, show (262143 : Nat) = 2 ^ 18 - 1 by decide, cr_orm, Nat.mul_comm]
theorem cr_or16777215 (x : Nat) : nI x ||| nI 16777215 = nI (x / 16777216 * 16777216 + 16777215) := by
  rw [cr_or, show (16777215 : Nat) = 2 ^ 24 - 1 by decide, cr_orm, Nat.mul_comm]
theorem cr_and63 {x : Nat} (h : x < 2 ^ 32) : nI x &&& nI 63 = nI (x % 64) := pk_andN h 6 (by decide)
theorem cr_and4095 {x : Nat} (h : x < 2 ^ 32) : nI x &&& nI 4095 = nI (x % 4096) := pk_andN h 12 (by decide)
theorem cr_and262143 {x : Nat} (h : x < 2 ^ 32) : nI x &&& nI 262143 = nI (x % 262144) := pk_andN h 18 (by decide)
/-- comparisons as comparisons of numbers -/
theorem cr_lt0 {x : Int32} : x < 0 ↔ x.toInt < 0 := by rw [Int32.lt_iff_toInt_lt, Int32.toInt_zero]
theorem cr_ltn {x : Int32} {n : Nat} (h : n < 2 ^ 31) : x < nI n ↔ x.toInt < n := by rw [Int32.lt_iff_toInt_lt, nI_toInt h]
theorem cr_nlt {x : Int32} {n : Nat} (h : n < 2 ^ 31) : nI n < x ↔ (n : Int) < x.toInt := by rw [Int32.lt_iff_toInt_lt, nI_toInt h]
theorem cr_len' {x : Int32} {n : Nat} (h : n < 2 ^ 31) : x ≤ nI n ↔ x.toInt ≤ n := by rw [Int32.le_iff_toInt_le, nI_toInt h]
theorem cr_nle' {x : Int32} {n : Nat} (h : n < 2 ^ 31) : nI n ≤ x ↔ (n : Int) ≤ x.toInt := by rw [Int32.le_iff_toInt_le, nI_toInt h]
theorem cr_eqn {x : Int32} {n : Nat} (h : n < 2 ^ 31) : x = nI n ↔ x.toInt = n := by
  constructor
  · intro e; rw [e, nI_toInt h]
  · intro e; exact Int32.toInt_inj.mp (by rw [e, nI_toInt h])
theorem cr_m1 : (-1 : Int32).toInt = -1 := by decide
theorem cr_of {x : Int32} (h : 0 ≤ x.toInt) : ∃ n : Nat, n < 2 ^ 31 ∧ x = nI n := nI_of (by rw [cr_lt0]; omega)
theorem cr_min (a b : Nat) (ha : a < 2 ^ 31) (hb : b < 2 ^ 31) : (if nI b < nI a then nI b else nI a) = nI (min a b) := by
  by_cases h : b < a
  · rw [if_pos ((nI_ltI hb ha).2 h), Nat.min_eq_right (Nat.le_of_lt h)]
  · rw [if_neg (fun q => h ((nI_ltI hb ha).1 q)), Nat.min_eq_left (by omega)]
theorem cr_max (a b : Nat) (ha : a < 2 ^ 31) (hb : b < 2 ^ 31) : (if nI a < nI b then nI b else nI a) = nI (max a b) := by
  by_cases h : a < b
  · rw [if_pos ((nI_ltI ha hb).2 h), Nat.max_eq_right (Nat.le_of_lt h)]
  · rw [if_neg (fun q => h ((nI_ltI ha hb).1 q)), Nat.max_eq_left (by omega)]
/-! PURE: ranges of characters -/
def cr_ch (c : Nat) : Prop := c ≤ 1114111 ∧ (c < 55296 ∨ 57344 ≤ c)
def cr_In (n : Nat) (lo hi : Nat → Nat) (c : Nat) : Prop := ∃ j, j < n ∧ lo j ≤ c ∧ c ≤ hi j
def cr_Ok (n : Nat) (lo hi : Nat → Nat) : Prop := (∀ j, j < n → lo j ≤ hi j ∧ hi j ≤ 1114111 ∧ (hi j < 55296 ∨ 57344 ≤ lo j)) ∧ ∀ j, j + 1 < n → hi j + 1 < lo (j + 1)
theorem cr_Ok.apart {n : Nat} {lo hi : Nat → Nat} (h : cr_Ok n lo hi) : ∀ (d i : Nat), i + d + 1 < n → hi i + 1 < lo (i + d + 1) := by
  intro d
  induction d with
  | zero => intro i hi'; exact h.2 i hi'
  | succ d ih =>
    intro i hi'
    have a := ih i (by omega)
    have b := h.1 (i + d + 1) (by omega)
    have c := h.2 (i + d + 1) (by omega)
    have e : i + (d + 1) + 1 = i + d + 1 + 1 := by omega
    rw [e]
    omega
theorem cr_Ok.lt {n : Nat} {lo hi : Nat → Nat} (h : cr_Ok n lo hi) {i j : Nat} (hij : i < j) (hj : j < n) : hi i + 1 < lo j := by
  have := h.apart (j - i - 1) i (by omega)
  have e : i + (j - i - 1) + 1 = j := by omega
  rw [e] at this
  exact this
theorem cr_Ok.char {n : Nat} {lo hi : Nat → Nat} (h : cr_Ok n lo hi) {c : Nat} (hc : cr_In n lo hi c) : cr_ch c := by
  obtain ⟨j, hj, h1, h2⟩ := hc
  have := h.1 j hj
  unfold cr_ch
  omega
theorem cr_half {n n' : Nat} {lo hi lo' hi' : Nat → Nat} (h : cr_Ok n lo hi) (h' : cr_Ok n' lo' hi') (hs : ∀ c, cr_In n lo hi c → cr_In n' lo' hi' c) {j : Nat} (hj : j < n) (hj' : j < n') (he : ∀ i, i < j → lo i = lo' i ∧ hi i = hi' i) : lo' j ≤ lo j := by
  obtain ⟨i, hi1, h1, h2⟩ := hs (lo j) ⟨j, hj, Nat.le_refl _, (h.1 j hj).1⟩
  rcases Nat.lt_trichotomy i j with q | q | q
  · have a := h.lt q hj
    have b := (he i q).2
    omega
  · subst q
    exact h1
  · have a := h'.lt q hi1
    have b := h'.1 j hj'
    omega
theorem cr_half2 {n n' : Nat} {lo hi lo' hi' : Nat → Nat} (h : cr_Ok n lo hi) (_h' : cr_Ok n' lo' hi') (hs : ∀ c, cr_In n' lo' hi' c → cr_In n lo hi c) {j : Nat} (hj : j < n) (hj' : j < n') (hl : lo j = lo' j) : hi' j ≤ hi j := by
  rcases Nat.lt_or_ge (hi j) (hi' j) with q | q
  · exfalso
    have a := h.1 j hj
    obtain ⟨i, hi1, h1, h2⟩ := hs (hi j + 1) ⟨j, hj', by omega, by omega⟩
    rcases Nat.lt_trichotomy i j with e | e | e
    · have b := h.lt e hj
      omega
    · subst e
      omega
    · have b := h.lt e hi1
      omega
  · exact q
theorem cr_same {n n' : Nat} {lo hi lo' hi' : Nat → Nat} (h : cr_Ok n lo hi) (h' : cr_Ok n' lo' hi') (hs : ∀ c, cr_In n lo hi c ↔ cr_In n' lo' hi' c) : ∀ j, j < n → j < n' → lo j = lo' j ∧ hi j = hi' j := by
  intro j
  induction j using Nat.strongRecOn with
  | ind j ih =>
    intro hj hj'
    have he : ∀ i, i < j → lo i = lo' i ∧ hi i = hi' i := fun i hi1 => ih i hi1 (by omega) (by omega)
    have he' : ∀ i, i < j → lo' i = lo i ∧ hi' i = hi i := fun i hi1 => ⟨(he i hi1).1.symm, (he i hi1).2.symm⟩
    have a := cr_half h h' (fun c => (hs c).1) hj hj' he
    have b := cr_half h' h (fun c => (hs c).2) hj' hj he'
    have e : lo j = lo' j := Nat.le_antisymm b a
    have a2 := cr_half2 h h' (fun c => (hs c).2) hj hj' e
    have b2 := cr_half2 h' h (fun c => (hs c).1) hj' hj e.symm
    exact ⟨e, Nat.le_antisymm b2 a2⟩
theorem cr_nle {n n' : Nat} {lo hi lo' hi' : Nat → Nat} (h : cr_Ok n lo hi) (h' : cr_Ok n' lo' hi') (hs : ∀ c, cr_In n lo hi c ↔ cr_In n' lo' hi' c) : n' ≤ n := by
  rcases Nat.lt_or_ge n n' with q | q
  · exfalso
    obtain ⟨i, hi1, h1, h2⟩ := (hs (lo' n)).2 ⟨n, q, Nat.le_refl _, (h'.1 n q).1⟩
    have e := cr_same h h' hs i hi1 (by omega)
    have b := h'.lt hi1 q
    omega
  · exact q
theorem cr_uniq {n n' : Nat} {lo hi lo' hi' : Nat → Nat} (h : cr_Ok n lo hi) (h' : cr_Ok n' lo' hi') (hs : ∀ c, cr_In n lo hi c ↔ cr_In n' lo' hi' c) : n = n' ∧ ∀ j, j < n → lo j = lo' j ∧ hi j = hi' j := by
  have a := cr_nle h h' hs
  have b := cr_nle h' h (fun c => (hs c).symm)
  exact ⟨Nat.le_antisymm b a, fun j hj => cr_same h h' hs j hj (by omega)⟩
/-! how many there can be -/
theorem cr_pig : ∀ (k : Nat) (f : Nat → Nat) (P : List Nat), (∀ i j, i < j → j < k → f i < f j) → (∀ i, i < k → f i ∈ P) → k ≤ P.length := by
  intro k
  induction k with
  | zero => intro f P _ _; exact Nat.zero_le _
  | succ k ih =>
    intro f P hf hm
    have hk := hm k (by omega)
    have h1 := ih f (P.erase (f k)) (fun i j hij hj => hf i j hij (by omega)) (fun i hi => by
      have := hf i k hi (by omega)
      exact (List.mem_erase_of_ne (by omega)).mpr (hm i (by omega)))
    have h2 := List.length_erase_of_mem hk
    have h3 : 0 < P.length := List.length_pos_of_mem hk
    omega
def cr_pt (lo hi : Nat → Nat) (i : Nat) : Nat := if i % 2 = 0 then lo (i / 2) else hi (i / 2) + 1
theorem cr_pt_step {n : Nat} {lo hi : Nat → Nat} (h : cr_Ok n lo hi) (i : Nat) (hi1 : i + 1 < 2 * n) : cr_pt lo hi i < cr_pt lo hi (i + 1) := by
  unfold cr_pt
  rcases Nat.mod_two_eq_zero_or_one i with e | e
  · have e2 : (i + 1) % 2 ≠ 0 := by omega
    have e3 : (i + 1) / 2 = i / 2 := by omega
    rw [if_pos e, if_neg e2, e3]
    have := h.1 (i / 2) (by omega)
    omega
  · have e0 : i % 2 ≠ 0 := by omega
    have e2 : (i + 1) % 2 = 0 := by omega
    have e3 : (i + 1) / 2 = i / 2 + 1 := by omega
    rw [if_neg e0, if_pos e2, e3]
    exact h.2 (i / 2) (by omega)
theorem cr_pt_lt {n : Nat} {lo hi : Nat → Nat} (h : cr_Ok n lo hi) : ∀ (d i : Nat), i + d + 1 < 2 * n → cr_pt lo hi i < cr_pt lo hi (i + d + 1) := by
  intro d
  induction d with
  | zero => intro i hi1; exact cr_pt_step h i hi1
  | succ d ih =>
    intro i hi1
    have a := ih i (by omega)
    have b := cr_pt_step h (i + d + 1) (by omega)
    have e : i + (d + 1) + 1 = i + d + 1 + 1 := by omega
    rw [e]
    omega
theorem cr_count {n : Nat} {lo hi : Nat → Nat} (h : cr_Ok n lo hi) (P : List Nat) (hl : ∀ j, j < n → lo j ∈ P ∧ hi j + 1 ∈ P) : 2 * n ≤ P.length := by
  refine cr_pig (2 * n) (cr_pt lo hi) P (fun i j hij hj => ?_) (fun i hi1 => ?_)
  · have := cr_pt_lt h (j - i - 1) i (by omega)
    have e : i + (j - i - 1) + 1 = j := by omega
    rw [e] at this
    exact this
  · have a := hl (i / 2) (by omega)
    unfold cr_pt
    split
    · exact a.1
    · exact a.2
/-- the places where the set begins or ends lie in P -/
def cr_Bd (P : List Nat) (S : Nat → Prop) : Prop := 0 ∈ P ∧ ∀ c, c + 1 ∉ P → (S (c + 1) ↔ S c)
theorem cr_Bd.count {P : List Nat} {S : Nat → Prop} (hB : cr_Bd P S) {n : Nat} {lo hi : Nat → Nat} (h : cr_Ok n lo hi) (hS : ∀ c, cr_In n lo hi c ↔ S c) : 2 * n ≤ P.length := by
  refine cr_count h P (fun j hj => ⟨?_, ?_⟩)
  · rcases Nat.eq_zero_or_pos (lo j) with e | e
    · rw [e]; exact hB.1
    · apply Classical.byContradiction
      intro hn
      have e2 : lo j - 1 + 1 = lo j := by omega
      have a := hB.2 (lo j - 1) (by rw [e2]; exact hn)
      rw [e2, ← hS, ← hS] at a
      obtain ⟨i, hi1, h1, h2⟩ := a.1 ⟨j, hj, Nat.le_refl _, (h.1 j hj).1⟩
      rcases Nat.lt_trichotomy i j with q | q | q
      · have b := h.lt q hj
        omega
      · subst q
        omega
      · have b := h.lt q hi1
        have b2 := h.1 j hj
        omega
  · apply Classical.byContradiction
    intro hn
    have a := hB.2 (hi j) hn
    rw [← hS, ← hS] at a
    obtain ⟨i, hi1, h1, h2⟩ := a.2 ⟨j, hj, (h.1 j hj).1, Nat.le_refl _⟩
    rcases Nat.lt_trichotomy i j with q | q | q
    · have b := h.lt q hj
      have b2 := h.1 j hj
      omega
    · subst q
      omega
    · have b := h.lt q hi1
      omega
theorem cr_Bd.more {P P' : List Nat} {S : Nat → Prop} (h : cr_Bd P S) (hp : ∀ c, c ∈ P → c ∈ P') : cr_Bd P' S := ⟨hp 0 h.1, fun c hc => h.2 c (fun q => hc (hp _ q))⟩
theorem cr_Bd.or {P P' : List Nat} {S T : Nat → Prop} (h : cr_Bd P S) (h' : cr_Bd P' T) : cr_Bd (P ++ P') (fun c => S c ∨ T c) := by
  refine ⟨List.mem_append_left _ h.1, fun c hc => ?_⟩
  rw [List.mem_append, not_or] at hc
  have a := h.2 c hc.1
  have b := h'.2 c hc.2
  show (S (c + 1) ∨ T (c + 1)) ↔ (S c ∨ T c)
  rw [a, b]
theorem cr_Bd.or1 {P : List Nat} {S T : Nat → Prop} (h : cr_Bd P S) (h' : cr_Bd P T) : cr_Bd P (fun c => S c ∨ T c) := by
  refine ⟨h.1, fun c hc => ?_⟩
  have a := h.2 c hc
  have b := h'.2 c hc
  show (S (c + 1) ∨ T (c + 1)) ↔ (S c ∨ T c)
  rw [a, b]
theorem cr_Bd.and1 {P : List Nat} {S T : Nat → Prop} (h : cr_Bd P S) (h' : cr_Bd P T) : cr_Bd P (fun c => S c ∧ T c) := by
  refine ⟨h.1, fun c hc => ?_⟩
  have a := h.2 c hc
  have b := h'.2 c hc
  show (S (c + 1) ∧ T (c + 1)) ↔ (S c ∧ T c)
  rw [a, b]
theorem cr_Bd.not1 {P : List Nat} {S : Nat → Prop} (h : cr_Bd P S) : cr_Bd P (fun c => ¬ S c) := by
  refine ⟨h.1, fun c hc => ?_⟩
  have a := h.2 c hc
  show ¬ S (c + 1) ↔ ¬ S c
  rw [a]
theorem cr_Bd.iff {P : List Nat} {S T : Nat → Prop} (h : cr_Bd P S) (hs : ∀ c, S c ↔ T c) : cr_Bd P T := ⟨h.1, fun c hc => by rw [← hs, ← hs]; exact h.2 c hc⟩
/-- the ends of all characters, and of the gap in them -/
def cr_base : List Nat := [0, 55296, 57344, 1114112]
theorem cr_Bd.ch {P : List Nat} (hp : ∀ c, c ∈ cr_base → c ∈ P) : cr_Bd P cr_ch := by
  refine ⟨hp 0 (by decide), fun c hc => ?_⟩
  have h1 : c + 1 ≠ 55296 := fun q => hc (hp _ (by rw [q]; decide))
  have h2 : c + 1 ≠ 57344 := fun q => hc (hp _ (by rw [q]; decide))
  have h3 : c + 1 ≠ 1114112 := fun q => hc (hp _ (by rw [q]; decide))
  unfold cr_ch
  omega
theorem cr_Bd.seg {P : List Nat} {a b : Nat} (h0 : 0 ∈ P) (ha : a ∈ P) (hb : b + 1 ∈ P) : cr_Bd P (fun c => a ≤ c ∧ c ≤ b) := by
  refine ⟨h0, fun c hc => ?_⟩
  have h1 : c + 1 ≠ a := fun q => hc (by rw [q]; exact ha)
  have h2 : c + 1 ≠ b + 1 := fun q => hc (by rw [q]; exact hb)
  show (a ≤ c + 1 ∧ c + 1 ≤ b) ↔ (a ≤ c ∧ c ≤ b)
  omega
theorem cr_Bd.below {P : List Nat} {a : Nat} (h0 : 0 ∈ P) (ha : a ∈ P) : cr_Bd P (fun c => c < a) := by
  refine ⟨h0, fun c hc => ?_⟩
  have h1 : c + 1 ≠ a := fun q => hc (by rw [q]; exact ha)
  show c + 1 < a ↔ c < a
  omega
/-! arrays that hold ranges -/
def cr_Rp (n : Nat) (lo hi : Nat → Nat) (f g : Nat → Int32) : Prop := ∀ j, j < n → f j = nI (lo j) ∧ g j = nI (hi j)
/-- the arrays f, g tell the set S, in n ranges -/
def cr_Set (n : Nat) (f g : Nat → Int32) (S : Nat → Prop) : Prop := ∃ lo hi : Nat → Nat, cr_Rp n lo hi f g ∧ cr_Ok n lo hi ∧ ∀ c, cr_In n lo hi c ↔ S c
theorem cr_Set.iff {n : Nat} {f g : Nat → Int32} {S T : Nat → Prop} (h : cr_Set n f g S) (hs : ∀ c, S c ↔ T c) : cr_Set n f g T := by
  obtain ⟨lo, hi, a, b, c⟩ := h
  exact ⟨lo, hi, a, b, fun x => (c x).trans (hs x)⟩
theorem cr_Set.zero {f g : Nat → Int32} : cr_Set 0 f g (fun _ => False) := ⟨fun _ => 0, fun _ => 0, fun j hj => absurd hj (by omega), ⟨fun j hj => absurd hj (by omega), fun j hj => absurd hj (by omega)⟩, fun c => ⟨fun ⟨j, hj, _⟩ => absurd hj (by omega), fun h => h.elim⟩⟩
theorem cr_Set.char {n : Nat} {f g : Nat → Int32} {S : Nat → Prop} (h : cr_Set n f g S) {c : Nat} (hc : S c) : cr_ch c := by
  obtain ⟨lo, hi, _, b, d⟩ := h
  exact b.char ((d c).2 hc)
theorem cr_Set.count {n : Nat} {f g : Nat → Int32} {S : Nat → Prop} (h : cr_Set n f g S) {P : List Nat} (hB : cr_Bd P S) : 2 * n ≤ P.length := by
  obtain ⟨lo, hi, _, b, d⟩ := h
  exact hB.count b d
theorem cr_Set.uniq {n n' : Nat} {f g f' g' : Nat → Int32} {S : Nat → Prop} (h : cr_Set n f g S) (h' : cr_Set n' f' g' S) : n = n' ∧ ∀ j, j < n → f j = f' j ∧ g j = g' j := by
  obtain ⟨lo, hi, a, b, d⟩ := h
  obtain ⟨lo', hi', a', b', d'⟩ := h'
  obtain ⟨e, q⟩ := cr_uniq b b' (fun c => (d c).trans (d' c).symm)
  refine ⟨e, fun j hj => ?_⟩
  have x := q j hj
  have y := a j hj
  have z := a' j (by omega)
  rw [y.1, y.2, z.1, z.2, x.1, x.2]
  exact ⟨rfl, rfl⟩
/-! one more range -/
def cr_insf (f : Nat → Nat) (k x : Nat) : Nat → Nat := fun j => if j < k then f j else if j = k then x else f (j - 1)
theorem cr_insf_lt {f : Nat → Nat} {k x j : Nat} (h : j < k) : cr_insf f k x j = f j := by unfold cr_insf; rw [if_pos h]
theorem cr_insf_eq {f : Nat → Nat} {k x : Nat} : cr_insf f k x k = x := by unfold cr_insf; rw [if_neg (Nat.lt_irrefl k), if_pos rfl]
theorem cr_insf_gt {f : Nat → Nat} {k x j : Nat} (h : k < j) : cr_insf f k x j = f (j - 1) := by unfold cr_insf; rw [if_neg (by omega), if_neg (by omega)]
theorem cr_ins {n : Nat} {lo hi : Nat → Nat} (h : cr_Ok n lo hi) {k a b : Nat} (hk : k ≤ n) (hab : a ≤ b) (hb : b ≤ 1114111) (hg : b < 55296 ∨ 57344 ≤ a) (h1 : ∀ j, j < k → hi j + 1 < a) (h2 : ∀ j, k ≤ j → j < n → b + 1 < lo j) :
    cr_Ok (n + 1) (cr_insf lo k a) (cr_insf hi k b) ∧ ∀ c, cr_In (n + 1) (cr_insf lo k a) (cr_insf hi k b) c ↔ (cr_In n lo hi c ∨ (a ≤ c ∧ c ≤ b)) := by
  refine ⟨⟨fun j hj => ?_, fun j hj => ?_⟩, fun c => ⟨fun hc => ?_, fun hc => ?_⟩⟩
  · rcases Nat.lt_trichotomy j k with e | e | e
    · rw [cr_insf_lt e, cr_insf_lt e]; exact h.1 j (by omega)
    · subst e; rw [cr_insf_eq, cr_insf_eq]; exact ⟨hab, hb, hg⟩
    · rw [cr_insf_gt e, cr_insf_gt e]; exact h.1 (j - 1) (by omega)
  · rcases Nat.lt_trichotomy j k with e | e | e
    · rw [cr_insf_lt e]
      rcases Nat.lt_or_ge (j + 1) k with q | q
      · rw [cr_insf_lt q]; exact h.2 j (by omega)
      · have : j + 1 = k := by omega
        rw [this, cr_insf_eq]; exact h1 j e
    · subst e
      rw [cr_insf_eq, cr_insf_gt (by omega)]
      exact h2 _ (by omega) (by omega)
    · rw [cr_insf_gt e, cr_insf_gt (by omega)]
      have q := h.2 (j - 1) (by omega)
      have e2 : j - 1 + 1 = j + 1 - 1 := by omega
      rw [e2] at q
      exact q
  · obtain ⟨j, hj, q1, q2⟩ := hc
    rcases Nat.lt_trichotomy j k with e | e | e
    · rw [cr_insf_lt e] at q1 q2
      exact Or.inl ⟨j, by omega, q1, q2⟩
    · subst e
      rw [cr_insf_eq] at q1 q2
      exact Or.inr ⟨q1, q2⟩
    · rw [cr_insf_gt e] at q1 q2
      exact Or.inl ⟨j - 1, by omega, q1, q2⟩
  · rcases hc with ⟨j, hj, q1, q2⟩ | ⟨q1, q2⟩
    · rcases Nat.lt_or_ge j k with e | e
      · exact ⟨j, by omega, by rw [cr_insf_lt e]; exact q1, by rw [cr_insf_lt e]; exact q2⟩
      · exact ⟨j + 1, by omega, by rw [cr_insf_gt (by omega)]; exact q1, by rw [cr_insf_gt (by omega)]; exact q2⟩
    · exact ⟨k, by omega, by rw [cr_insf_eq]; exact q1, by rw [cr_insf_eq]; exact q2⟩
/-- ranges f .. b - 1 become one, x in place of theirs -/
def cr_unif (g : Nat → Nat) (f b x : Nat) : Nat → Nat := fun j => if j < f then g j else if j = f then x else g (j - (f + 1) + b)
theorem cr_unif_lt {g : Nat → Nat} {f b x j : Nat} (h : j < f) : cr_unif g f b x j = g j := by unfold cr_unif; rw [if_pos h]
theorem cr_unif_eq {g : Nat → Nat} {f b x : Nat} : cr_unif g f b x f = x := by unfold cr_unif; rw [if_neg (Nat.lt_irrefl f), if_pos rfl]
theorem cr_unif_gt {g : Nat → Nat} {f b x j : Nat} (h : f < j) : cr_unif g f b x j = g (j - (f + 1) + b) := by unfold cr_unif; rw [if_neg (by omega), if_neg (by omega)]
theorem cr_uni {n : Nat} {lo hi : Nat → Nat} (h : cr_Ok n lo hi) {f b x y : Nat} (hf : f < b) (hb : b ≤ n) (hxy : x ≤ y) (hy : y ≤ 1114111) (hg : y < 55296 ∨ 57344 ≤ x) (h1 : ∀ j, j < f → hi j + 1 < x) (h2 : x ≤ hi f + 1) (h3 : ∀ j, f ≤ j → j < b → lo j ≤ y + 1) (h4 : ∀ j, b ≤ j → j < n → y + 1 < lo j) :
    cr_Ok (n - (b - (f + 1))) (cr_unif lo f b (min (lo f) x)) (cr_unif hi f b (max (hi (b - 1)) y)) ∧ ∀ c, cr_In (n - (b - (f + 1))) (cr_unif lo f b (min (lo f) x)) (cr_unif hi f b (max (hi (b - 1)) y)) c ↔ (cr_In n lo hi c ∨ (x ≤ c ∧ c ≤ y)) := by
  have kf := h.1 f (by omega)
  have kb := h.1 (b - 1) (by omega)
  have k3 := h3 (b - 1) (by omega) (by omega)
  have k4 := h3 f (by omega) hf
  have kfb : lo f ≤ lo (b - 1) ∧ hi f ≤ hi (b - 1) := by
    rcases Nat.eq_or_lt_of_le (show f ≤ b - 1 by omega) with e | e
    · rw [← e]; exact ⟨Nat.le_refl _, Nat.le_refl _⟩
    · have := h.lt e (by omega)
      omega
  refine ⟨⟨fun j hj => ?_, fun j hj => ?_⟩, fun c => ⟨fun hc => ?_, fun hc => ?_⟩⟩
  · rcases Nat.lt_trichotomy j f with e | e | e
    · rw [cr_unif_lt e, cr_unif_lt e]; exact h.1 j (by omega)
    · subst e; rw [cr_unif_eq, cr_unif_eq]; omega
    · rw [cr_unif_gt e, cr_unif_gt e]; exact h.1 _ (by omega)
  · rcases Nat.lt_trichotomy j f with e | e | e
    · rw [cr_unif_lt e]
      rcases Nat.lt_or_ge (j + 1) f with q | q
      · rw [cr_unif_lt q]; exact h.2 j (by omega)
      · have : j + 1 = f := by omega
        rw [this, cr_unif_eq]
        have a := h1 j e
        have c := h.lt e (show f < n by omega)
        omega
    · subst e
      rw [cr_unif_eq, cr_unif_gt (by omega)]
      have e2 : j + 1 - (j + 1) + b = b := by omega
      rw [e2]
      have a := h4 b (by omega) (by omega)
      have c := h.lt (show b - 1 < b by omega) (show b < n by omega)
      omega
    · rw [cr_unif_gt e, cr_unif_gt (by omega)]
      have q := h.2 (j - (f + 1) + b) (by omega)
      have e2 : j + 1 - (f + 1) + b = j - (f + 1) + b + 1 := by omega
      rw [e2]
      exact q
  · obtain ⟨j, hj, q1, q2⟩ := hc
    rcases Nat.lt_trichotomy j f with e | e | e
    · rw [cr_unif_lt e] at q1 q2
      exact Or.inl ⟨j, by omega, q1, q2⟩
    · subst e
      rw [cr_unif_eq] at q1 q2
      rcases Nat.lt_or_ge c x with u | u
      · exact Or.inl ⟨j, by omega, by omega, by omega⟩
      · rcases Nat.lt_or_ge y c with v | v
        · exact Or.inl ⟨b - 1, by omega, by omega, by omega⟩
        · exact Or.inr ⟨u, v⟩
    · rw [cr_unif_gt e] at q1 q2
      exact Or.inl ⟨_, by omega, q1, q2⟩
  · rcases hc with ⟨j, hj, q1, q2⟩ | ⟨q1, q2⟩
    · rcases Nat.lt_or_ge j f with e | e
      · exact ⟨j, by omega, by rw [cr_unif_lt e]; exact q1, by rw [cr_unif_lt e]; exact q2⟩
      · rcases Nat.lt_or_ge j b with u | u
        · refine ⟨f, by omega, ?_, ?_⟩
          · rw [cr_unif_eq]
            rcases Nat.eq_or_lt_of_le e with v | v
            · subst v; omega
            · have := h.lt v hj
              omega
          · rw [cr_unif_eq]
            rcases Nat.eq_or_lt_of_le (show j ≤ b - 1 by omega) with v | v
            · rw [← v]; omega
            · have := h.lt v (show b - 1 < n by omega)
              have := h.1 j hj
              omega
        · refine ⟨j - b + (f + 1), by omega, ?_, ?_⟩
          · rw [cr_unif_gt (by omega)]
            have e2 : j - b + (f + 1) - (f + 1) + b = j := by omega
            rw [e2]; exact q1
          · rw [cr_unif_gt (by omega)]
            have e2 : j - b + (f + 1) - (f + 1) + b = j := by omega
            rw [e2]; exact q2
    · exact ⟨f, by omega, by rw [cr_unif_eq]; omega, by rw [cr_unif_eq]; omega⟩
theorem cr_Ok.mono {n : Nat} {lo hi : Nat → Nat} (h : cr_Ok n lo hi) {i j : Nat} (hij : i ≤ j) (hj : j < n) : hi i ≤ hi j ∧ lo i ≤ lo j := by
  rcases Nat.eq_or_lt_of_le hij with e | e
  · subst e
    exact ⟨Nat.le_refl _, Nat.le_refl _⟩
  · have a := h.lt e hj
    have b := h.1 j hj
    have d := h.1 i (by omega)
    omega
theorem cr_move {n k t : Nat} (hk : k ≤ n) : nI n + (nI t - nI k) = nI (t + (n - k)) := by
  have e : nI n = nI (n - k) + nI k := by
    rw [nI_add]
    congr 1
    omega
  rw [e, Int32.add_assoc, Int32.add_comm (nI k), Int32.sub_add_cancel, nI_add, Nat.add_comm]
theorem cr_Rp.ins {n : Nat} {lo hi : Nat → Nat} {f g : Nat → Int32} (h : cr_Rp n lo hi f g) {k a b : Nat} (_hk : k ≤ n) : cr_Rp (n + 1) (cr_insf lo k a) (cr_insf hi k b) (upd (va_cpy f f k (k + 1) (n - k)) k (nI a)) (upd (va_cpy g g k (k + 1) (n - k)) k (nI b)) := by
  intro j hj
  rcases Nat.lt_trichotomy j k with e | e | e
  · rw [cr_insf_lt e, cr_insf_lt e, pk_un (by omega), pk_un (by omega), pk_cpy_out (by omega), pk_cpy_out (by omega)]
    exact h j (by omega)
  · subst e
    rw [cr_insf_eq, cr_insf_eq, pk_us, pk_us]
    exact ⟨rfl, rfl⟩
  · rw [cr_insf_gt e, cr_insf_gt e, pk_un (by omega), pk_un (by omega), pk_cpy_in (by omega) (by omega), pk_cpy_in (by omega) (by omega)]
    have q := h (j - 1) (by omega)
    have e2 : k + (j - (k + 1)) = j - 1 := by omega
    rw [e2]
    exact q
theorem cr_Rp.uni {n : Nat} {lo hi : Nat → Nat} {f g : Nat → Int32} (h : cr_Rp n lo hi f g) {p b x y : Nat} (hp : p < b) (hb : b ≤ n) : cr_Rp (n - (b - (p + 1))) (cr_unif lo p b x) (cr_unif hi p b y) (va_cpy (upd f p (nI x)) (upd f p (nI x)) b (p + 1) (n - b)) (va_cpy (upd g p (nI y)) (upd g p (nI y)) b (p + 1) (n - b)) := by
  intro j hj
  rcases Nat.lt_trichotomy j p with e | e | e
  · rw [cr_unif_lt e, cr_unif_lt e, pk_cpy_out (by omega), pk_cpy_out (by omega), pk_un (by omega), pk_un (by omega)]
    exact h j (by omega)
  · subst e
    rw [cr_unif_eq, cr_unif_eq, pk_cpy_out (by omega), pk_cpy_out (by omega), pk_us, pk_us]
    exact ⟨rfl, rfl⟩
  · rw [cr_unif_gt e, cr_unif_gt e, pk_cpy_in (by omega) (by omega), pk_cpy_in (by omega) (by omega), pk_un (by omega), pk_un (by omega)]
    have e2 : b + (j - (p + 1)) = j - (p + 1) + b := by omega
    rw [e2]
    exact h _ (by omega)
theorem cr_lt_s {P : Nat → Prop} {k q : Nat} (h : ∀ j, k ≤ j → j < q → P j) (hq : P q) : ∀ j, k ≤ j → j < q + 1 → P j := by
  intro j h1 h2
  rcases Nat.lt_or_ge j q with e | e
  · exact h j h1 e
  · have : j = q := by omega
    subst this
    exact hq
def cr_zb (r : Int32) (P : Prop) : Prop := (r = nI 1 ∧ P) ∨ (r = nI 0 ∧ ¬ P)
/-- x is a character of S -/
def cr_Hs (S : Nat → Prop) (x : Int32) : Prop := ∃ c : Nat, c ≤ 1114111 ∧ x = nI c ∧ S c
theorem cr_put_ins {n : Nat} {lo hi : Nat → Nat} {f g : Nat → Int32} {S : Nat → Prop} (hR : cr_Rp n lo hi f g) (hO : cr_Ok n lo hi) (hI : ∀ c, cr_In n lo hi c ↔ S c) {k a b : Nat} (hk : k ≤ n) (hab : a ≤ b) (hb : b ≤ 1114111) (hg : b < 55296 ∨ 57344 ≤ a) (h1 : ∀ j, j < k → hi j + 1 < a) (h2 : ∀ j, k ≤ j → j < n → b + 1 < lo j) (ha3 : a < 2 ^ 31) (hb3 : b < 2 ^ 31) :
    cr_Set (n + 1) (upd (va_cpy f f k (k + 1) (n - k)) k (nI a)) (upd (va_cpy g g k (k + 1) (n - k)) k (nI b)) (fun c => S c ∨ ((nI a).toInt ≤ (c : Int) ∧ (c : Int) ≤ (nI b).toInt)) := by
  obtain ⟨o, i⟩ := cr_ins hO hk hab hb hg h1 h2
  refine ⟨_, _, hR.ins hk, o, fun c => ?_⟩
  rw [i c, hI c, nI_toInt ha3, nI_toInt hb3]
  omega
theorem cr_put_uni {n : Nat} {lo hi : Nat → Nat} {f g : Nat → Int32} {S : Nat → Prop} (hR : cr_Rp n lo hi f g) (hO : cr_Ok n lo hi) (hI : ∀ c, cr_In n lo hi c ↔ S c) {k q a b : Nat} (hk : k < q) (hq : q ≤ n) (hab : a ≤ b) (hb : b ≤ 1114111) (hg : b < 55296 ∨ 57344 ≤ a) (h1 : ∀ j, j < k → hi j + 1 < a) (h2 : a ≤ hi k + 1) (h3 : ∀ j, k ≤ j → j < q → lo j ≤ b + 1) (h4 : ∀ j, q ≤ j → j < n → b + 1 < lo j) (ha3 : a < 2 ^ 31) (hb3 : b < 2 ^ 31) :
    cr_Set (k + 1 + (n - q)) (va_cpy (upd f k (nI (min (lo k) a))) (upd f k (nI (min (lo k) a))) q (k + 1) (n - q)) (va_cpy (upd g k (nI (max (hi (q - 1)) b))) (upd g k (nI (max (hi (q - 1)) b))) q (k + 1) (n - q)) (fun c => S c ∨ ((nI a).toInt ≤ (c : Int) ∧ (c : Int) ≤ (nI b).toInt)) := by
  obtain ⟨o, i⟩ := cr_uni hO hk hq hab hb hg h1 h2 h3 h4
  have e : k + 1 + (n - q) = n - (q - (k + 1)) := by omega
  rw [e]
  refine ⟨_, _, hR.uni hk hq, o, fun c => ?_⟩
  rw [i c, hI c, nI_toInt ha3, nI_toInt hb3]
  omega
theorem cr_Hs_in {n : Nat} {lo hi : Nat → Nat} {S : Nat → Prop} (hO : cr_Ok n lo hi) (hI : ∀ c, cr_In n lo hi c ↔ S c) {x : Int32} {k : Nat} (hk : k < n) (h1 : (lo k : Int) ≤ x.toInt) (h2 : x.toInt ≤ hi k) : cr_Hs S x := by
  have a := hO.1 k hk
  obtain ⟨c, hc, rfl⟩ := cr_of (x := x) (by omega)
  rw [nI_toInt hc] at h1 h2
  exact ⟨c, by omega, rfl, (hI c).1 ⟨k, hk, by omega, by omega⟩⟩
theorem cr_Hs_out {n : Nat} {lo hi : Nat → Nat} {S : Nat → Prop} (hO : cr_Ok n lo hi) (hI : ∀ c, cr_In n lo hi c ↔ S c) {x : Int32} {k : Nat} (_hk : k ≤ n) (h1 : ∀ j, j < k → (hi j : Int) < x.toInt) (h2 : k < n → x.toInt < lo k) : ¬ cr_Hs S x := by
  rintro ⟨c, hc, rfl, hs⟩
  obtain ⟨j, hj, a, b⟩ := (hI c).2 hs
  rw [nI_toInt (by omega)] at h1 h2
  rcases Nat.lt_or_ge j k with e | e
  · have := h1 j e
    omega
  · have := h2 (by omega)
    have := (hO.mono e hj).2
    omega
theorem cr_first {n : Nat} {lo hi : Nat → Nat} (hO : cr_Ok n lo hi) {x j k : Nat} (hj : j < n) (h1 : lo j ≤ x) (h2 : x ≤ hi j) (hk : k ≤ n) (hk2 : ∀ i, i < k → (hi i : Int) < x) (hk3 : k < n → (x : Int) ≤ hi k) : k = j := by
  rcases Nat.lt_trichotomy k j with e | e | e
  · have := hk3 (by omega)
    have := hO.lt e hj
    omega
  · exact e
  · have := hk2 j e
    omega
theorem cr_minI (y : Int32) : (if nI 55295 < y then nI 55295 else y).toInt = min y.toInt 55295 := by
  by_cases h : nI 55295 < y
  · rw [if_pos h, nI_toInt (by decide)]
    rw [cr_nlt (by decide)] at h
    omega
  · rw [if_neg h]
    rw [cr_nlt (by decide)] at h
    omega
theorem cr_zb_nar {r : Int32} {P : Prop} (h : cr_zb r P) : narrow .boolean (.int r) = .int r := by
  rcases h with ⟨e, _⟩ | ⟨e, _⟩
  · rw [e]; rfl
  · rw [e]; rfl
/-- what 'range' answers -/
def cr_rng (n : Nat) (f g : Nat → Int32) (k w : Int32) : Int32 := if k < 0 ∨ nI n ≤ k then -1 else if w = 0 then f k.toNatClampNeg else if w = 1 then g k.toNatClampNeg else -1
theorem cr_rng_neg {n : Nat} {f g : Nat → Int32} {k w : Int32} (h : k < 0) : cr_rng n f g k w = -1 := by unfold cr_rng; rw [if_pos (Or.inl h)]
theorem cr_rng_big {n : Nat} {f g : Nat → Int32} {k w : Int32} (h : ¬ k < nI n) : cr_rng n f g k w = -1 := by unfold cr_rng; rw [if_pos (Or.inr (Int32.not_lt.mp h))]
theorem cr_rng_0 {n : Nat} {f g : Nat → Int32} {k w : Int32} (h1 : ¬ k < 0) (h2 : k < nI n) (h3 : ¬ ¬ w = 0) : cr_rng n f g k w = f k.toNatClampNeg := by
  unfold cr_rng
  rw [if_neg (fun h => h.elim h1 (fun q => absurd h2 (Int32.not_lt.mpr q))), if_pos (Classical.not_not.mp h3)]
theorem cr_rng_1 {n : Nat} {f g : Nat → Int32} {k w : Int32} (h1 : ¬ k < 0) (h2 : k < nI n) (h3 : ¬ w = 0) (h4 : ¬ ¬ w = nI 1) : cr_rng n f g k w = g k.toNatClampNeg := by
  unfold cr_rng
  rw [if_neg (fun h => h.elim h1 (fun q => absurd h2 (Int32.not_lt.mpr q))), if_neg h3, if_pos (Classical.not_not.mp h4)]
theorem cr_rng_2 {n : Nat} {f g : Nat → Int32} {k w : Int32} (h1 : ¬ k < 0) (h2 : k < nI n) (h3 : ¬ w = 0) (h4 : ¬ w = nI 1) : cr_rng n f g k w = -1 := by
  unfold cr_rng
  rw [if_neg (fun h => h.elim h1 (fun q => absurd h2 (Int32.not_lt.mpr q))), if_neg h3, if_neg h4]
theorem cr_in_of {k : Int32} {n N : Nat} (h1 : ¬ k < 0) (h2 : k < nI n) (hn : n ≤ N) (hN : N < 2 ^ 31 := by decide) : vp_in k N := by
  rw [vp_in_iff]
  rw [cr_lt0] at h1
  rw [cr_ltn (by omega)] at h2
  omega
/-! PURE: what is alike -/
def cr_sl (c : Nat) : Nat := if (65 ≤ c ∧ c ≤ 90) ∨ (192 ≤ c ∧ c ≤ 222 ∧ c ≠ 215) ∨ (913 ≤ c ∧ c ≤ 937) ∨ (1040 ≤ c ∧ c ≤ 1071) then c + 32 else if 1024 ≤ c ∧ c ≤ 1039 then c + 80 else c
def cr_sw (v : Nat) : Nat := if v = 8490 then 107 else if v = 383 then 115 else if v = 8491 then 229 else if v = 181 then 956 else if v = 962 then 963 else v
/-- which one of the alike ones stands for c -/
def cr_sf (c : Nat) : Nat := cr_sw (cr_sl c)
/-- the other letter -/
def cr_lp (x : Nat) : Nat := if (97 ≤ x ∧ x ≤ 122) ∨ (224 ≤ x ∧ x ≤ 246) ∨ (248 ≤ x ∧ x ≤ 254) ∨ (945 ≤ x ∧ x ≤ 969) ∨ (1072 ≤ x ∧ x ≤ 1103) then x - 32 else if 1104 ≤ x ∧ x ≤ 1119 then x - 80 else cr_sl x
/-- the other one of a pair -/
def cr_pp (x : Nat) : Nat := if x = 962 then 963 else if x = 963 then 962 else if x = 107 then 8490 else if x = 8490 then 107 else if x = 115 then 383 else if x = 383 then 115 else if x = 229 then 8491 else if x = 8491 then 229 else if x = 181 then 956 else if x = 956 then 181 else x
/-- which pair, 5: none -/
def cr_pk (x : Nat) : Nat := if x = 962 ∨ x = 963 then 0 else if x = 107 ∨ x = 8490 then 1 else if x = 115 ∨ x = 383 then 2 else if x = 229 ∨ x = 8491 then 3 else if x = 181 ∨ x = 956 then 4 else 5
def cr_fold (S : Nat → Prop) (c : Nat) : Prop := ∃ d, S d ∧ cr_sf d = cr_sf c
def cr_six (x : Nat) : List Nat := [x, cr_lp x, cr_pp x, cr_lp (cr_pp x), cr_pp (cr_lp x), cr_lp (cr_pp (cr_lp x))]
def cr_cand (v : Nat) : List Nat := [v, v - 32, v - 80, 8490, 8491, 383, 181, 962, 930]
theorem cr_sl_in (c : Nat) : (cr_sl c = c + 32 ∧ ((65 ≤ c ∧ c ≤ 90) ∨ (192 ≤ c ∧ c ≤ 222 ∧ c ≠ 215) ∨ (913 ≤ c ∧ c ≤ 937) ∨ (1040 ≤ c ∧ c ≤ 1071))) ∨ (cr_sl c = c + 80 ∧ 1024 ≤ c ∧ c ≤ 1039) ∨ (cr_sl c = c ∧ ¬ ((65 ≤ c ∧ c ≤ 90) ∨ (192 ≤ c ∧ c ≤ 222 ∧ c ≠ 215) ∨ (913 ≤ c ∧ c ≤ 937) ∨ (1040 ≤ c ∧ c ≤ 1071)) ∧ ¬ (1024 ≤ c ∧ c ≤ 1039)) := by
  unfold cr_sl
  split
  · exact Or.inl ⟨rfl, by assumption⟩
  · split
    · exact Or.inr (Or.inl ⟨rfl, by assumption⟩)
    · exact Or.inr (Or.inr ⟨rfl, by assumption, by assumption⟩)
theorem cr_sw_in (v : Nat) : (v = 8490 ∧ cr_sw v = 107) ∨ (v = 383 ∧ cr_sw v = 115) ∨ (v = 8491 ∧ cr_sw v = 229) ∨ (v = 181 ∧ cr_sw v = 956) ∨ (v = 962 ∧ cr_sw v = 963) ∨ (cr_sw v = v ∧ v ≠ 8490 ∧ v ≠ 383 ∧ v ≠ 8491 ∧ v ≠ 181 ∧ v ≠ 962) := by
  unfold cr_sw
  split
  · omega
  · split
    · omega
    · split
      · omega
      · split
        · omega
        · split <;> omega
theorem cr_cand_of (d : Nat) : d ∈ cr_cand (cr_sf d) := by
  have a := cr_sl_in d
  have b := cr_sw_in (cr_sl d)
  unfold cr_cand cr_sf
  simp only [List.mem_cons, List.not_mem_nil, or_false]
  omega
theorem cr_six_ok : ∀ x, x < 1120 → ∀ d ∈ cr_six x, cr_sf d = cr_sf x := by decide +kernel
theorem cr_six_all : ∀ x, x < 1120 → ∀ d ∈ cr_cand (cr_sf x), cr_sf d = cr_sf x → d ∈ cr_six x := by decide +kernel
theorem cr_six_k : (∀ d ∈ cr_six 8490, cr_sf d = cr_sf 8490) ∧ ∀ d ∈ cr_cand (cr_sf 8490), cr_sf d = cr_sf 8490 → d ∈ cr_six 8490 := by decide +kernel
theorem cr_six_a : (∀ d ∈ cr_six 8491, cr_sf d = cr_sf 8491) ∧ ∀ d ∈ cr_cand (cr_sf 8491), cr_sf d = cr_sf 8491 → d ∈ cr_six 8491 := by decide +kernel
theorem cr_lp_big {x : Nat} (h : 1120 ≤ x) : cr_lp x = x := by
  unfold cr_lp cr_sl
  rw [if_neg (by omega), if_neg (by omega), if_neg (by omega), if_neg (by omega)]
theorem cr_pp_big {x : Nat} (h : 1120 ≤ x) (h1 : x ≠ 8490) (h2 : x ≠ 8491) : cr_pp x = x := by
  unfold cr_pp
  rw [if_neg (by omega), if_neg (by omega), if_neg (by omega), if_neg h1, if_neg (by omega), if_neg (by omega), if_neg (by omega), if_neg h2, if_neg (by omega), if_neg (by omega)]
theorem cr_sf_big {x : Nat} (h : 1120 ≤ x) (h1 : x ≠ 8490) (h2 : x ≠ 8491) : cr_sf x = x ∧ ∀ d, cr_sf d = x → d = x := by
  have key : ∀ d, cr_sf d = x → d = x := fun d hd => by
    have a := cr_sl_in d
    have b := cr_sw_in (cr_sl d)
    unfold cr_sf at hd
    omega
  have a := cr_sl_in x
  have b := cr_sw_in (cr_sl x)
  exact ⟨by unfold cr_sf; omega, key⟩
/-- what is alike to x is one of six -/
theorem cr_fold_six (S : Nat → Prop) (x : Nat) : cr_fold S x ↔ ∃ d ∈ cr_six x, S d := by
  by_cases hx : x < 1120
  · constructor
    · rintro ⟨d, hd, e⟩
      exact ⟨d, cr_six_all x hx d (by rw [← e]; exact cr_cand_of d) e, hd⟩
    · rintro ⟨d, hd, e⟩
      exact ⟨d, e, cr_six_ok x hx d hd⟩
  · by_cases h1 : x = 8490
    · subst h1
      constructor
      · rintro ⟨d, hd, e⟩
        exact ⟨d, cr_six_k.2 d (by rw [← e]; exact cr_cand_of d) e, hd⟩
      · rintro ⟨d, hd, e⟩
        exact ⟨d, e, cr_six_k.1 d hd⟩
    · by_cases h2 : x = 8491
      · subst h2
        constructor
        · rintro ⟨d, hd, e⟩
          exact ⟨d, cr_six_a.2 d (by rw [← e]; exact cr_cand_of d) e, hd⟩
        · rintro ⟨d, hd, e⟩
          exact ⟨d, e, cr_six_a.1 d hd⟩
      · have hb := cr_sf_big (x := x) (by omega) h1 h2
        have h3 : cr_six x = [x, x, x, x, x, x] := by
          unfold cr_six
          rw [cr_lp_big (by omega), cr_pp_big (by omega) h1 h2, cr_lp_big (by omega)]
        rw [h3]
        constructor
        · rintro ⟨d, hd, e⟩
          rw [hb.1] at e
          exact ⟨x, List.mem_cons_self, by rw [← hb.2 d e]; exact hd⟩
        · rintro ⟨d, hd, e⟩
          refine ⟨d, e, ?_⟩
          simp only [List.mem_cons, List.not_mem_nil, or_false, or_self] at hd
          rw [hd]
/-- the class's three turns -/
def cr_L (S : Nat → Prop) (x : Nat) : Prop := S x ∨ S (cr_lp x)
def cr_Q (S : Nat → Prop) (x : Nat) : Prop := S x ∨ S (cr_pp x)
theorem cr_lp_lp : ∀ x, cr_lp (cr_lp x) = x := by
  intro x
  by_cases hx : x < 1120
  · have : ∀ x, x < 1120 → cr_lp (cr_lp x) = x := by decide +kernel
    exact this x hx
  · rw [cr_lp_big (x := x) (by omega), cr_lp_big (by omega)]
theorem cr_LQL (S : Nat → Prop) (x : Nat) : cr_L (cr_Q (cr_L S)) x ↔ cr_fold S x := by
  rw [cr_fold_six]
  unfold cr_L cr_Q cr_six
  rw [cr_lp_lp]
  simp only [List.mem_cons, List.not_mem_nil, or_false, exists_eq_or_imp, exists_eq_left]
  constructor
  · rintro (((h | h) | (h | h)) | ((h | h) | (h | h)))
    all_goals simp [h]
  · rintro (h | h | h | h | h | h)
    all_goals simp [h]
/-- a step of the letters' turn -/
theorem cr_L_step {S T : Nat → Prop} {c b : Nat} (hT : ∀ x, T x ↔ (S x ∨ (cr_sl x < c ∧ S (cr_lp x)))) (h1 : cr_lp c = b) (h2 : cr_lp b = c) (h3 : cr_sl c = c) (h4 : cr_sl b = c) (h5 : ∀ x, cr_sl x = c → x = c ∨ x = b) (x : Nat) :
    (T x ∨ ((x = c ∨ x = b) ∧ (T c ∨ T b))) ↔ (S x ∨ (cr_sl x < c + 1 ∧ S (cr_lp x))) := by
  have tc := hT c
  have tb := hT b
  have tx := hT x
  rw [h3] at tc
  rw [h4] at tb
  have tc' : T c ↔ S c := by rw [tc]; constructor; exact fun h => h.elim id (fun q => absurd q.1 (by omega)); exact Or.inl
  have tb' : T b ↔ S b := by rw [tb]; constructor; exact fun h => h.elim id (fun q => absurd q.1 (by omega)); exact Or.inl
  rw [tc', tb', tx]
  by_cases e : cr_sl x = c
  · rcases h5 x e with q | q
    · subst q
      rw [h1]
      constructor
      · rintro ((h | h) | h)
        · exact Or.inl h
        · exact absurd h.1 (by omega)
        · rcases h.2 with q | q
          · exact Or.inl q
          · exact Or.inr ⟨by omega, q⟩
      · rintro (h | h)
        · exact Or.inl (Or.inl h)
        · exact Or.inr ⟨Or.inl rfl, Or.inr h.2⟩
    · subst q
      rw [h2]
      constructor
      · rintro ((h | h) | h)
        · exact Or.inl h
        · exact absurd h.1 (by omega)
        · rcases h.2 with q | q
          · exact Or.inr ⟨by omega, q⟩
          · exact Or.inl q
      · rintro (h | h)
        · exact Or.inl (Or.inl h)
        · exact Or.inr ⟨Or.inr rfl, Or.inl h.2⟩
  · have n1 : x ≠ c := fun q => e (by rw [q]; exact h3)
    have n2 : x ≠ b := fun q => e (by rw [q]; exact h4)
    constructor
    · rintro ((h | h) | h)
      · exact Or.inl h
      · exact Or.inr ⟨by omega, h.2⟩
      · exact absurd h.1 (by omega)
    · rintro (h | h)
      · exact Or.inl (Or.inl h)
      · exact Or.inl (Or.inr ⟨by omega, h.2⟩)
/-- between two rows of letters nothing has another letter -/
theorem cr_L_hole {S T : Nat → Prop} {c c' : Nat} (hcc : c ≤ c') (hT : ∀ x, T x ↔ (S x ∨ (cr_sl x < c ∧ S (cr_lp x)))) (hh : ∀ x, c ≤ cr_sl x → cr_sl x < c' → cr_lp x = x) (x : Nat) : T x ↔ (S x ∨ (cr_sl x < c' ∧ S (cr_lp x))) := by
  rw [hT x]
  constructor
  · rintro (h | h)
    · exact Or.inl h
    · exact Or.inr ⟨by omega, h.2⟩
  · rintro (h | h)
    · exact Or.inl h
    · by_cases e : cr_sl x < c
      · exact Or.inr ⟨e, h.2⟩
      · have q := hh x (by omega) h.1
        rw [q] at h
        exact Or.inl h.2
/-- letters and what they are alike to -/
def cr_isL (x : Nat) : Prop := (65 ≤ x ∧ x ≤ 90) ∨ (97 ≤ x ∧ x ≤ 122) ∨ x = 181 ∨ (192 ≤ x ∧ x ≤ 214) ∨ (216 ≤ x ∧ x ≤ 222) ∨ (224 ≤ x ∧ x ≤ 246) ∨ (248 ≤ x ∧ x ≤ 254) ∨ x = 383 ∨ (913 ≤ x ∧ x ≤ 937) ∨ (945 ≤ x ∧ x ≤ 969) ∨ (1024 ≤ x ∧ x ≤ 1119) ∨ x = 8490 ∨ x = 8491
def cr_seg (a k : Nat) : List Nat := (List.range k).map (fun i => a + i)
theorem cr_seg_mem {a k x : Nat} : x ∈ cr_seg a k ↔ a ≤ x ∧ x < a + k := by
  unfold cr_seg
  rw [List.mem_map]
  constructor
  · rintro ⟨i, hi, rfl⟩
    rw [List.mem_range] at hi
    omega
  · intro h
    exact ⟨x - a, by rw [List.mem_range]; omega, by omega⟩
def cr_F : List Nat := cr_seg 65 27 ++ (cr_seg 97 27 ++ (cr_seg 181 2 ++ (cr_seg 192 24 ++ (cr_seg 216 8 ++ (cr_seg 224 24 ++ (cr_seg 248 8 ++ (cr_seg 383 2 ++ (cr_seg 913 26 ++ (cr_seg 945 26 ++ (cr_seg 1024 97 ++ cr_seg 8490 3))))))))))
theorem cr_F_len : cr_F.length = 274 := by decide +kernel
theorem cr_F_not {c : Nat} (h : c + 1 ∉ cr_F) : ¬ cr_isL c ∧ ¬ cr_isL (c + 1) := by
  unfold cr_F at h
  simp only [List.mem_append, cr_seg_mem] at h
  unfold cr_isL
  omega
/-- a set that differs from S in letters alone begins and ends where S does, or at a letter -/
theorem cr_Bd.letters {P : List Nat} {S T : Nat → Prop} (h : cr_Bd P S) (hF : ∀ c, c ∈ cr_F → c ∈ P) (hT : ∀ x, ¬ cr_isL x → (T x ↔ S x)) : cr_Bd P T := by
  refine ⟨h.1, fun c hc => ?_⟩
  have a := cr_F_not (c := c) (fun q => hc (hF _ q))
  rw [hT c a.1, hT (c + 1) a.2]
  exact h.2 c hc
theorem cr_sf_not {x : Nat} (h : ¬ cr_isL x) : cr_sf x = x ∧ ∀ d, cr_sf d = x → d = x := by
  unfold cr_isL at h
  refine ⟨?_, fun d hd => ?_⟩
  · have a := cr_sl_in x
    have b := cr_sw_in (cr_sl x)
    unfold cr_sf
    omega
  · have a := cr_sl_in d
    have b := cr_sw_in (cr_sl d)
    unfold cr_sf at hd
    omega
theorem cr_fold_not {S : Nat → Prop} {x : Nat} (h : ¬ cr_isL x) : cr_fold S x ↔ S x := by
  have a := cr_sf_not h
  constructor
  · rintro ⟨d, hd, e⟩
    rw [a.1] at e
    rw [← a.2 d e]
    exact hd
  · intro q
    exact ⟨x, q, rfl⟩
/-! PURE: rows -/
def cr_len (c : Nat) : Nat := if c < 128 then 1 else if c < 2048 then 2 else if c < 65536 then 3 else 4
def cr_lol (L : Nat) : Nat := if L = 1 then 127 else if L = 2 then 2047 else if L = 3 then 65535 else 1114111
theorem cr_len_in (c : Nat) : (cr_len c = 1 ∧ c < 128) ∨ (cr_len c = 2 ∧ 128 ≤ c ∧ c < 2048) ∨ (cr_len c = 3 ∧ 2048 ≤ c ∧ c < 65536) ∨ (cr_len c = 4 ∧ 65536 ≤ c) := by
  unfold cr_len
  split
  · omega
  · split
    · omega
    · split <;> omega
/-- where the run of level t (blocks of B) that begins at c may end at the latest -/
def cr_w (B c lim : Nat) : Nat := min lim (c / (64 * B) * (64 * B) + (64 * B - 1))
/-- behind the last whole block of B -/
def cr_e (B c lim : Nat) : Nat := (cr_w B c lim + 1) / B * B
/-- the last of the row that begins at c in a range that ends at high -/
def cr_last (c high : Nat) : Nat :=
  let lim := min high (cr_lol (cr_len c))
  if cr_len c = 1 then lim
  else if cr_len c = 2 then
    if c % 64 = 0 ∧ c < cr_e 64 c lim then cr_e 64 c lim - 1 else min lim (c / 64 * 64 + 63)
  else if cr_len c = 3 then
    if c % 4096 = 0 ∧ c < cr_e 4096 c lim then cr_e 4096 c lim - 1
    else if c % 64 = 0 ∧ c < cr_e 64 c lim then cr_e 64 c lim - 1 else min lim (c / 64 * 64 + 63)
  else
    if c % 262144 = 0 ∧ c < cr_e 262144 c lim then cr_e 262144 c lim - 1
    else if c % 4096 = 0 ∧ c < cr_e 4096 c lim then cr_e 4096 c lim - 1
    else if c % 64 = 0 ∧ c < cr_e 64 c lim then cr_e 64 c lim - 1 else min lim (c / 64 * 64 + 63)
theorem cr_last1 {c high : Nat} (h : c < 128) : cr_last c high = min high 127 := by
  have e : cr_len c = 1 := by unfold cr_len; rw [if_pos h]
  unfold cr_last
  simp only [e, cr_lol, if_true]
theorem cr_last2 {c high : Nat} (h : 128 ≤ c) (h2 : c < 2048) : cr_last c high = if c % 64 = 0 ∧ c < cr_e 64 c (min high 2047) then cr_e 64 c (min high 2047) - 1 else min (min high 2047) (c / 64 * 64 + 63) := by
  have e : cr_len c = 2 := by unfold cr_len; rw [if_neg (by omega), if_pos h2]
  unfold cr_last
  simp only [e, cr_lol, if_true]
  rfl
theorem cr_last3 {c high : Nat} (h : 2048 ≤ c) (h2 : c < 65536) : cr_last c high = if c % 4096 = 0 ∧ c < cr_e 4096 c (min high 65535) then cr_e 4096 c (min high 65535) - 1 else if c % 64 = 0 ∧ c < cr_e 64 c (min high 65535) then cr_e 64 c (min high 65535) - 1 else min (min high 65535) (c / 64 * 64 + 63) := by
  have e : cr_len c = 3 := by unfold cr_len; rw [if_neg (by omega), if_neg (by omega), if_pos h2]
  unfold cr_last
  simp only [e, cr_lol, if_true]
  rfl
theorem cr_last4 {c high : Nat} (h : 65536 ≤ c) : cr_last c high = if c % 262144 = 0 ∧ c < cr_e 262144 c (min high 1114111) then cr_e 262144 c (min high 1114111) - 1 else if c % 4096 = 0 ∧ c < cr_e 4096 c (min high 1114111) then cr_e 4096 c (min high 1114111) - 1 else if c % 64 = 0 ∧ c < cr_e 64 c (min high 1114111) then cr_e 64 c (min high 1114111) - 1 else min (min high 1114111) (c / 64 * 64 + 63) := by
  have e : cr_len c = 4 := by unfold cr_len; rw [if_neg (by omega), if_neg (by omega), if_neg (by omega)]
  unfold cr_last
  simp only [e, cr_lol, if_true]
  rfl
/-- the bytes of c .. d are all that one row takes: all bytes behind one that varies are whole -/
def cr_row (c d : Nat) : Prop := cr_len c = cr_len d ∧ c ≤ d ∧ d ≤ 1114111 ∧ ((c / 64 = d / 64) ∨ (c % 64 = 0 ∧ (d + 1) % 64 = 0 ∧ c / 4096 = d / 4096) ∨ (c % 4096 = 0 ∧ (d + 1) % 4096 = 0 ∧ c / 262144 = d / 262144) ∨ (c % 262144 = 0 ∧ (d + 1) % 262144 = 0) ∨ cr_len c = 1)
theorem cr_e_eq {B c lim : Nat} : cr_e B c lim = (min lim (c / (64 * B) * (64 * B) + (64 * B - 1)) + 1) / B * B := rfl
theorem cr_e64 (c lim : Nat) : cr_e 64 c lim = (min lim (c / 4096 * 4096 + 4095) + 1) / 64 * 64 := rfl
theorem cr_e4096 (c lim : Nat) : cr_e 4096 c lim = (min lim (c / 262144 * 262144 + 262143) + 1) / 4096 * 4096 := rfl
theorem cr_e262144 (c lim : Nat) : cr_e 262144 c lim = (min lim (c / 16777216 * 16777216 + 16777215) + 1) / 262144 * 262144 := rfl
theorem cr_len_eq1 {c : Nat} (h : c < 128) : cr_len c = 1 := by unfold cr_len; rw [if_pos h]
theorem cr_len_eq2 {c : Nat} (h : 128 ≤ c) (h2 : c < 2048) : cr_len c = 2 := by unfold cr_len; rw [if_neg (by omega), if_pos h2]
theorem cr_len_eq3 {c : Nat} (h : 2048 ≤ c) (h2 : c < 65536) : cr_len c = 3 := by unfold cr_len; rw [if_neg (by omega), if_neg (by omega), if_pos h2]
theorem cr_len_eq4 {c : Nat} (h : 65536 ≤ c) : cr_len c = 4 := by unfold cr_len; rw [if_neg (by omega), if_neg (by omega), if_neg (by omega)]
/-- it lies between c and high, it is a row, and the longest one -/
theorem cr_last_in1 {c high : Nat} (hc : c ≤ high) (hh : high ≤ 1114111) (h : c < 128) : c ≤ cr_last c high ∧ cr_last c high ≤ high ∧ cr_row c (cr_last c high) ∧ ∀ d, cr_row c d → d ≤ high → d ≤ cr_last c high := by
  rw [cr_last1 h]
  refine ⟨by omega, by omega, ⟨?_, by omega, by omega, by rw [cr_len_eq1 h]; exact Or.inr (Or.inr (Or.inr (Or.inr rfl)))⟩, fun d hd hdh => ?_⟩
  · rw [cr_len_eq1 h, cr_len_eq1 (by omega)]
  · have a := hd.1
    rw [cr_len_eq1 h] at a
    have b := cr_len_in d
    omega
theorem cr_last_in2 {c high : Nat} (hc : c ≤ high) (hh : high ≤ 1114111) (h : 128 ≤ c) (h2 : c < 2048) : c ≤ cr_last c high ∧ cr_last c high ≤ high ∧ cr_row c (cr_last c high) ∧ ∀ d, cr_row c d → d ≤ high → d ≤ cr_last c high := by
  have key : c ≤ cr_last c high ∧ cr_last c high ≤ high ∧ cr_last c high < 2048 ∧ ((c / 64 = cr_last c high / 64) ∨ (c % 64 = 0 ∧ (cr_last c high + 1) % 64 = 0)) ∧ ∀ d, c ≤ d → d < 2048 → ((c / 64 = d / 64) ∨ (c % 64 = 0 ∧ (d + 1) % 64 = 0)) → d ≤ high → d ≤ cr_last c high := by
    rw [cr_last2 h h2, cr_e64]
    split <;> refine ⟨by omega, by omega, by omega, by omega, fun d _ _ _ _ => by omega⟩
  obtain ⟨k1, k2, k3, k4, k5⟩ := key
  refine ⟨k1, k2, ⟨?_, k1, by omega, by omega⟩, fun d hd hdh => ?_⟩
  · rw [cr_len_eq2 h h2, cr_len_eq2 (by omega) k3]
  · obtain ⟨a, b, e, f⟩ := hd
    rw [cr_len_eq2 h h2] at a f
    have g := cr_len_in d
    exact k5 d b (by omega) (by omega) hdh
theorem cr_last_in3 {c high : Nat} (hc : c ≤ high) (hh : high ≤ 1114111) (h : 2048 ≤ c) (h2 : c < 65536) : c ≤ cr_last c high ∧ cr_last c high ≤ high ∧ cr_row c (cr_last c high) ∧ ∀ d, cr_row c d → d ≤ high → d ≤ cr_last c high := by
  have key : c ≤ cr_last c high ∧ cr_last c high ≤ high ∧ cr_last c high < 65536 ∧ ((c / 64 = cr_last c high / 64) ∨ (c % 64 = 0 ∧ (cr_last c high + 1) % 64 = 0 ∧ c / 4096 = cr_last c high / 4096) ∨ (c % 4096 = 0 ∧ (cr_last c high + 1) % 4096 = 0)) ∧ ∀ d, c ≤ d → d < 65536 → ((c / 64 = d / 64) ∨ (c % 64 = 0 ∧ (d + 1) % 64 = 0 ∧ c / 4096 = d / 4096) ∨ (c % 4096 = 0 ∧ (d + 1) % 4096 = 0)) → d ≤ high → d ≤ cr_last c high := by
    rw [cr_last3 h h2, cr_e64, cr_e4096]
    split
    · refine ⟨by omega, by omega, by omega, by omega, fun d _ _ _ _ => by omega⟩
    · split <;> refine ⟨by omega, by omega, by omega, by omega, fun d _ _ _ _ => by omega⟩
  obtain ⟨k1, k2, k3, k4, k5⟩ := key
  refine ⟨k1, k2, ⟨?_, k1, by omega, by omega⟩, fun d hd hdh => ?_⟩
  · rw [cr_len_eq3 h h2, cr_len_eq3 (by omega) k3]
  · obtain ⟨a, b, e, f⟩ := hd
    rw [cr_len_eq3 h h2] at a f
    have g := cr_len_in d
    exact k5 d b (by omega) (by omega) hdh
theorem cr_last_in4 {c high : Nat} (hc : c ≤ high) (hh : high ≤ 1114111) (h : 65536 ≤ c) : c ≤ cr_last c high ∧ cr_last c high ≤ high ∧ cr_row c (cr_last c high) ∧ ∀ d, cr_row c d → d ≤ high → d ≤ cr_last c high := by
  have key : c ≤ cr_last c high ∧ cr_last c high ≤ high ∧ ((c / 64 = cr_last c high / 64) ∨ (c % 64 = 0 ∧ (cr_last c high + 1) % 64 = 0 ∧ c / 4096 = cr_last c high / 4096) ∨ (c % 4096 = 0 ∧ (cr_last c high + 1) % 4096 = 0 ∧ c / 262144 = cr_last c high / 262144) ∨ (c % 262144 = 0 ∧ (cr_last c high + 1) % 262144 = 0)) ∧ ∀ d, c ≤ d → ((c / 64 = d / 64) ∨ (c % 64 = 0 ∧ (d + 1) % 64 = 0 ∧ c / 4096 = d / 4096) ∨ (c % 4096 = 0 ∧ (d + 1) % 4096 = 0 ∧ c / 262144 = d / 262144) ∨ (c % 262144 = 0 ∧ (d + 1) % 262144 = 0)) → d ≤ high → d ≤ cr_last c high := by
    rw [cr_last4 h, cr_e64, cr_e4096, cr_e262144]
    split
    · refine ⟨by omega, by omega, by omega, fun d _ _ _ => by omega⟩
    · split
      · refine ⟨by omega, by omega, by omega, fun d _ _ _ => by omega⟩
      · split <;> refine ⟨by omega, by omega, by omega, fun d _ _ _ => by omega⟩
  obtain ⟨k1, k2, k4, k5⟩ := key
  refine ⟨k1, k2, ⟨?_, k1, by omega, by omega⟩, fun d hd hdh => ?_⟩
  · rw [cr_len_eq4 h, cr_len_eq4 (by omega)]
  · obtain ⟨a, b, e, f⟩ := hd
    rw [cr_len_eq4 h] at f
    exact k5 d b (by omega) hdh
theorem cr_last_in {c high : Nat} (hc : c ≤ high) (hh : high ≤ 1114111) : c ≤ cr_last c high ∧ cr_last c high ≤ high ∧ cr_row c (cr_last c high) ∧ ∀ d, cr_row c d → d ≤ high → d ≤ cr_last c high := by
  rcases cr_len_in c with h | h | h | h
  · exact cr_last_in1 hc hh h.2
  · exact cr_last_in2 hc hh h.2.1 h.2.2
  · exact cr_last_in3 hc hh h.2.1 h.2.2
  · exact cr_last_in4 hc hh h.2
/-! how many rows a range has at most -/
def cr_le : Nat → Nat → Nat → Prop
  | 0, c, high => high < c
  | m + 1, c, high => high < c ∨ cr_le m (cr_last c high + 1) high
theorem cr_le_out {m c high : Nat} (h : high < c) : cr_le m c high := by
  cases m with
  | zero => exact h
  | succ m => exact Or.inl h
theorem cr_le_more : ∀ (m k c high : Nat), m ≤ k → cr_le m c high → cr_le k c high := by
  intro m
  induction m with
  | zero => intro k c high _ h; exact cr_le_out h
  | succ m ih =>
    intro k c high hk h
    cases k with
    | zero => omega
    | succ k =>
      rcases h with h | h
      · exact Or.inl h
      · exact Or.inr (ih k _ _ (by omega) h)
/-- rows go up to the end of the length, M more behind it -/
def cr_M (M e high : Nat) : Prop := cr_le M e high
theorem cr_f4_0 {c high : Nat} (hh : high ≤ 1114111) (h : 65536 ≤ c) (ha : c % 64 = 0) (hr : high + 1 - c < 64) : cr_le 1 c high := by
  rcases Nat.lt_or_ge high c with q | q
  · exact Or.inl q
  · refine Or.inr ?_
    show high < _
    rw [cr_last4 h, cr_e64, cr_e4096, cr_e262144]
    split
    · omega
    · split
      · omega
      · split <;> omega
theorem cr_f4_1 {c high : Nat} (hh : high ≤ 1114111) (h : 65536 ≤ c) (ha : c % 4096 = 0) (hr : high + 1 - c < 4096) : cr_le 2 c high := by
  rcases Nat.lt_or_ge high c with q | q
  · exact Or.inl q
  · rcases Nat.lt_or_ge (high + 1 - c) 64 with r | r
    · exact cr_le_more 1 2 _ _ (by omega) (cr_f4_0 hh h (by omega) r)
    · have e : cr_last c high + 1 = (high + 1) / 64 * 64 := by
        rw [cr_last4 h, cr_e64, cr_e4096, cr_e262144]
        split
        · omega
        · split
          · omega
          · split <;> omega
      refine Or.inr ?_
      rw [e]
      exact cr_f4_0 hh (by omega) (by omega) (by omega)
theorem cr_f4_2 {c high : Nat} (hh : high ≤ 1114111) (h : 65536 ≤ c) (ha : c % 262144 = 0) (hr : high + 1 - c < 262144) : cr_le 3 c high := by
  rcases Nat.lt_or_ge high c with q | q
  · exact Or.inl q
  · rcases Nat.lt_or_ge (high + 1 - c) 4096 with r | r
    · exact cr_le_more 2 3 _ _ (by omega) (cr_f4_1 hh h (by omega) r)
    · have e : cr_last c high + 1 = (high + 1) / 4096 * 4096 := by
        rw [cr_last4 h, cr_e64, cr_e4096, cr_e262144]
        split
        · omega
        · split
          · omega
          · split <;> omega
      refine Or.inr ?_
      rw [e]
      exact cr_f4_1 hh (by omega) (by omega) (by omega)
theorem cr_r4_3 {c high : Nat} (hh : high ≤ 1114111) (h : 65536 ≤ c) (ha : c % 262144 = 0) : cr_le 4 c high := by
  rcases Nat.lt_or_ge high c with q | q
  · exact Or.inl q
  · rcases Nat.lt_or_ge (high + 1 - c) 262144 with r | r
    · exact cr_le_more 3 4 _ _ (by omega) (cr_f4_2 hh h (by omega) r)
    · have e : cr_last c high + 1 = (high + 1) / 262144 * 262144 := by
        rw [cr_last4 h, cr_e64, cr_e4096, cr_e262144]
        split
        · omega
        · split
          · omega
          · split <;> omega
      refine Or.inr ?_
      rw [e]
      exact cr_f4_2 hh (by omega) (by omega) (by omega)
theorem cr_r4_2 {c high : Nat} (hh : high ≤ 1114111) (h : 65536 ≤ c) (ha : c % 4096 = 0) : cr_le 5 c high := by
  rcases Nat.lt_or_ge high c with q | q
  · exact Or.inl q
  · by_cases z : c % 262144 = 0
    · exact cr_le_more 4 5 _ _ (by omega) (cr_r4_3 hh h z)
    · rcases Nat.lt_or_ge high (c / 262144 * 262144 + 262143) with r | r
      · rcases Nat.lt_or_ge (high + 1 - c) 4096 with r2 | r2
        · exact cr_le_more 2 5 _ _ (by omega) (cr_f4_1 hh h ha r2)
        · have e : cr_last c high + 1 = (high + 1) / 4096 * 4096 := by
            rw [cr_last4 h, cr_e64, cr_e4096, cr_e262144]
            split
            · omega
            · split
              · omega
              · split <;> omega
          refine Or.inr ?_
          rw [e]
          exact cr_le_more 2 4 _ _ (by omega) (cr_f4_1 hh (by omega) (by omega) (by omega))
      · have e : cr_last c high + 1 = c / 262144 * 262144 + 262144 := by
          rw [cr_last4 h, cr_e64, cr_e4096, cr_e262144]
          split
          · omega
          · split
            · omega
            · split <;> omega
        refine Or.inr ?_
        rw [e]
        exact cr_r4_3 hh (by omega) (by omega)
theorem cr_r4_1 {c high : Nat} (hh : high ≤ 1114111) (h : 65536 ≤ c) (ha : c % 64 = 0) : cr_le 6 c high := by
  rcases Nat.lt_or_ge high c with q | q
  · exact Or.inl q
  · by_cases z : c % 4096 = 0
    · exact cr_le_more 5 6 _ _ (by omega) (cr_r4_2 hh h z)
    · rcases Nat.lt_or_ge high (c / 4096 * 4096 + 4095) with r | r
      · rcases Nat.lt_or_ge (high + 1 - c) 64 with r2 | r2
        · exact cr_le_more 1 6 _ _ (by omega) (cr_f4_0 hh h ha r2)
        · have e : cr_last c high + 1 = (high + 1) / 64 * 64 := by
            rw [cr_last4 h, cr_e64, cr_e4096, cr_e262144]
            split
            · omega
            · split
              · omega
              · split <;> omega
          refine Or.inr ?_
          rw [e]
          exact cr_le_more 1 5 _ _ (by omega) (cr_f4_0 hh (by omega) (by omega) (by omega))
      · have e : cr_last c high + 1 = c / 4096 * 4096 + 4096 := by
          rw [cr_last4 h, cr_e64, cr_e4096, cr_e262144]
          split
          · omega
          · split
            · omega
            · split <;> omega
        refine Or.inr ?_
        rw [e]
        exact cr_r4_2 hh (by omega) (by omega)
theorem cr_r4_0 {c high : Nat} (hh : high ≤ 1114111) (h : 65536 ≤ c) : cr_le 7 c high := by
  rcases Nat.lt_or_ge high c with q | q
  · exact Or.inl q
  · by_cases z : c % 64 = 0
    · exact cr_le_more 6 7 _ _ (by omega) (cr_r4_1 hh h z)
    · rcases Nat.lt_or_ge high (c / 64 * 64 + 63) with r | r
      · have e : cr_last c high + 1 = high + 1 := by
          rw [cr_last4 h, cr_e64, cr_e4096, cr_e262144]
          split
          · omega
          · split
            · omega
            · split <;> omega
        refine Or.inr ?_
        rw [e]
        exact cr_le_out (by omega)
      · have e : cr_last c high + 1 = c / 64 * 64 + 64 := by
          rw [cr_last4 h, cr_e64, cr_e4096, cr_e262144]
          split
          · omega
          · split
            · omega
            · split <;> omega
        refine Or.inr ?_
        rw [e]
        exact cr_r4_1 hh (by omega) (by omega)
/-- three bytes: behind the end of the length, at most 7 more -/
theorem cr_x3 {high : Nat} (hh : high ≤ 1114111) : cr_le 7 (min high 65535 + 1) high := by
  rcases Nat.lt_or_ge high 65536 with q | q
  · exact cr_le_out (by omega)
  · have e : min high 65535 + 1 = 65536 := by omega
    rw [e]
    exact cr_r4_0 hh (by omega)
theorem cr_f3_0 {c high : Nat} (hh : high ≤ 1114111) (h : 2048 ≤ c) (ha : c % 64 = 0) (hc : c ≤ min high 65535 + 1) (hr : min high 65535 + 1 - c < 64) : cr_le 8 c high := by
  rcases Nat.lt_or_ge (min high 65535) c with q | q
  · have e : c = min high 65535 + 1 := by omega
    rw [e]
    exact cr_le_more 7 8 _ _ (by omega) (cr_x3 hh)
  · refine Or.inr ?_
    have e : cr_last c high + 1 = min high 65535 + 1 := by
      rw [cr_last3 h (by omega), cr_e64, cr_e4096]
      split
      · omega
      · split <;> omega
    rw [e]
    exact cr_x3 hh
theorem cr_f3_1 {c high : Nat} (hh : high ≤ 1114111) (h : 2048 ≤ c) (ha : c % 4096 = 0) (hc : c ≤ min high 65535 + 1) (hr : min high 65535 + 1 - c < 4096) : cr_le 9 c high := by
  rcases Nat.lt_or_ge (min high 65535 + 1 - c) 64 with r | r
  · exact cr_le_more 8 9 _ _ (by omega) (cr_f3_0 hh h (by omega) hc r)
  · have e : cr_last c high + 1 = (min high 65535 + 1) / 64 * 64 := by
      rw [cr_last3 h (by omega), cr_e64, cr_e4096]
      split
      · omega
      · split <;> omega
    refine Or.inr ?_
    rw [e]
    exact cr_f3_0 hh (by omega) (by omega) (by omega) (by omega)
theorem cr_r3_2 {c high : Nat} (hh : high ≤ 1114111) (h : 2048 ≤ c) (ha : c % 4096 = 0) (hc : c ≤ min high 65535 + 1) : cr_le 10 c high := by
  rcases Nat.lt_or_ge (min high 65535 + 1 - c) 4096 with r | r
  · exact cr_le_more 9 10 _ _ (by omega) (cr_f3_1 hh h (by omega) hc r)
  · have e : cr_last c high + 1 = (min high 65535 + 1) / 4096 * 4096 := by
      rw [cr_last3 h (by omega), cr_e64, cr_e4096]
      split
      · omega
      · split <;> omega
    refine Or.inr ?_
    rw [e]
    exact cr_f3_1 hh (by omega) (by omega) (by omega) (by omega)
theorem cr_r3_1 {c high : Nat} (hh : high ≤ 1114111) (h : 2048 ≤ c) (ha : c % 64 = 0) (hc : c ≤ min high 65535 + 1) : cr_le 11 c high := by
  by_cases z : c % 4096 = 0
  · exact cr_le_more 10 11 _ _ (by omega) (cr_r3_2 hh h z hc)
  · rcases Nat.lt_or_ge (min high 65535) (c / 4096 * 4096 + 4095) with r | r
    · rcases Nat.lt_or_ge (min high 65535 + 1 - c) 64 with r2 | r2
      · exact cr_le_more 8 11 _ _ (by omega) (cr_f3_0 hh h ha hc r2)
      · have e : cr_last c high + 1 = (min high 65535 + 1) / 64 * 64 := by
          rw [cr_last3 h (by omega), cr_e64, cr_e4096]
          split
          · omega
          · split <;> omega
        refine Or.inr ?_
        rw [e]
        exact cr_le_more 8 10 _ _ (by omega) (cr_f3_0 hh (by omega) (by omega) (by omega) (by omega))
    · have e : cr_last c high + 1 = c / 4096 * 4096 + 4096 := by
        rw [cr_last3 h (by omega), cr_e64, cr_e4096]
        split
        · omega
        · split <;> omega
      refine Or.inr ?_
      rw [e]
      exact cr_r3_2 hh (by omega) (by omega) (by omega)
theorem cr_r3_0 {c high : Nat} (hh : high ≤ 1114111) (h : 2048 ≤ c) (hc : c ≤ min high 65535 + 1) : cr_le 12 c high := by
  by_cases z : c % 64 = 0
  · exact cr_le_more 11 12 _ _ (by omega) (cr_r3_1 hh h z hc)
  · rcases Nat.lt_or_ge (min high 65535) (c / 64 * 64 + 63) with r | r
    · have e : cr_last c high + 1 = min high 65535 + 1 := by
        rw [cr_last3 h (by omega), cr_e64, cr_e4096]
        split
        · omega
        · split <;> omega
      refine Or.inr ?_
      rw [e]
      exact cr_le_more 7 11 _ _ (by omega) (cr_x3 hh)
    · have e : cr_last c high + 1 = c / 64 * 64 + 64 := by
        rw [cr_last3 h (by omega), cr_e64, cr_e4096]
        split
        · omega
        · split <;> omega
      refine Or.inr ?_
      rw [e]
      exact cr_r3_1 hh (by omega) (by omega) (by omega)
/-- two bytes: behind the end of the length, at most 12 more -/
theorem cr_x2 {high : Nat} (hh : high ≤ 1114111) : cr_le 12 (min high 2047 + 1) high := by
  rcases Nat.lt_or_ge high 2048 with q | q
  · exact cr_le_out (by omega)
  · have e : min high 2047 + 1 = 2048 := by omega
    rw [e]
    exact cr_r3_0 hh (by omega) (by omega)
theorem cr_f2_0 {c high : Nat} (hh : high ≤ 1114111) (h : 128 ≤ c) (ha : c % 64 = 0) (hc : c ≤ min high 2047 + 1) (hr : min high 2047 + 1 - c < 64) : cr_le 13 c high := by
  rcases Nat.lt_or_ge (min high 2047) c with q | q
  · have e : c = min high 2047 + 1 := by omega
    rw [e]
    exact cr_le_more 12 13 _ _ (by omega) (cr_x2 hh)
  · refine Or.inr ?_
    have e : cr_last c high + 1 = min high 2047 + 1 := by
      rw [cr_last2 h (by omega), cr_e64]
      split <;> omega
    rw [e]
    exact cr_x2 hh
theorem cr_r2_1 {c high : Nat} (hh : high ≤ 1114111) (h : 128 ≤ c) (ha : c % 64 = 0) (hc : c ≤ min high 2047 + 1) : cr_le 14 c high := by
  rcases Nat.lt_or_ge (min high 2047 + 1 - c) 64 with r | r
  · exact cr_le_more 13 14 _ _ (by omega) (cr_f2_0 hh h (by omega) hc r)
  · have e : cr_last c high + 1 = (min high 2047 + 1) / 64 * 64 := by
      rw [cr_last2 h (by omega), cr_e64]
      split <;> omega
    refine Or.inr ?_
    rw [e]
    exact cr_f2_0 hh (by omega) (by omega) (by omega) (by omega)
theorem cr_r2_0 {c high : Nat} (hh : high ≤ 1114111) (h : 128 ≤ c) (hc : c ≤ min high 2047 + 1) : cr_le 15 c high := by
  by_cases z : c % 64 = 0
  · exact cr_le_more 14 15 _ _ (by omega) (cr_r2_1 hh h z hc)
  · rcases Nat.lt_or_ge (min high 2047) (c / 64 * 64 + 63) with r | r
    · have e : cr_last c high + 1 = min high 2047 + 1 := by
        rw [cr_last2 h (by omega), cr_e64]
        split <;> omega
      refine Or.inr ?_
      rw [e]
      exact cr_le_more 12 14 _ _ (by omega) (cr_x2 hh)
    · have e : cr_last c high + 1 = c / 64 * 64 + 64 := by
        rw [cr_last2 h (by omega), cr_e64]
        split <;> omega
      refine Or.inr ?_
      rw [e]
      exact cr_r2_1 hh (by omega) (by omega) (by omega)
theorem cr_le16 {c high : Nat} (hh : high ≤ 1114111) : cr_le 16 c high := by
  rcases Nat.lt_or_ge high c with q | q
  · exact cr_le_out q
  · rcases cr_len_in c with h | h | h | h
    · refine Or.inr ?_
      rw [cr_last1 h.2]
      rcases Nat.lt_or_ge high 128 with r | r
      · exact cr_le_out (by omega)
      · have e : min high 127 + 1 = 128 := by omega
        rw [e]
        exact cr_r2_0 hh (by omega) (by omega)
    · exact cr_le_more 15 16 _ _ (by omega) (cr_r2_0 hh h.2.1 (by omega))
    · exact cr_le_more 12 16 _ _ (by omega) (cr_r3_0 hh h.2.1 (by omega))
    · exact cr_le_more 7 16 _ _ (by omega) (cr_r4_0 hh h.2)
/-! PURE: bytes, and whether c .. d are one row -/
def cr_by (c i : Nat) : Nat := if i = 0 then (if c < 128 then c else if c < 2048 then 192 + c / 64 else if c < 65536 then 224 + c / 4096 else 240 + c / 262144) else 128 + c / 64 ^ (cr_len c - 1 - i) % 64
/-- the first i bytes are the same -/
def cr_sm (c d : Nat) : Nat → Bool
  | 0 => true
  | i + 1 => cr_sm c d i && (cr_by c i == cr_by d i)
def cr_fr (c d i : Nat) : Nat := if cr_sm c d i then cr_by c i else 128
def cr_to (c d i : Nat) : Nat := if cr_sm c d i then cr_by d i else 191
def cr_all (c d : Nat) : Nat → Nat
  | 0 => 1
  | i + 1 => cr_all c d i * (cr_to c d i - cr_fr c d i + 1)
theorem cr_by1 {c : Nat} (h : c < 128) : cr_by c 0 = c := by unfold cr_by; rw [if_pos rfl, if_pos h]
theorem cr_by2 {c : Nat} (h : 128 ≤ c) (h2 : c < 2048) : cr_by c 0 = 192 + c / 64 ∧ cr_by c 1 = 128 + c % 64 := by
  have e := cr_len_eq2 h h2
  unfold cr_by
  rw [if_pos rfl, if_neg (by omega), if_pos h2, e]
  exact ⟨rfl, by simp⟩
theorem cr_by3 {c : Nat} (h : 2048 ≤ c) (h2 : c < 65536) : cr_by c 0 = 224 + c / 4096 ∧ cr_by c 1 = 128 + c / 64 % 64 ∧ cr_by c 2 = 128 + c % 64 := by
  have e := cr_len_eq3 h h2
  unfold cr_by
  rw [if_pos rfl, if_neg (by omega), if_neg (by omega), if_pos h2, e]
  exact ⟨rfl, by simp, by simp⟩
theorem cr_by4 {c : Nat} (h : 65536 ≤ c) : cr_by c 0 = 240 + c / 262144 ∧ cr_by c 1 = 128 + c / 4096 % 64 ∧ cr_by c 2 = 128 + c / 64 % 64 ∧ cr_by c 3 = 128 + c % 64 := by
  have e := cr_len_eq4 h
  unfold cr_by
  rw [if_pos rfl, if_neg (by omega), if_neg (by omega), if_neg (by omega), e]
  exact ⟨rfl, by simp, by simp, by simp⟩
/-- bytes of two characters of one length: the later one has the greater byte where they first differ; and the count tells whether they are one row -/
def cr_good (c d L : Nat) : Prop := (∀ i, i < L → cr_fr c d i ≤ cr_to c d i ∧ cr_to c d i ≤ 255) ∧ (cr_all c d L = d - c + 1 ↔ cr_row c d) ∧ (cr_row c d → ∀ i, i < L → cr_fr c d i = cr_by c i ∧ cr_to c d i = cr_by d i)
theorem cr_good1 {c d : Nat} (h : c ≤ d) (hd : d < 128) : cr_good c d 1 := by
  have a := cr_by1 (c := c) (by omega)
  have b := cr_by1 hd
  refine ⟨fun i hi => ?_, ?_, fun _ i hi => ?_⟩
  · have : i = 0 := by omega
    subst this
    simp only [cr_fr, cr_to, cr_sm, if_true, a, b]
    omega
  · simp only [cr_all, cr_fr, cr_to, cr_sm, if_true, a, b, Nat.one_mul]
    constructor
    · intro _
      exact ⟨by rw [cr_len_eq1 (by omega), cr_len_eq1 hd], h, by omega, Or.inr (Or.inr (Or.inr (Or.inr (cr_len_eq1 (by omega)))))⟩
    · intro _
      trivial
  · have : i = 0 := by omega
    subst this
    simp [cr_fr, cr_to, cr_sm]
theorem cr_good2 {c d : Nat} (h : c ≤ d) (hc : 128 ≤ c) (hd : d < 2048) : cr_good c d 2 := by
  obtain ⟨a0, a1⟩ := cr_by2 hc (show c < 2048 by omega)
  obtain ⟨b0, b1⟩ := cr_by2 (show 128 ≤ d by omega) hd
  have hl : cr_len c = cr_len d := by rw [cr_len_eq2 hc (by omega), cr_len_eq2 (by omega) hd]
  have hr : cr_row c d ↔ ((c / 64 = d / 64) ∨ (c % 64 = 0 ∧ (d + 1) % 64 = 0)) := by
    unfold cr_row
    rw [cr_len_eq2 hc (by omega), cr_len_eq2 (by omega) hd]
    omega
  unfold cr_good
  rw [hr]
  by_cases e0 : c / 64 = d / 64
  · have s1 : cr_sm c d 1 = true := by simp [cr_sm, a0, b0, e0]
    have s0 : cr_sm c d 0 = true := rfl
    refine ⟨fun i hi => ?_, ?_, fun _ i hi => ?_⟩
    · rcases (show i = 0 ∨ i = 1 by omega) with q | q <;> subst q <;> simp only [cr_fr, cr_to, s0, s1, if_true, a0, a1, b0, b1] <;> omega
    · simp only [cr_all, cr_fr, cr_to, s0, s1, if_true, a0, a1, b0, b1]
      rw [e0]
      have : 192 + d / 64 - (192 + d / 64) + 1 = 1 := by omega
      rw [this]
      omega
    · rcases (show i = 0 ∨ i = 1 by omega) with q | q <;> subst q <;> simp only [cr_fr, cr_to, s0, s1, if_true] <;> exact ⟨trivial, trivial⟩
  · have s1 : cr_sm c d 1 = false := by simp [cr_sm, a0, b0, e0]
    have s0 : cr_sm c d 0 = true := rfl
    refine ⟨fun i hi => ?_, ?_, fun hq i hi => ?_⟩
    · rcases (show i = 0 ∨ i = 1 by omega) with q | q <;> subst q <;> simp only [cr_fr, cr_to, s0, s1, if_true, a0, a1, b0, b1] <;> simp <;> omega
    · simp only [cr_all, cr_fr, cr_to, s0, s1, if_true, a0, a1, b0, b1]
      simp
      omega
    · rcases (show i = 0 ∨ i = 1 by omega) with q | q
      · subst q; simp [cr_fr, cr_to, s0]
      · subst q
        simp only [cr_fr, cr_to, s1, a1, b1]
        simp
        omega
theorem cr_good3 {c d : Nat} (h : c ≤ d) (hc : 2048 ≤ c) (hd : d < 65536) : cr_good c d 3 := by
  obtain ⟨a0, a1, a2⟩ := cr_by3 hc (show c < 65536 by omega)
  obtain ⟨b0, b1, b2⟩ := cr_by3 (show 2048 ≤ d by omega) hd
  have hr : cr_row c d ↔ ((c / 64 = d / 64) ∨ (c % 64 = 0 ∧ (d + 1) % 64 = 0 ∧ c / 4096 = d / 4096) ∨ (c % 4096 = 0 ∧ (d + 1) % 4096 = 0)) := by
    unfold cr_row
    rw [cr_len_eq3 hc (by omega), cr_len_eq3 (by omega) hd]
    omega
  unfold cr_good
  rw [hr]
  by_cases e0 : c / 4096 = d / 4096
  · by_cases e1 : c / 64 % 64 = d / 64 % 64
    · have s0 : cr_sm c d 0 = true := rfl
      have s1 : cr_sm c d 1 = true := by simp [cr_sm, a0, a1, a2, b0, b1, b2, e0]
      have s2 : cr_sm c d 2 = true := by simp [cr_sm, a0, a1, a2, b0, b1, b2, e0, e1]
      refine ⟨fun i hi => ?_, ?_, fun hq i hi => ?_⟩
      · rcases (show i = 0 ∨ i = 1 ∨ i = 2 by omega) with q | q | q <;> subst q <;> simp only [cr_fr, cr_to, s0, s1, s2, if_true, a0, a1, a2, b0, b1, b2, Bool.false_eq_true, if_false] <;> omega
      · simp only [cr_all, cr_fr, cr_to, s0, s1, s2, if_true, a0, a1, a2, b0, b1, b2, Bool.false_eq_true, if_false]
        have z0 : 224 + d / 4096 - (224 + c / 4096) + 1 = 1 := by omega
        rw [z0]
        have z1 : 128 + d / 64 % 64 - (128 + c / 64 % 64) + 1 = 1 := by omega
        rw [z1]
        omega
      · rcases (show i = 0 ∨ i = 1 ∨ i = 2 by omega) with q | q | q <;> subst q <;> simp only [cr_fr, cr_to, s0, s1, s2, if_true, a0, a1, a2, b0, b1, b2, Bool.false_eq_true, if_false] <;> omega
    · have s0 : cr_sm c d 0 = true := rfl
      have s1 : cr_sm c d 1 = true := by simp [cr_sm, a0, a1, a2, b0, b1, b2, e0]
      have s2 : cr_sm c d 2 = false := by simp [cr_sm, a0, a1, a2, b0, b1, b2, e0, e1]
      refine ⟨fun i hi => ?_, ?_, fun hq i hi => ?_⟩
      · rcases (show i = 0 ∨ i = 1 ∨ i = 2 by omega) with q | q | q <;> subst q <;> simp only [cr_fr, cr_to, s0, s1, s2, if_true, a0, a1, a2, b0, b1, b2, Bool.false_eq_true, if_false] <;> omega
      · simp only [cr_all, cr_fr, cr_to, s0, s1, s2, if_true, a0, a1, a2, b0, b1, b2, Bool.false_eq_true, if_false]
        have z0 : 224 + d / 4096 - (224 + c / 4096) + 1 = 1 := by omega
        rw [z0]
        omega
      · rcases (show i = 0 ∨ i = 1 ∨ i = 2 by omega) with q | q | q <;> subst q <;> simp only [cr_fr, cr_to, s0, s1, s2, if_true, a0, a1, a2, b0, b1, b2, Bool.false_eq_true, if_false] <;> omega
  · have s0 : cr_sm c d 0 = true := rfl
    have s1 : cr_sm c d 1 = false := by simp [cr_sm, a0, a1, a2, b0, b1, b2, e0]
    have s2 : cr_sm c d 2 = false := by simp [cr_sm, a0, a1, a2, b0, b1, b2, e0]
    refine ⟨fun i hi => ?_, ?_, fun hq i hi => ?_⟩
    · rcases (show i = 0 ∨ i = 1 ∨ i = 2 by omega) with q | q | q <;> subst q <;> simp only [cr_fr, cr_to, s0, s1, s2, if_true, a0, a1, a2, b0, b1, b2, Bool.false_eq_true, if_false] <;> omega
    · simp only [cr_all, cr_fr, cr_to, s0, s1, s2, if_true, a0, a1, a2, b0, b1, b2, Bool.false_eq_true, if_false]
      omega
    · rcases (show i = 0 ∨ i = 1 ∨ i = 2 by omega) with q | q | q <;> subst q <;> simp only [cr_fr, cr_to, s0, s1, s2, if_true, a0, a1, a2, b0, b1, b2, Bool.false_eq_true, if_false] <;> omega
theorem cr_good4 {c d : Nat} (h : c ≤ d) (hc : 65536 ≤ c) (hd : d ≤ 1114111) : cr_good c d 4 := by
  obtain ⟨a0, a1, a2, a3⟩ := cr_by4 hc
  obtain ⟨b0, b1, b2, b3⟩ := cr_by4 (show 65536 ≤ d by omega)
  have hr : cr_row c d ↔ ((c / 64 = d / 64) ∨ (c % 64 = 0 ∧ (d + 1) % 64 = 0 ∧ c / 4096 = d / 4096) ∨ (c % 4096 = 0 ∧ (d + 1) % 4096 = 0 ∧ c / 262144 = d / 262144) ∨ (c % 262144 = 0 ∧ (d + 1) % 262144 = 0)) := by
    unfold cr_row
    rw [cr_len_eq4 hc, cr_len_eq4 (by omega)]
    omega
  unfold cr_good
  rw [hr]
  by_cases e0 : c / 262144 = d / 262144
  · by_cases e1 : c / 4096 % 64 = d / 4096 % 64
    · by_cases e2 : c / 64 % 64 = d / 64 % 64
      · have s0 : cr_sm c d 0 = true := rfl
        have s1 : cr_sm c d 1 = true := by simp [cr_sm, a0, a1, a2, a3, b0, b1, b2, b3, e0]
        have s2 : cr_sm c d 2 = true := by simp [cr_sm, a0, a1, a2, a3, b0, b1, b2, b3, e0, e1]
        have s3 : cr_sm c d 3 = true := by simp [cr_sm, a0, a1, a2, a3, b0, b1, b2, b3, e0, e1, e2]
        refine ⟨fun i hi => ?_, ?_, fun hq i hi => ?_⟩
        · rcases (show i = 0 ∨ i = 1 ∨ i = 2 ∨ i = 3 by omega) with q | q | q | q <;> subst q <;> simp only [cr_fr, cr_to, s0, s1, s2, s3, if_true, a0, a1, a2, a3, b0, b1, b2, b3, Bool.false_eq_true, if_false] <;> omega
        · simp only [cr_all, cr_fr, cr_to, s0, s1, s2, s3, if_true, a0, a1, a2, a3, b0, b1, b2, b3, Bool.false_eq_true, if_false]
          have z0 : 240 + d / 262144 - (240 + c / 262144) + 1 = 1 := by omega
          rw [z0]
          have z1 : 128 + d / 4096 % 64 - (128 + c / 4096 % 64) + 1 = 1 := by omega
          rw [z1]
          have z2 : 128 + d / 64 % 64 - (128 + c / 64 % 64) + 1 = 1 := by omega
          rw [z2]
          omega
        · rcases (show i = 0 ∨ i = 1 ∨ i = 2 ∨ i = 3 by omega) with q | q | q | q <;> subst q <;> simp only [cr_fr, cr_to, s0, s1, s2, s3, if_true, a0, a1, a2, a3, b0, b1, b2, b3, Bool.false_eq_true, if_false] <;> omega
      · have s0 : cr_sm c d 0 = true := rfl
        have s1 : cr_sm c d 1 = true := by simp [cr_sm, a0, a1, a2, a3, b0, b1, b2, b3, e0]
        have s2 : cr_sm c d 2 = true := by simp [cr_sm, a0, a1, a2, a3, b0, b1, b2, b3, e0, e1]
        have s3 : cr_sm c d 3 = false := by simp [cr_sm, a0, a1, a2, a3, b0, b1, b2, b3, e0, e1, e2]
        refine ⟨fun i hi => ?_, ?_, fun hq i hi => ?_⟩
        · rcases (show i = 0 ∨ i = 1 ∨ i = 2 ∨ i = 3 by omega) with q | q | q | q <;> subst q <;> simp only [cr_fr, cr_to, s0, s1, s2, s3, if_true, a0, a1, a2, a3, b0, b1, b2, b3, Bool.false_eq_true, if_false] <;> omega
        · simp only [cr_all, cr_fr, cr_to, s0, s1, s2, s3, if_true, a0, a1, a2, a3, b0, b1, b2, b3, Bool.false_eq_true, if_false]
          have z0 : 240 + d / 262144 - (240 + c / 262144) + 1 = 1 := by omega
          rw [z0]
          have z1 : 128 + d / 4096 % 64 - (128 + c / 4096 % 64) + 1 = 1 := by omega
          rw [z1]
          omega
        · rcases (show i = 0 ∨ i = 1 ∨ i = 2 ∨ i = 3 by omega) with q | q | q | q <;> subst q <;> simp only [cr_fr, cr_to, s0, s1, s2, s3, if_true, a0, a1, a2, a3, b0, b1, b2, b3, Bool.false_eq_true, if_false] <;> omega
    · have s0 : cr_sm c d 0 = true := rfl
      have s1 : cr_sm c d 1 = true := by simp [cr_sm, a0, a1, a2, a3, b0, b1, b2, b3, e0]
      have s2 : cr_sm c d 2 = false := by simp [cr_sm, a0, a1, a2, a3, b0, b1, b2, b3, e0, e1]
      have s3 : cr_sm c d 3 = false := by simp [cr_sm, a0, a1, a2, a3, b0, b1, b2, b3, e0, e1]
      refine ⟨fun i hi => ?_, ?_, fun hq i hi => ?_⟩
      · rcases (show i = 0 ∨ i = 1 ∨ i = 2 ∨ i = 3 by omega) with q | q | q | q <;> subst q <;> simp only [cr_fr, cr_to, s0, s1, s2, s3, if_true, a0, a1, a2, a3, b0, b1, b2, b3, Bool.false_eq_true, if_false] <;> omega
      · simp only [cr_all, cr_fr, cr_to, s0, s1, s2, s3, if_true, a0, a1, a2, a3, b0, b1, b2, b3, Bool.false_eq_true, if_false]
        have z0 : 240 + d / 262144 - (240 + c / 262144) + 1 = 1 := by omega
        rw [z0]
        omega
      · rcases (show i = 0 ∨ i = 1 ∨ i = 2 ∨ i = 3 by omega) with q | q | q | q <;> subst q <;> simp only [cr_fr, cr_to, s0, s1, s2, s3, if_true, a0, a1, a2, a3, b0, b1, b2, b3, Bool.false_eq_true, if_false] <;> omega
  · have s0 : cr_sm c d 0 = true := rfl
    have s1 : cr_sm c d 1 = false := by simp [cr_sm, a0, a1, a2, a3, b0, b1, b2, b3, e0]
    have s2 : cr_sm c d 2 = false := by simp [cr_sm, a0, a1, a2, a3, b0, b1, b2, b3, e0]
    have s3 : cr_sm c d 3 = false := by simp [cr_sm, a0, a1, a2, a3, b0, b1, b2, b3, e0]
    refine ⟨fun i hi => ?_, ?_, fun hq i hi => ?_⟩
    · rcases (show i = 0 ∨ i = 1 ∨ i = 2 ∨ i = 3 by omega) with q | q | q | q <;> subst q <;> simp only [cr_fr, cr_to, s0, s1, s2, s3, if_true, a0, a1, a2, a3, b0, b1, b2, b3, Bool.false_eq_true, if_false] <;> omega
    · simp only [cr_all, cr_fr, cr_to, s0, s1, s2, s3, if_true, a0, a1, a2, a3, b0, b1, b2, b3, Bool.false_eq_true, if_false]
      omega
    · rcases (show i = 0 ∨ i = 1 ∨ i = 2 ∨ i = 3 by omega) with q | q | q | q <;> subst q <;> simp only [cr_fr, cr_to, s0, s1, s2, s3, if_true, a0, a1, a2, a3, b0, b1, b2, b3, Bool.false_eq_true, if_false] <;> omega
theorem cr_good_of {c d : Nat} (h : c ≤ d) (hd : d ≤ 1114111) (hl : cr_len c = cr_len d) : cr_good c d (cr_len c) := by
  rcases cr_len_in c with q | q | q | q <;> rcases cr_len_in d with r | r | r | r <;> first | (exfalso; omega) | (rw [q.1]; first | exact cr_good1 h (by omega) | exact cr_good2 h (by omega) (by omega) | exact cr_good3 h (by omega) (by omega) | exact cr_good4 h (by omega) hd)
/-! PURE: how many rows, where they begin, bytes of an int -/
def cr_nr : Nat → Nat → Nat → Nat
  | 0, _, _ => 0
  | m + 1, c, h => if c ≤ h then 1 + cr_nr m (cr_last c h + 1) h else 0
def cr_N (c h : Nat) : Nat := cr_nr 16 c h
/-- where row k begins -/
def cr_go : Nat → Nat → Nat → Nat
  | 0, c, _ => c
  | k + 1, c, h => cr_last (cr_go k c h) h + 1
theorem cr_go_succ (k c h : Nat) : cr_go (k + 1) c h = cr_last (cr_go k c h) h + 1 := rfl
theorem cr_go_next : ∀ (k c h : Nat), cr_go (k + 1) c h = cr_go k (cr_last c h + 1) h := by
  intro k
  induction k with
  | zero => intro c h; rfl
  | succ k ih =>
    intro c h
    rw [cr_go_succ, ih, ← cr_go_succ]
theorem cr_nr_out {m d h : Nat} (hd : h < d) : cr_nr m d h = 0 := by
  cases m with
  | zero => rfl
  | succ m => unfold cr_nr; rw [if_neg (by omega)]
theorem cr_nr_in {m d h : Nat} (hd : d ≤ h) : cr_nr (m + 1) d h = 1 + cr_nr m (cr_last d h + 1) h := by
  rw [cr_nr, if_pos hd]
theorem cr_nr_step {k d h : Nat} (hk : k < 16) (hd : d ≤ h) : k + 1 + cr_nr (16 - (k + 1)) (cr_last d h + 1) h = k + cr_nr (16 - k) d h := by
  have e : 16 - k = 16 - (k + 1) + 1 := by omega
  rw [e, cr_nr_in hd]
  omega
theorem cr_go_in : ∀ {m k c h : Nat}, k < cr_nr m c h → cr_go k c h ≤ h := by
  intro m
  induction m with
  | zero => intro k c h hk; exact absurd hk (Nat.not_lt_zero _)
  | succ m ih =>
    intro k c h hk
    rcases Nat.lt_or_ge h c with q | q
    · rw [cr_nr_out q] at hk
      exact absurd hk (Nat.not_lt_zero _)
    · rw [cr_nr_in q] at hk
      cases k with
      | zero => exact q
      | succ k =>
        rw [cr_go_next]
        exact ih (by omega)
/-- behind all of its rows the range is at its end -/
theorem cr_go_end : ∀ {m c h : Nat}, cr_le m c h → h < cr_go (cr_nr m c h) c h := by
  intro m
  induction m with
  | zero => intro c h hl; exact hl
  | succ m ih =>
    intro c h hl
    rcases Nat.lt_or_ge h c with q | q
    · rw [cr_nr_out q]
      exact q
    · rw [cr_nr_in q, Nat.add_comm, cr_go_next]
      rcases hl with hl | hl
      · omega
      · exact ih hl
theorem cr_N_end {c h : Nat} (hh : h ≤ 1114111) : h < cr_go (cr_N c h) c h := cr_go_end (cr_le16 hh)
theorem cr_N_in {k c h : Nat} (hk : k < cr_N c h) : cr_go k c h ≤ h := cr_go_in hk
theorem cr_nr_le : ∀ (m c h : Nat), cr_nr m c h ≤ m := by
  intro m
  induction m with
  | zero => intro c h; exact Nat.le_refl _
  | succ m ih =>
    intro c h
    have := ih (cr_last c h + 1) h
    rw [cr_nr]
    split <;> omega
theorem cr_N_le (c h : Nat) : cr_N c h ≤ 16 := cr_nr_le 16 c h
/-- rows ahead of range j -/
def cr_tot (lo hi : Nat → Nat) : Nat → Nat
  | 0 => 0
  | j + 1 => cr_tot lo hi j + cr_N (lo j) (hi j)
theorem cr_tot_le (lo hi : Nat → Nat) : ∀ j, cr_tot lo hi j ≤ 16 * j := by
  intro j
  induction j with
  | zero => exact Nat.le_refl _
  | succ j ih =>
    have := cr_N_le (lo j) (hi j)
    show cr_tot lo hi j + cr_N (lo j) (hi j) ≤ _
    omega
theorem cr_tot_mono (lo hi : Nat → Nat) {i j : Nat} (h : i ≤ j) : cr_tot lo hi i ≤ cr_tot lo hi j := by
  induction h with
  | refl => exact Nat.le_refl _
  | step _ ih => exact Nat.le_trans ih (Nat.le_add_right _ _)
def cr_lm (L : Nat) : Nat := if L = 2 then 192 else if L = 3 then 224 else 240
theorem cr_or128 {x : Nat} (h : x < 64) : nI 128 ||| nI x = nI (128 + x) := by
  rw [cr_or, show (128 : Nat) = 2 ^ 6 * 2 by decide, cr_orl 6 2 x h]
theorem cr_orlead2 {x : Nat} (h : x < 64) : nI (cr_lm 2) ||| nI x = nI (192 + x) := by
  rw [cr_or, show cr_lm 2 = 2 ^ 6 * 3 by decide, cr_orl 6 3 x h]
theorem cr_orlead3 {x : Nat} (h : x < 32) : nI (cr_lm 3) ||| nI x = nI (224 + x) := by
  rw [cr_or, show cr_lm 3 = 2 ^ 5 * 7 by decide, cr_orl 5 7 x h]
theorem cr_orlead4 {x : Nat} (h : x < 16) : nI (cr_lm 4) ||| nI x = nI (240 + x) := by
  rw [cr_or, show cr_lm 4 = 2 ^ 4 * 15 by decide, cr_orl 4 15 x h]
theorem cr_or6 {c x : Nat} (h : x < 64) : nI (c * 64) ||| nI x = nI (c * 64 + x) := by
  rw [cr_or, show c * 64 = 2 ^ 6 * c by omega, cr_orl 6 c x h]
/-- byte i (1: the highest) of an int -/
def cr_ba (x : Int32) (i : Nat) : Nat := x.toBitVec.toNat / 2 ^ (32 - 8 * i) % 2 ^ 8
theorem cr_ba_lt (x : Int32) (i : Nat) : cr_ba x i < 256 := Nat.mod_lt _ (by decide)
def cr_dec (x : Int32) (n : Nat) : Nat := if n = 1 then cr_ba x 1 else if n = 2 then cr_ba x 1 % 32 * 64 + cr_ba x 2 % 64 else if n = 3 then (cr_ba x 1 % 16 * 64 + cr_ba x 2 % 64) * 64 + cr_ba x 3 % 64 else ((cr_ba x 1 % 8 * 64 + cr_ba x 2 % 64) * 64 + cr_ba x 3 % 64) * 64 + cr_ba x 4 % 64
theorem cr_by_lt (c i : Nat) (hc : c ≤ 1114111) : cr_by c i < 256 := by
  unfold cr_by
  split
  · split
    · omega
    · split
      · omega
      · split <;> omega
  · omega
theorem cr_starts {c : Nat} {x : Int32} {i : Nat} (h1 : 1 ≤ i) (h : ∀ j, j + 1 < i → cr_by c j = cr_ba x (j + 1)) (he : cr_by c (i - 1) = cr_ba x i) : ∀ j, j + 1 < i + 1 → cr_by c j = cr_ba x (j + 1) := by
  intro j hj
  rcases Nat.lt_or_ge (j + 1) i with q | q
  · exact h j q
  · have e : j = i - 1 := by omega
    have e2 : j + 1 = i := by omega
    rw [e2, e]
    exact he
/-! PURE: steps of the class's methods on sets -/
theorem cr_Hs_nI {S : Nat → Prop} {c : Nat} (h : c ≤ 1114111) : cr_Hs S (nI c) ↔ S c := by
  constructor
  · rintro ⟨d, hd, e, hs⟩
    rw [nI_eq (by omega) (by omega)] at e
    rw [e]
    exact hs
  · intro hs
    exact ⟨c, h, rfl, hs⟩
theorem cr_two_11 {S : Nat → Prop} {p q : Nat} (h1 : S p) (h2 : S q) (c : Nat) : S c ↔ (S c ∨ ((c = p ∨ c = q) ∧ (S p ∨ S q))) := by
  constructor
  · exact Or.inl
  · rintro (h | ⟨e | e, _⟩)
    · exact h
    · rw [e]; exact h1
    · rw [e]; exact h2
theorem cr_two_00 {S : Nat → Prop} {p q : Nat} (h1 : ¬ S p) (h2 : ¬ S q) (c : Nat) : S c ↔ (S c ∨ ((c = p ∨ c = q) ∧ (S p ∨ S q))) := by
  constructor
  · exact Or.inl
  · rintro (h | ⟨_, e | e⟩)
    · exact h
    · exact absurd e h1
    · exact absurd e h2
theorem cr_two_10 {S : Nat → Prop} {p q : Nat} (h1 : S p) (_h2 : ¬ S q) (hq : q < 2 ^ 31) (c : Nat) : (S c ∨ ((nI q).toInt ≤ (c : Int) ∧ (c : Int) ≤ (nI q).toInt)) ↔ (S c ∨ ((c = p ∨ c = q) ∧ (S p ∨ S q))) := by
  rw [nI_toInt hq]
  constructor
  · rintro (h | h)
    · exact Or.inl h
    · exact Or.inr ⟨Or.inr (by omega), Or.inl h1⟩
  · rintro (h | ⟨e | e, _⟩)
    · exact Or.inl h
    · rw [e]; exact Or.inl h1
    · exact Or.inr (by omega)
theorem cr_two_01 {S : Nat → Prop} {p q : Nat} (_h1 : ¬ S p) (h2 : S q) (hp : p < 2 ^ 31) (c : Nat) : (S c ∨ ((nI p).toInt ≤ (c : Int) ∧ (c : Int) ≤ (nI p).toInt)) ↔ (S c ∨ ((c = p ∨ c = q) ∧ (S p ∨ S q))) := by
  rw [nI_toInt hp]
  constructor
  · rintro (h | h)
    · exact Or.inl h
    · exact Or.inr ⟨Or.inl (by omega), Or.inr h2⟩
  · rintro (h | ⟨e | e, _⟩)
    · exact Or.inl h
    · exact Or.inr (by omega)
    · rw [e]; exact Or.inl h2
theorem cr_In_zero {S : Nat → Prop} {lo hi : Nat → Nat} {c : Nat} : S c ↔ (S c ∨ cr_In 0 lo hi c) := by
  constructor
  · exact Or.inl
  · rintro (h | ⟨j, hj, _⟩)
    · exact h
    · exact absurd hj (Nat.not_lt_zero _)
/-- behind the first k ranges -/
def cr_fm (hi : Nat → Nat) (k : Nat) : Nat := if k = 0 then 0 else hi (k - 1) + 1
theorem cr_fm_succ (hi : Nat → Nat) (k : Nat) : cr_fm hi (k + 1) = hi k + 1 := by
  unfold cr_fm
  rw [if_neg (by omega)]
  rfl
theorem cr_In_below {n : Nat} {lo hi : Nat → Nat} (hO : cr_Ok n lo hi) {k : Nat} (hk : k ≤ n) (c : Nat) : cr_In k lo hi c ↔ (cr_In n lo hi c ∧ c < cr_fm hi k) := by
  unfold cr_fm
  constructor
  · rintro ⟨j, hj, a, b⟩
    refine ⟨⟨j, by omega, a, b⟩, ?_⟩
    rw [if_neg (by omega)]
    have := (hO.mono (show j ≤ k - 1 by omega) (by omega)).1
    omega
  · rintro ⟨⟨j, hj, a, b⟩, h⟩
    rcases Nat.eq_zero_or_pos k with e | e
    · rw [if_pos e] at h
      exact absurd h (Nat.not_lt_zero _)
    · rw [if_neg (by omega)] at h
      refine ⟨j, ?_, a, b⟩
      rcases Nat.lt_or_ge j k with q | q
      · exact q
      · have := hO.lt (show k - 1 < j by omega) hj
        omega
theorem cr_Bd_below {P : List Nat} {S : Nat → Prop} (h : cr_Bd P S) (a : Nat) : cr_Bd (a :: P) (fun c => S c ∧ c < a) :=
  (h.more (fun _ q => List.mem_cons_of_mem _ q)).and1 (cr_Bd.below (List.mem_cons_of_mem _ h.1) List.mem_cons_self)
theorem cr_Bd_join {n : Nat} {lo hi : Nat → Nat} {S K : Nat → Prop} {P : List Nat} (hO : cr_Ok n lo hi) (hI : ∀ c, cr_In n lo hi c ↔ K c) (hB : cr_Bd P S) (hBK : cr_Bd P K) {k : Nat} (hk : k ≤ n) : cr_Bd (cr_fm hi k :: P) (fun c => S c ∨ cr_In k lo hi c) := by
  have a : cr_Bd (cr_fm hi k :: P) S := hB.more (fun _ q => List.mem_cons_of_mem _ q)
  have b := cr_Bd_below hBK (cr_fm hi k)
  exact (a.or1 b).iff (fun c => by rw [cr_In_below hO hk, hI c])
theorem cr_join_step {n : Nat} {lo hi : Nat → Nat} {S : Nat → Prop} (hO : cr_Ok n lo hi) {k : Nat} (hk : k < n) (c : Nat) : ((S c ∨ cr_In k lo hi c) ∨ ((nI (lo k)).toInt ≤ (c : Int) ∧ (c : Int) ≤ (nI (hi k)).toInt)) ↔ (S c ∨ cr_In (k + 1) lo hi c) := by
  have q := hO.1 k hk
  rw [nI_toInt (by omega), nI_toInt (by omega)]
  constructor
  · rintro ((h | ⟨j, hj, a, b⟩) | h)
    · exact Or.inl h
    · exact Or.inr ⟨j, by omega, a, b⟩
    · exact Or.inr ⟨k, by omega, by omega, by omega⟩
  · rintro (h | ⟨j, hj, a, b⟩)
    · exact Or.inl (Or.inl h)
    · rcases Nat.lt_or_ge j k with e | e
      · exact Or.inl (Or.inr ⟨j, e, a, b⟩)
      · have : j = k := by omega
        subst this
        exact Or.inr (by omega)
/-- what firstOfRow answers -/
def cr_first_of (n : Nat) (lo hi : Nat → Nat) (z r : Int32) : Prop := (z < 0 ∧ r = -1) ∨ ∃ zz : Nat, zz < 2 ^ 31 ∧ z = nI zz ∧ ((cr_tot lo hi n ≤ zz ∧ r = -1) ∨ ∃ k t, k < n ∧ t < cr_N (lo k) (hi k) ∧ zz = cr_tot lo hi k + t ∧ r = nI (cr_go t (lo k) (hi k)))
theorem cr_Set.copy {n : Nat} {f g f3 g3 : Nat → Int32} {S : Nat → Prop} (h : cr_Set n f g S) : cr_Set n (va_cpy f f3 0 0 n) (va_cpy g g3 0 0 n) S := by
  obtain ⟨lo, hi, a, b, d⟩ := h
  exact ⟨lo, hi, fun j hj => by rw [sb_cpy0 hj, sb_cpy0 hj]; exact a j hj, b, d⟩
/-- turning: what was not in it, up to range k -/
def cr_Tn (S : Nat → Prop) (a c : Nat) : Prop := (cr_ch c ∧ ¬ S c) ∧ c < a
theorem cr_Bd_turn {S : Nat → Prop} {P : List Nat} (hB : cr_Bd P S) (hp : ∀ c, c ∈ cr_base → c ∈ P) (a : Nat) : cr_Bd (a :: P) (cr_Tn S a) :=
  cr_Bd_below ((cr_Bd.ch hp).and1 hB.not1) a
theorem cr_turn_step {n : Nat} {lo hi : Nat → Nat} {S : Nat → Prop} (hO : cr_Ok n lo hi) (hI : ∀ c, cr_In n lo hi c ↔ S c) {k : Nat} (hk : k < n) (c : Nat) : (cr_Tn S (cr_fm hi k) c ∨ (cr_fm hi k ≤ c ∧ (c : Int) ≤ (lo k : Int) - 1 ∧ cr_ch c)) ↔ cr_Tn S (cr_fm hi (k + 1)) c := by
  have q := hO.1 k hk
  rw [cr_fm_succ]
  have hf : cr_fm hi k ≤ lo k := by
    unfold cr_fm
    split
    · omega
    · have := hO.lt (show k - 1 < k by omega) hk
      omega
  have mid : ∀ c, cr_fm hi k ≤ c → c < lo k → ¬ S c := by
    intro c h1 h2 h3
    obtain ⟨j, hj, a, b⟩ := (hI c).2 h3
    rcases Nat.lt_or_ge j k with e | e
    · have := ((cr_In_below hO (Nat.le_of_lt hk) c).1 ⟨j, e, a, b⟩).2
      omega
    · have := (hO.mono e hj).2
      omega
  have ins : ∀ c, lo k ≤ c → c ≤ hi k → S c := fun c h1 h2 => (hI c).1 ⟨k, hk, h1, h2⟩
  unfold cr_Tn
  constructor
  · rintro (⟨h, h1⟩ | ⟨h1, h2, h3⟩)
    · exact ⟨h, by omega⟩
    · exact ⟨⟨h3, mid c h1 (by omega)⟩, by omega⟩
  · rintro ⟨⟨h1, h2⟩, h3⟩
    rcases Nat.lt_or_ge c (cr_fm hi k) with e | e
    · exact Or.inl ⟨⟨h1, h2⟩, e⟩
    · rcases Nat.lt_or_ge c (lo k) with e2 | e2
      · exact Or.inr ⟨e, by omega, h1⟩
      · exact absurd (ins c e2 (by omega)) h2
theorem cr_turn_end {n : Nat} {lo hi : Nat → Nat} {S : Nat → Prop} (hO : cr_Ok n lo hi) (hI : ∀ c, cr_In n lo hi c ↔ S c) (c : Nat) : (cr_Tn S (cr_fm hi n) c ∨ (cr_fm hi n ≤ c ∧ (c : Int) ≤ 1114111 ∧ cr_ch c)) ↔ (cr_ch c ∧ ¬ S c) := by
  unfold cr_Tn
  constructor
  · rintro (⟨h, _⟩ | ⟨h1, _, h3⟩)
    · exact h
    · refine ⟨h3, fun hs => ?_⟩
      have := ((cr_In_below hO (Nat.le_refl n) c).1 ((hI c).2 hs)).2
      omega
  · intro h
    rcases Nat.lt_or_ge c (cr_fm hi n) with e | e
    · exact Or.inl ⟨h, e⟩
    · exact Or.inr ⟨e, by have := h.1; unfold cr_ch at this; omega, h.1⟩
/-! PURE: what row and takes answer -/
theorem cr_fm_le {n : Nat} {lo hi : Nat → Nat} (hO : cr_Ok n lo hi) {k : Nat} (hk : k ≤ n) : cr_fm hi k ≤ 1114112 := by
  unfold cr_fm
  split
  · omega
  · have := hO.1 (k - 1) (by omega)
    omega
theorem cr_N_ge {h : Nat} (hh : h ≤ 1114111) : ∀ {k c : Nat}, k < cr_N c h → c ≤ cr_go k c h := by
  intro k
  induction k with
  | zero => intro c _; exact Nat.le_refl _
  | succ k ih =>
    intro c hk
    have a := ih (c := c) (by omega)
    have b := cr_N_in (show k < cr_N c h by omega)
    have d := (cr_last_in b hh).1
    rw [cr_go_succ]
    omega
def cr_ra (c d : Nat) (i w : Int32) : Int32 := if i = 0 then nI (cr_len c) else if i < 0 ∨ nI (cr_len c) < i then -1 else if w = 0 then nI (cr_by c (i.toNatClampNeg - 1)) else if w = 1 then nI (cr_by d (i.toNatClampNeg - 1)) else -1
theorem cr_ra_0 {c d : Nat} {i w : Int32} (h : i = 0) : cr_ra c d i w = nI (cr_len c) := by unfold cr_ra; rw [if_pos h]
theorem cr_ra_neg {c d : Nat} {i w : Int32} (h : ¬ i = 0) (h2 : i < 0 ∨ nI (cr_len c) < i) : cr_ra c d i w = -1 := by unfold cr_ra; rw [if_neg h, if_pos h2]
theorem cr_len_le (c : Nat) : 1 ≤ cr_len c ∧ cr_len c ≤ 4 := by
  have := cr_len_in c
  omega
theorem cr_ra_in {c ii : Nat} (h1 : ii < 2 ^ 31) (h2 : 1 ≤ ii) (h3 : ii ≤ cr_len c) : ¬ nI ii = 0 ∧ ¬ (nI ii < 0 ∨ nI (cr_len c) < nI ii) := by
  have hl := cr_len_le c
  refine ⟨nI_ne0 h2 h1, fun h => ?_⟩
  rcases h with h | h
  · exact nI_pos h1 h
  · rw [nI_ltI (by omega) h1] at h
    omega
theorem cr_ra_w0 {c d ii : Nat} {w : Int32} (h1 : ii < 2 ^ 31) (h2 : 1 ≤ ii) (h3 : ii ≤ cr_len c) (hw : w = 0) : cr_ra c d (nI ii) w = nI (cr_by c (ii - 1)) := by
  have a := cr_ra_in h1 h2 h3
  unfold cr_ra
  rw [if_neg a.1, if_neg a.2, if_pos hw, nI_clamp h1]
theorem cr_ra_w1 {c d ii : Nat} {w : Int32} (h1 : ii < 2 ^ 31) (h2 : 1 ≤ ii) (h3 : ii ≤ cr_len c) (hw : w = nI 1) : cr_ra c d (nI ii) w = nI (cr_by d (ii - 1)) := by
  have a := cr_ra_in h1 h2 h3
  unfold cr_ra
  rw [if_neg a.1, if_neg a.2, if_neg (by rw [hw]; decide), if_pos hw, nI_clamp h1]
theorem cr_ra_w2 {c d : Nat} {i w : Int32} (h1 : ¬ i = 0) (h2 : ¬ i < 0) (h3 : i ≤ nI (cr_len c)) (h4 : ¬ w = 0) (h5 : ¬ w = nI 1) : cr_ra c d i w = -1 := by
  unfold cr_ra
  rw [if_neg h1, if_neg (fun h => h.elim h2 (fun q => absurd h3 (Int32.not_le.mpr q))), if_neg h4, if_neg h5]
def cr_rowSpec (n : Nat) (lo hi : Nat → Nat) (z i w r : Int32) : Prop := ((z < 0 ∨ ∃ zz : Nat, zz < 2 ^ 31 ∧ z = nI zz ∧ cr_tot lo hi n ≤ zz) ∧ r = -1) ∨ ∃ zz j t : Nat, zz < 2 ^ 31 ∧ z = nI zz ∧ j < n ∧ t < cr_N (lo j) (hi j) ∧ zz = cr_tot lo hi j + t ∧ r = cr_ra (cr_go t (lo j) (hi j)) (cr_last (cr_go t (lo j) (hi j)) (hi j)) i w
theorem cr_tot_at {lo hi : Nat → Nat} {n j t : Nat} (hj : j < n) (ht : t < cr_N (lo j) (hi j)) : cr_tot lo hi j + t < cr_tot lo hi n := by
  have a := cr_tot_mono lo hi (show j + 1 ≤ n by omega)
  have b : cr_tot lo hi (j + 1) = cr_tot lo hi j + cr_N (lo j) (hi j) := rfl
  omega
theorem cr_tot_uniq {lo hi : Nat → Nat} {j t j' t' : Nat} (ht : t < cr_N (lo j) (hi j)) (ht' : t' < cr_N (lo j') (hi j')) (h : cr_tot lo hi j + t = cr_tot lo hi j' + t') : j = j' ∧ t = t' := by
  rcases Nat.lt_trichotomy j j' with e | e | e
  · have := cr_tot_at (lo := lo) (hi := hi) e ht
    omega
  · subst e
    exact ⟨rfl, by omega⟩
  · have := cr_tot_at (lo := lo) (hi := hi) e ht'
    omega
theorem cr_rowSpec_det {n : Nat} {lo hi : Nat → Nat} {z i w r r' : Int32} (h : cr_rowSpec n lo hi z i w r) (h' : cr_rowSpec n lo hi z i w r') : r = r' := by
  have excl : (z < 0 ∨ ∃ zz : Nat, zz < 2 ^ 31 ∧ z = nI zz ∧ cr_tot lo hi n ≤ zz) → ∀ zz j t : Nat, zz < 2 ^ 31 → z = nI zz → j < n → t < cr_N (lo j) (hi j) → zz = cr_tot lo hi j + t → False := by
    intro q zz j t h1 h2 h3 h4 h5
    have a := cr_tot_at (lo := lo) (hi := hi) h3 h4
    rcases q with q | ⟨z2, k1, k2, k3⟩
    · rw [h2] at q
      exact nI_pos h1 q
    · rw [h2, nI_eq h1 k1] at k2
      omega
  rcases h with ⟨a, b⟩ | ⟨zz, j, t, h1, h2, h3, h4, h5, h6⟩
  · rcases h' with ⟨_, b'⟩ | ⟨zz, j, t, h1, h2, h3, h4, h5, _⟩
    · rw [b, b']
    · exact (excl a zz j t h1 h2 h3 h4 h5).elim
  · rcases h' with ⟨a', _⟩ | ⟨z2, j2, t2, k1, k2, k3, k4, k5, k6⟩
    · exact (excl a' zz j t h1 h2 h3 h4 h5).elim
    · rw [h2, nI_eq h1 k1] at k2
      obtain ⟨e1, e2⟩ := cr_tot_uniq h4 k4 (by omega)
      subst e1
      subst e2
      rw [h6, k6]
def cr_Tk (S : Nat → Prop) (y z : Int32) : Prop := ∃ zz c : Nat, z = nI zz ∧ 1 ≤ zz ∧ zz ≤ 4 ∧ S c ∧ cr_len c = zz ∧ ∀ i, i < zz → cr_by c i = cr_ba y (i + 1)
theorem cr_Tk_out {S : Nat → Prop} {y z : Int32} (h : z.toInt < 1 ∨ 4 < z.toInt) : ¬ cr_Tk S y z := by
  rintro ⟨zz, c, e, h1, h2, _⟩
  rw [e, nI_toInt (by omega)] at h
  omega
theorem cr_dec_by {y : Int32} {c zz : Nat} (hc : c ≤ 1114111) (h1 : 1 ≤ zz) (h2 : zz ≤ 4) (hl : cr_len c = zz) (hb : ∀ i, i < zz → cr_by c i = cr_ba y (i + 1)) : cr_dec y zz = c := by
  have hin := cr_len_in c
  rcases (show zz = 1 ∨ zz = 2 ∨ zz = 3 ∨ zz = 4 by omega) with e | e | e | e
  · subst e
    have b0 := hb 0 (by omega)
    rw [cr_by1 (by omega)] at b0
    show cr_ba y 1 = c
    exact b0.symm
  · subst e
    have q := cr_by2 (c := c) (by omega) (by omega)
    have b0 := hb 0 (by omega)
    have b1 := hb 1 (by omega)
    show cr_ba y (0 + 1) % 32 * 64 + cr_ba y (1 + 1) % 64 = c
    omega
  · subst e
    have q := cr_by3 (c := c) (by omega) (by omega)
    have b0 := hb 0 (by omega)
    have b1 := hb 1 (by omega)
    have b2 := hb 2 (by omega)
    show (cr_ba y (0 + 1) % 16 * 64 + cr_ba y (1 + 1) % 64) * 64 + cr_ba y (2 + 1) % 64 = c
    omega
  · subst e
    have q := cr_by4 (c := c) (by omega)
    have b0 := hb 0 (by omega)
    have b1 := hb 1 (by omega)
    have b2 := hb 2 (by omega)
    have b3 := hb 3 (by omega)
    show ((cr_ba y (0 + 1) % 8 * 64 + cr_ba y (1 + 1) % 64) * 64 + cr_ba y (2 + 1) % 64) * 64 + cr_ba y (3 + 1) % 64 = c
    omega
theorem cr_Tk_dec {n : Nat} {f g : Nat → Int32} {S : Nat → Prop} (hSet : cr_Set n f g S) {y : Int32} {zz : Nat} (h1 : 1 ≤ zz) (h2 : zz ≤ 4) (h : cr_Tk S y (nI zz)) : S (cr_dec y zz) ∧ cr_len (cr_dec y zz) = zz ∧ ∀ i, i < zz → cr_by (cr_dec y zz) i = cr_ba y (i + 1) := by
  obtain ⟨z2, c, e, k1, k2, k3, k4, k5⟩ := h
  rw [nI_eq (by omega) (by omega)] at e
  subst e
  have q := cr_dec_by (hSet.char k3).1 h1 h2 k4 k5
  rw [q]
  exact ⟨k3, k4, k5⟩
theorem cr_Tk_S {n : Nat} {f g : Nat → Int32} {S : Nat → Prop} (hSet : cr_Set n f g S) {y : Int32} {zz : Nat} (h1 : 1 ≤ zz) (h2 : zz ≤ 4) (h : cr_Tk S y (nI zz)) : S (cr_dec y zz) := (cr_Tk_dec hSet h1 h2 h).1
theorem cr_Tk_len {n : Nat} {f g : Nat → Int32} {S : Nat → Prop} (hSet : cr_Set n f g S) {y : Int32} {zz : Nat} (h1 : 1 ≤ zz) (h2 : zz ≤ 4) (h : cr_Tk S y (nI zz)) : cr_len (cr_dec y zz) = zz := (cr_Tk_dec hSet h1 h2 h).2.1
theorem cr_Tk_by {n : Nat} {f g : Nat → Int32} {S : Nat → Prop} (hSet : cr_Set n f g S) {y : Int32} {zz : Nat} (h1 : 1 ≤ zz) (h2 : zz ≤ 4) (h : cr_Tk S y (nI zz)) : ∀ i, i < zz → cr_by (cr_dec y zz) i = cr_ba y (i + 1) := (cr_Tk_dec hSet h1 h2 h).2.2
theorem cr_dec_lt (y : Int32) (zz : Nat) : cr_dec y zz < 2097152 := by
  have h1 := cr_ba_lt y 1
  unfold cr_dec
  split
  · omega
  · split
    · omega
    · split <;> omega
theorem cr_Hs_big {n : Nat} {f g : Nat → Int32} {S : Nat → Prop} (hSet : cr_Set n f g S) {c : Nat} (h : c < 2 ^ 31) : cr_Hs S (nI c) ↔ S c := by
  constructor
  · rintro ⟨d, hd, e, hs⟩
    rw [nI_eq h (by omega)] at e
    rw [e]
    exact hs
  · intro hs
    exact ⟨c, (hSet.char hs).1, rfl, hs⟩
/-! PURE: what the reference gathers -/
def cr_Vr (lo hi : Nat) : Prop := lo ≤ hi ∧ hi ≤ 1114111 ∧ (hi < 55296 ∨ 57344 ≤ lo)
def cr_En (mn : Nat) (ef eg : Nat → Int32) (elo ehi : Nat → Nat) : Prop := ∀ k, k < mn → ef k = nI (elo k) ∧ eg k = nI (ehi k) ∧ cr_Vr (elo k) (ehi k)
/-- the entries tell the set E -/
def cr_Ent (mn : Nat) (ef eg : Nat → Int32) (E : Nat → Prop) : Prop := ∃ elo ehi : Nat → Nat, cr_En mn ef eg elo ehi ∧ ∀ c, cr_In mn elo ehi c ↔ E c
theorem cr_Ent.iff {n : Nat} {f g : Nat → Int32} {S T : Nat → Prop} (h : cr_Ent n f g S) (hs : ∀ c, S c ↔ T c) : cr_Ent n f g T := by
  obtain ⟨lo, hi, a, b⟩ := h
  exact ⟨lo, hi, a, fun x => (b x).trans (hs x)⟩
theorem cr_Ent.zero {f g : Nat → Int32} : cr_Ent 0 f g (fun _ => False) := ⟨fun _ => 0, fun _ => 0, fun j hj => absurd hj (by omega), fun c => ⟨fun ⟨j, hj, _⟩ => absurd hj (by omega), fun h => h.elim⟩⟩
theorem cr_Ent.push {n : Nat} {f g : Nat → Int32} {E : Nat → Prop} (h : cr_Ent n f g E) {a b : Nat} (hv : cr_Vr a b) : cr_Ent (n + 1) (upd f n (nI a)) (upd g n (nI b)) (fun c => E c ∨ (a ≤ c ∧ c ≤ b)) := by
  obtain ⟨lo, hi, q, r⟩ := h
  refine ⟨va_up lo n a, va_up hi n b, fun k hk => ?_, fun c => ?_⟩
  · rcases Nat.lt_or_ge k n with e | e
    · rw [pk_un (by omega), pk_un (by omega), va_up_ne _ _ (by omega), va_up_ne _ _ (by omega)]
      exact q k e
    · have : k = n := by omega
      subst this
      rw [pk_us, pk_us, va_up_self, va_up_self]
      exact ⟨rfl, rfl, hv⟩
  · rw [← r c]
    constructor
    · rintro ⟨k, hk, h1, h2⟩
      rcases Nat.lt_or_ge k n with e | e
      · rw [va_up_ne _ _ (by omega)] at h1 h2
        exact Or.inl ⟨k, e, h1, h2⟩
      · have : k = n := by omega
        subst this
        rw [va_up_self] at h1 h2
        exact Or.inr ⟨h1, h2⟩
    · rintro (⟨k, hk, h1, h2⟩ | ⟨h1, h2⟩)
      · exact ⟨k, by omega, by rw [va_up_ne _ _ (by omega)]; exact h1, by rw [va_up_ne _ _ (by omega)]; exact h2⟩
      · exact ⟨n, by omega, by rw [va_up_self]; exact h1, by rw [va_up_self]; exact h2⟩
def cr_cntb (dn : Nat → Bool) : Nat → Nat
  | 0 => 0
  | m + 1 => cr_cntb dn m + (if dn m then 1 else 0)
theorem cr_cntb_le (dn : Nat → Bool) : ∀ m, cr_cntb dn m ≤ m := by
  intro m
  induction m with
  | zero => exact Nat.le_refl _
  | succ m ih =>
    show cr_cntb dn m + _ ≤ _
    split <;> omega
theorem cr_cntb_out (dn : Nat → Bool) (b : Nat) (v : Bool) : ∀ m, m ≤ b → cr_cntb (va_up dn b v) m = cr_cntb dn m := by
  intro m
  induction m with
  | zero => intro _; rfl
  | succ m ih =>
    intro h
    show cr_cntb (va_up dn b v) m + (if va_up dn b v m then 1 else 0) = cr_cntb dn m + _
    rw [ih (by omega), va_up_ne _ _ (by omega)]
theorem cr_cntb_up (dn : Nat → Bool) (b : Nat) (hb : dn b = false) : ∀ m, b < m → cr_cntb (va_up dn b true) m = cr_cntb dn m + 1 := by
  intro m
  induction m with
  | zero => intro h; exact absurd h (Nat.not_lt_zero _)
  | succ m ih =>
    intro h
    show cr_cntb (va_up dn b true) m + (if va_up dn b true m then 1 else 0) = cr_cntb dn m + (if dn m then 1 else 0) + 1
    rcases Nat.lt_or_ge b m with e | e
    · rw [ih e, va_up_ne _ _ (by omega)]
      omega
    · have : m = b := by omega
      subst this
      rw [cr_cntb_out dn m true m (Nat.le_refl _), va_up_self, hb]
      simp
theorem cr_cntb_lt (dn : Nat → Bool) (b m : Nat) (hb : dn b = false) (hm : b < m) : cr_cntb dn m < m := by
  have a := cr_cntb_up dn b hb m hm
  have c := cr_cntb_le (va_up dn b true) m
  omega
def cr_GI (mn : Nat) (elo ehi : Nat → Nat) (n1 : Nat) (lo1 hi1 : Nat → Nat) (f1 g1 ef1 : Nat → Int32) (la : Int32) (dn : Nat → Bool) : Prop :=
  (∀ k, k < mn → ef1 k = if dn k then -1 else nI (elo k)) ∧ cr_Rp n1 lo1 hi1 f1 g1 ∧ cr_Ok n1 lo1 hi1 ∧ (∀ c, cr_In n1 lo1 hi1 c ↔ ∃ k, k < mn ∧ dn k = true ∧ elo k ≤ c ∧ c ≤ ehi k) ∧ n1 ≤ cr_cntb dn mn ∧ (0 < n1 → la = nI (hi1 (n1 - 1)) ∧ ∀ k, k < mn → dn k = false → lo1 (n1 - 1) ≤ elo k)
theorem cr_GI_0 {mn : Nat} {ef eg : Nat → Int32} {elo ehi : Nat → Nat} (h : cr_En mn ef eg elo ehi) {f g : Nat → Int32} {la : Int32} : cr_GI mn elo ehi 0 (fun _ => 0) (fun _ => 0) f g ef la (fun _ => false) := by
  refine ⟨fun k hk => ?_, fun j hj => absurd hj (Nat.not_lt_zero _), ⟨fun j hj => absurd hj (Nat.not_lt_zero _), fun j hj => absurd hj (Nat.not_lt_zero _)⟩, fun c => ⟨?_, ?_⟩, Nat.zero_le _, fun h => absurd h (Nat.lt_irrefl _)⟩
  · rw [if_neg (by decide)]
    exact (h k hk).1
  · rintro ⟨j, hj, _⟩
    exact absurd hj (Nat.not_lt_zero _)
  · rintro ⟨k, _, h2, _⟩
    exact absurd h2 (by decide)
theorem cr_GI_done {mn : Nat} {elo ehi : Nat → Nat} {ef1 : Nat → Int32} {dn : Nat → Bool} (h : ∀ k, k < mn → ef1 k = if dn k then -1 else nI (elo k)) (b : Nat) : ∀ k, k < mn → upd ef1 b (-1) k = if va_up dn b true k then -1 else nI (elo k) := by
  intro k hk
  by_cases e : k = b
  · subst e
    rw [pk_us, va_up_self, if_pos rfl]
  · rw [pk_un e, va_up_ne _ _ e]
    exact h k hk
theorem cr_GI_push {mn : Nat} {elo ehi : Nat → Nat} (hV : ∀ k, k < mn → cr_Vr (elo k) (ehi k)) {n1 : Nat} {lo1 hi1 : Nat → Nat} {f1 g1 ef1 : Nat → Int32} {la : Int32} {dn : Nat → Bool} (h : cr_GI mn elo ehi n1 lo1 hi1 f1 g1 ef1 la dn) {b : Nat} (hb : b < mn) (hd : dn b = false) (hmin : ∀ j, j < mn → dn j = false → elo b ≤ elo j) (hn : n1 = 0 ∨ hi1 (n1 - 1) + 1 < elo b) :
    cr_GI mn elo ehi (n1 + 1) (va_up lo1 n1 (elo b)) (va_up hi1 n1 (ehi b)) (upd f1 n1 (nI (elo b))) (upd g1 n1 (nI (ehi b))) (upd ef1 b (-1)) (nI (ehi b)) (va_up dn b true) := by
  obtain ⟨h1, h2, h3, h4, h5, h6⟩ := h
  refine ⟨cr_GI_done h1 b, fun j hj => ?_, ⟨fun j hj => ?_, fun j hj => ?_⟩, fun c => ⟨?_, ?_⟩, ?_, fun _ => ⟨?_, fun k hk hdk => ?_⟩⟩
  · rcases Nat.lt_or_ge j n1 with e | e
    · rw [pk_un (by omega), pk_un (by omega), va_up_ne _ _ (by omega), va_up_ne _ _ (by omega)]
      exact h2 j e
    · have : j = n1 := by omega
      subst this
      rw [pk_us, pk_us, va_up_self, va_up_self]
      exact ⟨rfl, rfl⟩
  · rcases Nat.lt_or_ge j n1 with e | e
    · rw [va_up_ne _ _ (by omega), va_up_ne _ _ (by omega)]
      exact h3.1 j e
    · have : j = n1 := by omega
      subst this
      rw [va_up_self, va_up_self]
      exact hV b hb
  · rcases Nat.lt_or_ge (j + 1) n1 with e | e
    · rw [va_up_ne _ _ (by omega), va_up_ne _ _ (by omega)]
      exact h3.2 j e
    · have e2 : j + 1 = n1 := by omega
      rw [e2, va_up_self, va_up_ne _ _ (by omega)]
      rcases hn with q | q
      · omega
      · have e3 : n1 - 1 = j := by omega
        rw [e3] at q
        exact q
  · rintro ⟨j, hj, q1, q2⟩
    rcases Nat.lt_or_ge j n1 with e | e
    · rw [va_up_ne _ _ (by omega)] at q1 q2
      obtain ⟨k, k1, k2, k3⟩ := (h4 c).1 ⟨j, e, q1, q2⟩
      have kb : k ≠ b := fun q => by rw [q, hd] at k2; exact absurd k2 (by decide)
      exact ⟨k, k1, by rw [va_up_ne _ _ kb]; exact k2, k3⟩
    · have : j = n1 := by omega
      subst this
      rw [va_up_self] at q1 q2
      exact ⟨b, hb, va_up_self _ _ _, q1, q2⟩
  · rintro ⟨k, k1, k2, k3, k4⟩
    by_cases kb : k = b
    · subst kb
      exact ⟨n1, by omega, by rw [va_up_self]; exact k3, by rw [va_up_self]; exact k4⟩
    · rw [va_up_ne _ _ kb] at k2
      obtain ⟨j, hj, q1, q2⟩ := (h4 c).2 ⟨k, k1, k2, k3, k4⟩
      exact ⟨j, by omega, by rw [va_up_ne _ _ (by omega)]; exact q1, by rw [va_up_ne _ _ (by omega)]; exact q2⟩
  · rw [cr_cntb_up dn b hd mn hb]
    omega
  · rw [show n1 + 1 - 1 = n1 by omega, va_up_self]
  · rw [show n1 + 1 - 1 = n1 by omega, va_up_self]
    by_cases kb : k = b
    · subst kb
      rw [va_up_self] at hdk
      exact absurd hdk (by decide)
    · rw [va_up_ne _ _ kb] at hdk
      exact hmin k hk hdk
theorem cr_GI_merge {mn : Nat} {elo ehi : Nat → Nat} (hV : ∀ k, k < mn → cr_Vr (elo k) (ehi k)) {n1 : Nat} {lo1 hi1 : Nat → Nat} {f1 g1 ef1 : Nat → Int32} {la : Int32} {dn : Nat → Bool} (h : cr_GI mn elo ehi n1 lo1 hi1 f1 g1 ef1 la dn) {b : Nat} (hb : b < mn) (hd : dn b = false) (hmin : ∀ j, j < mn → dn j = false → elo b ≤ elo j) (hn : 0 < n1) (he : elo b ≤ hi1 (n1 - 1) + 1) :
    cr_GI mn elo ehi n1 lo1 (va_up hi1 (n1 - 1) (max (hi1 (n1 - 1)) (ehi b))) f1 (upd g1 (n1 - 1) (nI (max (hi1 (n1 - 1)) (ehi b)))) (upd ef1 b (-1)) (nI (max (hi1 (n1 - 1)) (ehi b))) (va_up dn b true) := by
  obtain ⟨h1, h2, h3, h4, h5, h6⟩ := h
  have hlb := (h6 hn).2 b hb hd
  have hv := hV b hb
  unfold cr_Vr at hv
  refine ⟨cr_GI_done h1 b, fun j hj => ?_, ⟨fun j hj => ?_, fun j hj => ?_⟩, fun c => ⟨?_, ?_⟩, ?_, fun _ => ⟨?_, fun k hk hdk => ?_⟩⟩
  · by_cases e : j = n1 - 1
    · subst e
      rw [pk_us, va_up_self]
      exact ⟨(h2 _ hj).1, rfl⟩
    · rw [pk_un e, va_up_ne _ _ e]
      exact h2 j hj
  · have q := h3.1 j hj
    by_cases e : j = n1 - 1
    · subst e
      rw [va_up_self]
      omega
    · rw [va_up_ne _ _ e]
      exact q
  · rw [va_up_ne _ _ (by omega)]
    exact h3.2 j hj
  · rintro ⟨j, hj, q1, q2⟩
    have old : cr_In n1 lo1 hi1 c → ∃ k, k < mn ∧ va_up dn b true k = true ∧ elo k ≤ c ∧ c ≤ ehi k := fun q => by
      obtain ⟨k, k1, k2, k3⟩ := (h4 c).1 q
      have kb : k ≠ b := fun q => by rw [q, hd] at k2; exact absurd k2 (by decide)
      exact ⟨k, k1, by rw [va_up_ne _ _ kb]; exact k2, k3⟩
    by_cases e : j = n1 - 1
    · subst e
      rw [va_up_self] at q2
      rcases Nat.lt_or_ge (hi1 (n1 - 1)) c with r | r
      · exact ⟨b, hb, va_up_self _ _ _, by omega, by omega⟩
      · exact old ⟨n1 - 1, hj, q1, r⟩
    · rw [va_up_ne _ _ e] at q2
      exact old ⟨j, hj, q1, q2⟩
  · rintro ⟨k, k1, k2, k3, k4⟩
    by_cases kb : k = b
    · subst kb
      exact ⟨n1 - 1, by omega, by omega, by rw [va_up_self]; omega⟩
    · rw [va_up_ne _ _ kb] at k2
      obtain ⟨j, hj, q1, q2⟩ := (h4 c).2 ⟨k, k1, k2, k3, k4⟩
      by_cases e : j = n1 - 1
      · subst e
        exact ⟨n1 - 1, hj, q1, by rw [va_up_self]; omega⟩
      · exact ⟨j, hj, q1, by rw [va_up_ne _ _ e]; exact q2⟩
  · rw [cr_cntb_up dn b hd mn hb]
    omega
  · rw [va_up_self]
  · by_cases kb : k = b
    · subst kb
      rw [va_up_self] at hdk
      exact absurd hdk (by decide)
    · rw [va_up_ne _ _ kb] at hdk
      exact (h6 hn).2 k hk hdk
theorem cr_GI_set {mn : Nat} {elo ehi : Nat → Nat} {n1 : Nat} {lo1 hi1 : Nat → Nat} {f1 g1 ef1 : Nat → Int32} {la : Int32} {dn : Nat → Bool} {E : Nat → Prop} (h : cr_GI mn elo ehi n1 lo1 hi1 f1 g1 ef1 la dn) (hall : ∀ k, k < mn → dn k = true) (hE : ∀ c, cr_In mn elo ehi c ↔ E c) : cr_Set n1 f1 g1 E := by
  obtain ⟨h1, h2, h3, h4, h5, h6⟩ := h
  refine ⟨lo1, hi1, h2, h3, fun c => ?_⟩
  rw [h4 c, ← hE c]
  constructor
  · rintro ⟨k, k1, _, k3, k4⟩
    exact ⟨k, k1, k3, k4⟩
  · rintro ⟨k, k1, k3, k4⟩
    exact ⟨k, k1, hall k k1, k3, k4⟩
