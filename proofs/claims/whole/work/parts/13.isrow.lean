/-! PURE: bytes, and whether c .. d are one row -/
def cr_by (c i : Nat) : Nat := if i = 0 then (if c < 128 then c else if c < 2048 then 192 + c / 64 else if c < 65536 then 224 + c / 4096 else 240 + c / 262144) else 128 + c / 64 ^ (cr_len c - 1 - i) % 64
/-- the first i bytes are the same -/
def cr_sm (c d : Nat) : Nat → Bool
  | 0 => true
  | i + 1 => cr_sm c d i && (cr_by c i == cr_by d i)
def cr_fr (c d i : Nat) : Nat := if cr_sm c d i then cr_by c i else 128
def cr_to (c d i : Nat) : Nat := if cr_sm c d i then cr_by d i else 191
def cr_all (c d : Nat) : Nat → Nat
  | 0 => 1
  | i + 1 => cr_all c d i * (cr_to c d i - cr_fr c d i + 1)
theorem cr_by1 {c : Nat} (h : c < 128) : cr_by c 0 = c := by unfold cr_by; rw [if_pos rfl, if_pos h]
theorem cr_by2 {c : Nat} (h : 128 ≤ c) (h2 : c < 2048) : cr_by c 0 = 192 + c / 64 ∧ cr_by c 1 = 128 + c % 64 := by
  have e := cr_len_eq2 h h2
  unfold cr_by
  rw [if_pos rfl, if_neg (by omega), if_pos h2, e]
  exact ⟨rfl, by simp⟩
theorem cr_by3 {c : Nat} (h : 2048 ≤ c) (h2 : c < 65536) : cr_by c 0 = 224 + c / 4096 ∧ cr_by c 1 = 128 + c / 64 % 64 ∧ cr_by c 2 = 128 + c % 64 := by
  have e := cr_len_eq3 h h2
  unfold cr_by
  rw [if_pos rfl, if_neg (by omega), if_neg (by omega), if_pos h2, e]
  exact ⟨rfl, by simp, by simp⟩
theorem cr_by4 {c : Nat} (h : 65536 ≤ c) : cr_by c 0 = 240 + c / 262144 ∧ cr_by c 1 = 128 + c / 4096 % 64 ∧ cr_by c 2 = 128 + c / 64 % 64 ∧ cr_by c 3 = 128 + c % 64 := by
  have e := cr_len_eq4 h
  unfold cr_by
  rw [if_pos rfl, if_neg (by omega), if_neg (by omega), if_neg (by omega), e]
  exact ⟨rfl, by simp, by simp, by simp⟩
/-- bytes of two characters of one length: the later one has the greater byte where they first differ; and the count tells whether they are one row -/
def cr_good (c d L : Nat) : Prop := (∀ i, i < L → cr_fr c d i ≤ cr_to c d i ∧ cr_to c d i ≤ 255) ∧ (cr_all c d L = d - c + 1 ↔ cr_row c d) ∧ (cr_row c d → ∀ i, i < L → cr_fr c d i = cr_by c i ∧ cr_to c d i = cr_by d i)
theorem cr_good1 {c d : Nat} (h : c ≤ d) (hd : d < 128) : cr_good c d 1 := by
  have a := cr_by1 (c := c) (by omega)
  have b := cr_by1 hd
  refine ⟨fun i hi => ?_, ?_, fun _ i hi => ?_⟩
  · have : i = 0 := by omega
    subst this
    simp only [cr_fr, cr_to, cr_sm, if_true, a, b]
    omega
  · simp only [cr_all, cr_fr, cr_to, cr_sm, if_true, a, b, Nat.one_mul]
    constructor
    · intro _
      exact ⟨by rw [cr_len_eq1 (by omega), cr_len_eq1 hd], h, by omega, Or.inr (Or.inr (Or.inr (Or.inr (cr_len_eq1 (by omega)))))⟩
    · intro _
      trivial
  · have : i = 0 := by omega
    subst this
    simp [cr_fr, cr_to, cr_sm]
theorem cr_good2 {c d : Nat} (h : c ≤ d) (hc : 128 ≤ c) (hd : d < 2048) : cr_good c d 2 := by
  obtain ⟨a0, a1⟩ := cr_by2 hc (show c < 2048 by omega)
  obtain ⟨b0, b1⟩ := cr_by2 (show 128 ≤ d by omega) hd
  have hl : cr_len c = cr_len d := by rw [cr_len_eq2 hc (by omega), cr_len_eq2 (by omega) hd]
  have hr : cr_row c d ↔ ((c / 64 = d / 64) ∨ (c % 64 = 0 ∧ (d + 1) % 64 = 0)) := by
    unfold cr_row
    rw [cr_len_eq2 hc (by omega), cr_len_eq2 (by omega) hd]
    omega
  unfold cr_good
  rw [hr]
  by_cases e0 : c / 64 = d / 64
  · have s1 : cr_sm c d 1 = true := by simp [cr_sm, a0, b0, e0]
    have s0 : cr_sm c d 0 = true := rfl
    refine ⟨fun i hi => ?_, ?_, fun _ i hi => ?_⟩
    · rcases (show i = 0 ∨ i = 1 by omega) with q | q <;> subst q <;> simp only [cr_fr, cr_to, s0, s1, if_true, a0, a1, b0, b1] <;> omega
    · simp only [cr_all, cr_fr, cr_to, s0, s1, if_true, a0, a1, b0, b1]
      rw [e0]
      have : 192 + d / 64 - (192 + d / 64) + 1 = 1 := by omega
      rw [this]
      omega
    · rcases (show i = 0 ∨ i = 1 by omega) with q | q <;> subst q <;> simp only [cr_fr, cr_to, s0, s1, if_true] <;> exact ⟨trivial, trivial⟩
  · have s1 : cr_sm c d 1 = false := by simp [cr_sm, a0, b0, e0]
    have s0 : cr_sm c d 0 = true := rfl
    refine ⟨fun i hi => ?_, ?_, fun hq i hi => ?_⟩
    · rcases (show i = 0 ∨ i = 1 by omega) with q | q <;> subst q <;> simp only [cr_fr, cr_to, s0, s1, if_true, a0, a1, b0, b1] <;> simp <;> omega
    · simp only [cr_all, cr_fr, cr_to, s0, s1, if_true, a0, a1, b0, b1]
      simp
      omega
    · rcases (show i = 0 ∨ i = 1 by omega) with q | q
      · subst q; simp [cr_fr, cr_to, s0]
      · subst q
        simp only [cr_fr, cr_to, s1, a1, b1]
        simp
        omega
set_option maxRecDepth 8000 in
set_option maxHeartbeats 2000000 in
theorem cr_good3 {c d : Nat} (h : c ≤ d) (hc : 2048 ≤ c) (hd : d < 65536) : cr_good c d 3 := by
  obtain ⟨a0, a1, a2⟩ := cr_by3 hc (show c < 65536 by omega)
  obtain ⟨b0, b1, b2⟩ := cr_by3 (show 2048 ≤ d by omega) hd
  have y1 : c / 64 / 64 = c / 4096 := by rw [Nat.div_div_eq_div_mul]
  have y2 : d / 64 / 64 = d / 4096 := by rw [Nat.div_div_eq_div_mul]
  have hr : cr_row c d ↔ ((c / 64 = d / 64) ∨ (c % 64 = 0 ∧ (d + 1) % 64 = 0 ∧ c / 4096 = d / 4096) ∨ (c % 4096 = 0 ∧ (d + 1) % 4096 = 0)) := by
    unfold cr_row
    rw [cr_len_eq3 hc (by omega), cr_len_eq3 (by omega) hd]
    omega
  unfold cr_good
  rw [hr]
  by_cases e0 : c / 4096 = d / 4096
  · by_cases e1 : c / 64 % 64 = d / 64 % 64
    · have s0 : cr_sm c d 0 = true := rfl
      have s1 : cr_sm c d 1 = true := by simp [cr_sm, a0, a1, a2, b0, b1, b2, e0]
      have s2 : cr_sm c d 2 = true := by simp [cr_sm, a0, a1, a2, b0, b1, b2, e0, e1]
      refine ⟨fun i hi => ?_, ?_, fun hq i hi => ?_⟩
      · rcases (show i = 0 ∨ i = 1 ∨ i = 2 by omega) with q | q | q <;> subst q <;> simp only [cr_fr, cr_to, s0, s1, s2, if_true, a0, a1, a2, b0, b1, b2, Bool.false_eq_true, if_false] <;> omega
      · simp only [cr_all, cr_fr, cr_to, s0, s1, s2, if_true, a0, a1, a2, b0, b1, b2, Bool.false_eq_true, if_false]
        have z0 : 224 + d / 4096 - (224 + c / 4096) + 1 = 1 := by omega
        rw [z0]
        have z1 : 128 + d / 64 % 64 - (128 + c / 64 % 64) + 1 = 1 := by omega
        rw [z1]
        omega
      · rcases (show i = 0 ∨ i = 1 ∨ i = 2 by omega) with q | q | q <;> subst q <;> simp only [cr_fr, cr_to, s0, s1, s2, if_true, a0, a1, a2, b0, b1, b2, Bool.false_eq_true, if_false] <;> (refine ⟨?_, ?_⟩ <;> first | trivial | omega)
    · have s0 : cr_sm c d 0 = true := rfl
      have s1 : cr_sm c d 1 = true := by simp [cr_sm, a0, a1, a2, b0, b1, b2, e0]
      have s2 : cr_sm c d 2 = false := by simp [cr_sm, a0, a1, a2, b0, b1, b2, e0, e1]
      refine ⟨fun i hi => ?_, ?_, fun hq i hi => ?_⟩
      · rcases (show i = 0 ∨ i = 1 ∨ i = 2 by omega) with q | q | q <;> subst q <;> simp only [cr_fr, cr_to, s0, s1, s2, if_true, a0, a1, a2, b0, b1, b2, Bool.false_eq_true, if_false] <;> omega
      · simp only [cr_all, cr_fr, cr_to, s0, s1, s2, if_true, a0, a1, a2, b0, b1, b2, Bool.false_eq_true, if_false]
        have z0 : 224 + d / 4096 - (224 + c / 4096) + 1 = 1 := by omega
        rw [z0]
        omega
      · rcases (show i = 0 ∨ i = 1 ∨ i = 2 by omega) with q | q | q <;> subst q <;> simp only [cr_fr, cr_to, s0, s1, s2, if_true, a0, a1, a2, b0, b1, b2, Bool.false_eq_true, if_false] <;> (refine ⟨?_, ?_⟩ <;> first | trivial | omega)
  · have s0 : cr_sm c d 0 = true := rfl
    have s1 : cr_sm c d 1 = false := by simp [cr_sm, a0, a1, a2, b0, b1, b2, e0]
    have s2 : cr_sm c d 2 = false := by simp [cr_sm, a0, a1, a2, b0, b1, b2, e0]
    refine ⟨fun i hi => ?_, ?_, fun hq i hi => ?_⟩
    · rcases (show i = 0 ∨ i = 1 ∨ i = 2 by omega) with q | q | q <;> subst q <;> simp only [cr_fr, cr_to, s0, s1, s2, if_true, a0, a1, a2, b0, b1, b2, Bool.false_eq_true, if_false] <;> omega
    · simp only [cr_all, cr_fr, cr_to, s0, s1, s2, if_true, a0, a1, a2, b0, b1, b2, Bool.false_eq_true, if_false]
      omega
    · rcases (show i = 0 ∨ i = 1 ∨ i = 2 by omega) with q | q | q <;> subst q <;> simp only [cr_fr, cr_to, s0, s1, s2, if_true, a0, a1, a2, b0, b1, b2, Bool.false_eq_true, if_false] <;> (refine ⟨?_, ?_⟩ <;> first | trivial | omega)
set_option maxRecDepth 8000 in
set_option maxHeartbeats 2000000 in
theorem cr_good4 {c d : Nat} (h : c ≤ d) (hc : 65536 ≤ c) (hd : d ≤ 1114111) : cr_good c d 4 := by
  obtain ⟨a0, a1, a2, a3⟩ := cr_by4 hc
  obtain ⟨b0, b1, b2, b3⟩ := cr_by4 (show 65536 ≤ d by omega)
  have y1 : c / 64 / 64 = c / 4096 := by rw [Nat.div_div_eq_div_mul]
  have y2 : d / 64 / 64 = d / 4096 := by rw [Nat.div_div_eq_div_mul]
  have y3 : c / 4096 / 64 = c / 262144 := by rw [Nat.div_div_eq_div_mul]
  have y4 : d / 4096 / 64 = d / 262144 := by rw [Nat.div_div_eq_div_mul]
  have hr : cr_row c d ↔ ((c / 64 = d / 64) ∨ (c % 64 = 0 ∧ (d + 1) % 64 = 0 ∧ c / 4096 = d / 4096) ∨ (c % 4096 = 0 ∧ (d + 1) % 4096 = 0 ∧ c / 262144 = d / 262144) ∨ (c % 262144 = 0 ∧ (d + 1) % 262144 = 0)) := by
    unfold cr_row
    rw [cr_len_eq4 hc, cr_len_eq4 (by omega)]
    omega
  unfold cr_good
  rw [hr]
  by_cases e0 : c / 262144 = d / 262144
  · by_cases e1 : c / 4096 % 64 = d / 4096 % 64
    · by_cases e2 : c / 64 % 64 = d / 64 % 64
      · have s0 : cr_sm c d 0 = true := rfl
        have s1 : cr_sm c d 1 = true := by simp [cr_sm, a0, a1, a2, a3, b0, b1, b2, b3, e0]
        have s2 : cr_sm c d 2 = true := by simp [cr_sm, a0, a1, a2, a3, b0, b1, b2, b3, e0, e1]
        have s3 : cr_sm c d 3 = true := by simp [cr_sm, a0, a1, a2, a3, b0, b1, b2, b3, e0, e1, e2]
        refine ⟨fun i hi => ?_, ?_, fun hq i hi => ?_⟩
        · rcases (show i = 0 ∨ i = 1 ∨ i = 2 ∨ i = 3 by omega) with q | q | q | q <;> subst q <;> simp only [cr_fr, cr_to, s0, s1, s2, s3, if_true, a0, a1, a2, a3, b0, b1, b2, b3, Bool.false_eq_true, if_false] <;> omega
        · simp only [cr_all, cr_fr, cr_to, s0, s1, s2, s3, if_true, a0, a1, a2, a3, b0, b1, b2, b3, Bool.false_eq_true, if_false]
          have z0 : 240 + d / 262144 - (240 + c / 262144) + 1 = 1 := by omega
          rw [z0]
          have z1 : 128 + d / 4096 % 64 - (128 + c / 4096 % 64) + 1 = 1 := by omega
          rw [z1]
          have z2 : 128 + d / 64 % 64 - (128 + c / 64 % 64) + 1 = 1 := by omega
          rw [z2]
          omega
        · rcases (show i = 0 ∨ i = 1 ∨ i = 2 ∨ i = 3 by omega) with q | q | q | q <;> subst q <;> simp only [cr_fr, cr_to, s0, s1, s2, s3, if_true, a0, a1, a2, a3, b0, b1, b2, b3, Bool.false_eq_true, if_false] <;> (refine ⟨?_, ?_⟩ <;> first | trivial | omega)
      · have s0 : cr_sm c d 0 = true := rfl
        have s1 : cr_sm c d 1 = true := by simp [cr_sm, a0, a1, a2, a3, b0, b1, b2, b3, e0]
        have s2 : cr_sm c d 2 = true := by simp [cr_sm, a0, a1, a2, a3, b0, b1, b2, b3, e0, e1]
        have s3 : cr_sm c d 3 = false := by simp [cr_sm, a0, a1, a2, a3, b0, b1, b2, b3, e0, e1, e2]
        refine ⟨fun i hi => ?_, ?_, fun hq i hi => ?_⟩
        · rcases (show i = 0 ∨ i = 1 ∨ i = 2 ∨ i = 3 by omega) with q | q | q | q <;> subst q <;> simp only [cr_fr, cr_to, s0, s1, s2, s3, if_true, a0, a1, a2, a3, b0, b1, b2, b3, Bool.false_eq_true, if_false] <;> omega
        · simp only [cr_all, cr_fr, cr_to, s0, s1, s2, s3, if_true, a0, a1, a2, a3, b0, b1, b2, b3, Bool.false_eq_true, if_false]
          have z0 : 240 + d / 262144 - (240 + c / 262144) + 1 = 1 := by omega
          rw [z0]
          have z1 : 128 + d / 4096 % 64 - (128 + c / 4096 % 64) + 1 = 1 := by omega
          rw [z1]
          omega
        · rcases (show i = 0 ∨ i = 1 ∨ i = 2 ∨ i = 3 by omega) with q | q | q | q <;> subst q <;> simp only [cr_fr, cr_to, s0, s1, s2, s3, if_true, a0, a1, a2, a3, b0, b1, b2, b3, Bool.false_eq_true, if_false] <;> (refine ⟨?_, ?_⟩ <;> first | trivial | omega)
    · have s0 : cr_sm c d 0 = true := rfl
      have s1 : cr_sm c d 1 = true := by simp [cr_sm, a0, a1, a2, a3, b0, b1, b2, b3, e0]
      have s2 : cr_sm c d 2 = false := by simp [cr_sm, a0, a1, a2, a3, b0, b1, b2, b3, e0, e1]
      have s3 : cr_sm c d 3 = false := by simp [cr_sm, a0, a1, a2, a3, b0, b1, b2, b3, e0, e1]
      refine ⟨fun i hi => ?_, ?_, fun hq i hi => ?_⟩
      · rcases (show i = 0 ∨ i = 1 ∨ i = 2 ∨ i = 3 by omega) with q | q | q | q <;> subst q <;> simp only [cr_fr, cr_to, s0, s1, s2, s3, if_true, a0, a1, a2, a3, b0, b1, b2, b3, Bool.false_eq_true, if_false] <;> omega
      · simp only [cr_all, cr_fr, cr_to, s0, s1, s2, s3, if_true, a0, a1, a2, a3, b0, b1, b2, b3, Bool.false_eq_true, if_false]
        have z0 : 240 + d / 262144 - (240 + c / 262144) + 1 = 1 := by omega
        rw [z0]
        omega
      · rcases (show i = 0 ∨ i = 1 ∨ i = 2 ∨ i = 3 by omega) with q | q | q | q <;> subst q <;> simp only [cr_fr, cr_to, s0, s1, s2, s3, if_true, a0, a1, a2, a3, b0, b1, b2, b3, Bool.false_eq_true, if_false] <;> (refine ⟨?_, ?_⟩ <;> first | trivial | omega)
  · have s0 : cr_sm c d 0 = true := rfl
    have s1 : cr_sm c d 1 = false := by simp [cr_sm, a0, a1, a2, a3, b0, b1, b2, b3, e0]
    have s2 : cr_sm c d 2 = false := by simp [cr_sm, a0, a1, a2, a3, b0, b1, b2, b3, e0]
    have s3 : cr_sm c d 3 = false := by simp [cr_sm, a0, a1, a2, a3, b0, b1, b2, b3, e0]
    refine ⟨fun i hi => ?_, ?_, fun hq i hi => ?_⟩
    · rcases (show i = 0 ∨ i = 1 ∨ i = 2 ∨ i = 3 by omega) with q | q | q | q <;> subst q <;> simp only [cr_fr, cr_to, s0, s1, s2, s3, if_true, a0, a1, a2, a3, b0, b1, b2, b3, Bool.false_eq_true, if_false] <;> omega
    · simp only [cr_all, cr_fr, cr_to, s0, s1, s2, s3, if_true, a0, a1, a2, a3, b0, b1, b2, b3, Bool.false_eq_true, if_false]
      omega
    · rcases (show i = 0 ∨ i = 1 ∨ i = 2 ∨ i = 3 by omega) with q | q | q | q <;> subst q <;> simp only [cr_fr, cr_to, s0, s1, s2, s3, if_true, a0, a1, a2, a3, b0, b1, b2, b3, Bool.false_eq_true, if_false] <;> (refine ⟨?_, ?_⟩ <;> first | trivial | omega)
theorem cr_good_of {c d : Nat} (h : c ≤ d) (hd : d ≤ 1114111) (hl : cr_len c = cr_len d) : cr_good c d (cr_len c) := by
  rcases cr_len_in c with q | q | q | q <;> rcases cr_len_in d with r | r | r | r <;> first | (exfalso; omega) | (rw [q.1]; first | exact cr_good1 h (by omega) | exact cr_good2 h (by omega) (by omega) | exact cr_good3 h (by omega) (by omega) | exact cr_good4 h (by omega) hd)
