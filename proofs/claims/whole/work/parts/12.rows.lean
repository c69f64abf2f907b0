/-! PURE: rows -/
def cr_len (c : Nat) : Nat := if c < 128 then 1 else if c < 2048 then 2 else if c < 65536 then 3 else 4
def cr_lol (L : Nat) : Nat := if L = 1 then 127 else if L = 2 then 2047 else if L = 3 then 65535 else 1114111
theorem cr_len_in (c : Nat) : (cr_len c = 1 ∧ c < 128) ∨ (cr_len c = 2 ∧ 128 ≤ c ∧ c < 2048) ∨ (cr_len c = 3 ∧ 2048 ≤ c ∧ c < 65536) ∨ (cr_len c = 4 ∧ 65536 ≤ c) := by
  unfold cr_len
  split
  · omega
  · split
    · omega
    · split <;> omega
/-- where the run of level t (blocks of B) that begins at c may end at the latest -/
def cr_w (B c lim : Nat) : Nat := min lim (c / (64 * B) * (64 * B) + (64 * B - 1))
/-- behind the last whole block of B -/
def cr_e (B c lim : Nat) : Nat := (cr_w B c lim + 1) / B * B
/-- the last of the row that begins at c in a range that ends at high -/
def cr_last (c high : Nat) : Nat :=
  let lim := min high (cr_lol (cr_len c))
  if cr_len c = 1 then lim
  else if cr_len c = 2 then
    if c % 64 = 0 ∧ c < cr_e 64 c lim then cr_e 64 c lim - 1 else min lim (c / 64 * 64 + 63)
  else if cr_len c = 3 then
    if c % 4096 = 0 ∧ c < cr_e 4096 c lim then cr_e 4096 c lim - 1
    else if c % 64 = 0 ∧ c < cr_e 64 c lim then cr_e 64 c lim - 1 else min lim (c / 64 * 64 + 63)
  else
    if c % 262144 = 0 ∧ c < cr_e 262144 c lim then cr_e 262144 c lim - 1
    else if c % 4096 = 0 ∧ c < cr_e 4096 c lim then cr_e 4096 c lim - 1
    else if c % 64 = 0 ∧ c < cr_e 64 c lim then cr_e 64 c lim - 1 else min lim (c / 64 * 64 + 63)
theorem cr_last1 {c high : Nat} (h : c < 128) : cr_last c high = min high 127 := by
  have e : cr_len c = 1 := by unfold cr_len; rw [if_pos h]
  unfold cr_last
  simp only [e, cr_lol, if_true]
theorem cr_last2 {c high : Nat} (h : 128 ≤ c) (h2 : c < 2048) : cr_last c high = if c % 64 = 0 ∧ c < cr_e 64 c (min high 2047) then cr_e 64 c (min high 2047) - 1 else min (min high 2047) (c / 64 * 64 + 63) := by
  have e : cr_len c = 2 := by unfold cr_len; rw [if_neg (by omega), if_pos h2]
  unfold cr_last
  simp only [e, cr_lol, if_true]
  rfl
theorem cr_last3 {c high : Nat} (h : 2048 ≤ c) (h2 : c < 65536) : cr_last c high = if c % 4096 = 0 ∧ c < cr_e 4096 c (min high 65535) then cr_e 4096 c (min high 65535) - 1 else if c % 64 = 0 ∧ c < cr_e 64 c (min high 65535) then cr_e 64 c (min high 65535) - 1 else min (min high 65535) (c / 64 * 64 + 63) := by
  have e : cr_len c = 3 := by unfold cr_len; rw [if_neg (by omega), if_neg (by omega), if_pos h2]
  unfold cr_last
  simp only [e, cr_lol, if_true]
  rfl
theorem cr_last4 {c high : Nat} (h : 65536 ≤ c) : cr_last c high = if c % 262144 = 0 ∧ c < cr_e 262144 c (min high 1114111) then cr_e 262144 c (min high 1114111) - 1 else if c % 4096 = 0 ∧ c < cr_e 4096 c (min high 1114111) then cr_e 4096 c (min high 1114111) - 1 else if c % 64 = 0 ∧ c < cr_e 64 c (min high 1114111) then cr_e 64 c (min high 1114111) - 1 else min (min high 1114111) (c / 64 * 64 + 63) := by
  have e : cr_len c = 4 := by unfold cr_len; rw [if_neg (by omega), if_neg (by omega), if_neg (by omega)]
  unfold cr_last
  simp only [e, cr_lol, if_true]
  rfl
/-- the bytes of c .. d are all that one row takes: all bytes behind one that varies are whole -/
def cr_row (c d : Nat) : Prop := cr_len c = cr_len d ∧ c ≤ d ∧ d ≤ 1114111 ∧ ((c / 64 = d / 64) ∨ (c % 64 = 0 ∧ (d + 1) % 64 = 0 ∧ c / 4096 = d / 4096) ∨ (c % 4096 = 0 ∧ (d + 1) % 4096 = 0 ∧ c / 262144 = d / 262144) ∨ (c % 262144 = 0 ∧ (d + 1) % 262144 = 0) ∨ cr_len c = 1)
theorem cr_e_eq {B c lim : Nat} : cr_e B c lim = (min lim (c / (64 * B) * (64 * B) + (64 * B - 1)) + 1) / B * B := rfl
theorem cr_e64 (c lim : Nat) : cr_e 64 c lim = (min lim (c / 4096 * 4096 + 4095) + 1) / 64 * 64 := rfl
theorem cr_e4096 (c lim : Nat) : cr_e 4096 c lim = (min lim (c / 262144 * 262144 + 262143) + 1) / 4096 * 4096 := rfl
theorem cr_e262144 (c lim : Nat) : cr_e 262144 c lim = (min lim (c / 16777216 * 16777216 + 16777215) + 1) / 262144 * 262144 := rfl
theorem cr_len_eq1 {c : Nat} (h : c < 128) : cr_len c = 1 := by unfold cr_len; rw [if_pos h]
theorem cr_len_eq2 {c : Nat} (h : 128 ≤ c) (h2 : c < 2048) : cr_len c = 2 := by unfold cr_len; rw [if_neg (by omega), if_pos h2]
theorem cr_len_eq3 {c : Nat} (h : 2048 ≤ c) (h2 : c < 65536) : cr_len c = 3 := by unfold cr_len; rw [if_neg (by omega), if_neg (by omega), if_pos h2]
theorem cr_len_eq4 {c : Nat} (h : 65536 ≤ c) : cr_len c = 4 := by unfold cr_len; rw [if_neg (by omega), if_neg (by omega), if_neg (by omega)]
set_option maxRecDepth 8000 in
/-- it lies between c and high, it is a row, and the longest one -/
theorem cr_last_in1 {c high : Nat} (hc : c ≤ high) (hh : high ≤ 1114111) (h : c < 128) : c ≤ cr_last c high ∧ cr_last c high ≤ high ∧ cr_row c (cr_last c high) ∧ ∀ d, cr_row c d → d ≤ high → d ≤ cr_last c high := by
  rw [cr_last1 h]
  refine ⟨by omega, by omega, ⟨?_, by omega, by omega, by rw [cr_len_eq1 h]; exact Or.inr (Or.inr (Or.inr (Or.inr rfl)))⟩, fun d hd hdh => ?_⟩
  · rw [cr_len_eq1 h, cr_len_eq1 (by omega)]
  · have a := hd.1
    rw [cr_len_eq1 h] at a
    have b := cr_len_in d
    omega
set_option maxRecDepth 8000 in
theorem cr_last_in2 {c high : Nat} (hc : c ≤ high) (hh : high ≤ 1114111) (h : 128 ≤ c) (h2 : c < 2048) : c ≤ cr_last c high ∧ cr_last c high ≤ high ∧ cr_row c (cr_last c high) ∧ ∀ d, cr_row c d → d ≤ high → d ≤ cr_last c high := by
  have key : c ≤ cr_last c high ∧ cr_last c high ≤ high ∧ cr_last c high < 2048 ∧ ((c / 64 = cr_last c high / 64) ∨ (c % 64 = 0 ∧ (cr_last c high + 1) % 64 = 0)) ∧ ∀ d, c ≤ d → d < 2048 → ((c / 64 = d / 64) ∨ (c % 64 = 0 ∧ (d + 1) % 64 = 0)) → d ≤ high → d ≤ cr_last c high := by
    rw [cr_last2 h h2, cr_e64]
    split <;> refine ⟨by omega, by omega, by omega, by omega, fun d _ _ _ _ => by omega⟩
  obtain ⟨k1, k2, k3, k4, k5⟩ := key
  refine ⟨k1, k2, ⟨?_, k1, by omega, by omega⟩, fun d hd hdh => ?_⟩
  · rw [cr_len_eq2 h h2, cr_len_eq2 (by omega) k3]
  · obtain ⟨a, b, e, f⟩ := hd
    rw [cr_len_eq2 h h2] at a f
    have g := cr_len_in d
    exact k5 d b (by omega) (by omega) hdh
set_option maxRecDepth 8000 in
theorem cr_last_in3 {c high : Nat} (hc : c ≤ high) (hh : high ≤ 1114111) (h : 2048 ≤ c) (h2 : c < 65536) : c ≤ cr_last c high ∧ cr_last c high ≤ high ∧ cr_row c (cr_last c high) ∧ ∀ d, cr_row c d → d ≤ high → d ≤ cr_last c high := by
  have key : c ≤ cr_last c high ∧ cr_last c high ≤ high ∧ cr_last c high < 65536 ∧ ((c / 64 = cr_last c high / 64) ∨ (c % 64 = 0 ∧ (cr_last c high + 1) % 64 = 0 ∧ c / 4096 = cr_last c high / 4096) ∨ (c % 4096 = 0 ∧ (cr_last c high + 1) % 4096 = 0)) ∧ ∀ d, c ≤ d → d < 65536 → ((c / 64 = d / 64) ∨ (c % 64 = 0 ∧ (d + 1) % 64 = 0 ∧ c / 4096 = d / 4096) ∨ (c % 4096 = 0 ∧ (d + 1) % 4096 = 0)) → d ≤ high → d ≤ cr_last c high := by
    rw [cr_last3 h h2, cr_e64, cr_e4096]
    split
    · refine ⟨by omega, by omega, by omega, by omega, fun d _ _ _ _ => by omega⟩
    · split <;> refine ⟨by omega, by omega, by omega, by omega, fun d _ _ _ _ => by omega⟩
  obtain ⟨k1, k2, k3, k4, k5⟩ := key
  refine ⟨k1, k2, ⟨?_, k1, by omega, by omega⟩, fun d hd hdh => ?_⟩
  · rw [cr_len_eq3 h h2, cr_len_eq3 (by omega) k3]
  · obtain ⟨a, b, e, f⟩ := hd
    rw [cr_len_eq3 h h2] at a f
    have g := cr_len_in d
    exact k5 d b (by omega) (by omega) hdh
set_option maxRecDepth 8000 in
theorem cr_last_in4 {c high : Nat} (hc : c ≤ high) (hh : high ≤ 1114111) (h : 65536 ≤ c) : c ≤ cr_last c high ∧ cr_last c high ≤ high ∧ cr_row c (cr_last c high) ∧ ∀ d, cr_row c d → d ≤ high → d ≤ cr_last c high := by
  have key : c ≤ cr_last c high ∧ cr_last c high ≤ high ∧ ((c / 64 = cr_last c high / 64) ∨ (c % 64 = 0 ∧ (cr_last c high + 1) % 64 = 0 ∧ c / 4096 = cr_last c high / 4096) ∨ (c % 4096 = 0 ∧ (cr_last c high + 1) % 4096 = 0 ∧ c / 262144 = cr_last c high / 262144) ∨ (c % 262144 = 0 ∧ (cr_last c high + 1) % 262144 = 0)) ∧ ∀ d, c ≤ d → ((c / 64 = d / 64) ∨ (c % 64 = 0 ∧ (d + 1) % 64 = 0 ∧ c / 4096 = d / 4096) ∨ (c % 4096 = 0 ∧ (d + 1) % 4096 = 0 ∧ c / 262144 = d / 262144) ∨ (c % 262144 = 0 ∧ (d + 1) % 262144 = 0)) → d ≤ high → d ≤ cr_last c high := by
    rw [cr_last4 h, cr_e64, cr_e4096, cr_e262144]
    split
    · refine ⟨by omega, by omega, by omega, fun d _ _ _ => by omega⟩
    · split
      · refine ⟨by omega, by omega, by omega, fun d _ _ _ => by omega⟩
      · split <;> refine ⟨by omega, by omega, by omega, fun d _ _ _ => by omega⟩
  obtain ⟨k1, k2, k4, k5⟩ := key
  refine ⟨k1, k2, ⟨?_, k1, by omega, by omega⟩, fun d hd hdh => ?_⟩
  · rw [cr_len_eq4 h, cr_len_eq4 (by omega)]
  · obtain ⟨a, b, e, f⟩ := hd
    rw [cr_len_eq4 h] at f
    exact k5 d b (by omega) hdh
set_option maxRecDepth 8000 in
theorem cr_last_in {c high : Nat} (hc : c ≤ high) (hh : high ≤ 1114111) : c ≤ cr_last c high ∧ cr_last c high ≤ high ∧ cr_row c (cr_last c high) ∧ ∀ d, cr_row c d → d ≤ high → d ≤ cr_last c high := by
  rcases cr_len_in c with h | h | h | h
  · exact cr_last_in1 hc hh h.2
  · exact cr_last_in2 hc hh h.2.1 h.2.2
  · exact cr_last_in3 hc hh h.2.1 h.2.2
  · exact cr_last_in4 hc hh h.2
/-! how many rows a range has at most -/
def cr_le : Nat → Nat → Nat → Prop
  | 0, c, high => high < c
  | m + 1, c, high => high < c ∨ cr_le m (cr_last c high + 1) high
theorem cr_le_out {m c high : Nat} (h : high < c) : cr_le m c high := by
  cases m with
  | zero => exact h
  | succ m => exact Or.inl h
theorem cr_le_more : ∀ (m k c high : Nat), m ≤ k → cr_le m c high → cr_le k c high := by
  intro m
  induction m with
  | zero => intro k c high _ h; exact cr_le_out h
  | succ m ih =>
    intro k c high hk h
    cases k with
    | zero => omega
    | succ k =>
      rcases h with h | h
      · exact Or.inl h
      · exact Or.inr (ih k _ _ (by omega) h)
/-- rows go up to the end of the length, M more behind it -/
def cr_M (M e high : Nat) : Prop := cr_le M e high
set_option maxRecDepth 8000 in
theorem cr_f4_0 {c high : Nat} (hh : high ≤ 1114111) (h : 65536 ≤ c) (ha : c % 64 = 0) (hr : high + 1 - c < 64) : cr_le 1 c high := by
  rcases Nat.lt_or_ge high c with q | q
  · exact Or.inl q
  · refine Or.inr ?_
    show high < _
    rw [cr_last4 h, cr_e64, cr_e4096, cr_e262144]
    split
    · omega
    · split
      · omega
      · split <;> omega
set_option maxRecDepth 8000 in
theorem cr_f4_1 {c high : Nat} (hh : high ≤ 1114111) (h : 65536 ≤ c) (ha : c % 4096 = 0) (hr : high + 1 - c < 4096) : cr_le 2 c high := by
  rcases Nat.lt_or_ge high c with q | q
  · exact Or.inl q
  · rcases Nat.lt_or_ge (high + 1 - c) 64 with r | r
    · exact cr_le_more 1 2 _ _ (by omega) (cr_f4_0 hh h (by omega) r)
    · have e : cr_last c high + 1 = (high + 1) / 64 * 64 := by
        rw [cr_last4 h, cr_e64, cr_e4096, cr_e262144]
        split
        · omega
        · split
          · omega
          · split <;> omega
      refine Or.inr ?_
      rw [e]
      exact cr_f4_0 hh (by omega) (by omega) (by omega)
set_option maxRecDepth 8000 in
theorem cr_f4_2 {c high : Nat} (hh : high ≤ 1114111) (h : 65536 ≤ c) (ha : c % 262144 = 0) (hr : high + 1 - c < 262144) : cr_le 3 c high := by
  rcases Nat.lt_or_ge high c with q | q
  · exact Or.inl q
  · rcases Nat.lt_or_ge (high + 1 - c) 4096 with r | r
    · exact cr_le_more 2 3 _ _ (by omega) (cr_f4_1 hh h (by omega) r)
    · have e : cr_last c high + 1 = (high + 1) / 4096 * 4096 := by
        rw [cr_last4 h, cr_e64, cr_e4096, cr_e262144]
        split
        · omega
        · split
          · omega
          · split <;> omega
      refine Or.inr ?_
      rw [e]
      exact cr_f4_1 hh (by omega) (by omega) (by omega)
set_option maxRecDepth 8000 in
theorem cr_r4_3 {c high : Nat} (hh : high ≤ 1114111) (h : 65536 ≤ c) (ha : c % 262144 = 0) : cr_le 4 c high := by
  rcases Nat.lt_or_ge high c with q | q
  · exact Or.inl q
  · rcases Nat.lt_or_ge (high + 1 - c) 262144 with r | r
    · exact cr_le_more 3 4 _ _ (by omega) (cr_f4_2 hh h (by omega) r)
    · have e : cr_last c high + 1 = (high + 1) / 262144 * 262144 := by
        rw [cr_last4 h, cr_e64, cr_e4096, cr_e262144]
        split
        · omega
        · split
          · omega
          · split <;> omega
      refine Or.inr ?_
      rw [e]
      exact cr_f4_2 hh (by omega) (by omega) (by omega)
set_option maxRecDepth 8000 in
theorem cr_r4_2 {c high : Nat} (hh : high ≤ 1114111) (h : 65536 ≤ c) (ha : c % 4096 = 0) : cr_le 5 c high := by
  rcases Nat.lt_or_ge high c with q | q
  · exact Or.inl q
  · by_cases z : c % 262144 = 0
    · exact cr_le_more 4 5 _ _ (by omega) (cr_r4_3 hh h z)
    · rcases Nat.lt_or_ge high (c / 262144 * 262144 + 262143) with r | r
      · rcases Nat.lt_or_ge (high + 1 - c) 4096 with r2 | r2
        · exact cr_le_more 2 5 _ _ (by omega) (cr_f4_1 hh h ha r2)
        · have e : cr_last c high + 1 = (high + 1) / 4096 * 4096 := by
            rw [cr_last4 h, cr_e64, cr_e4096, cr_e262144]
            split
            · omega
            · split
              · omega
              · split <;> omega
          refine Or.inr ?_
          rw [e]
          exact cr_le_more 2 4 _ _ (by omega) (cr_f4_1 hh (by omega) (by omega) (by omega))
      · have e : cr_last c high + 1 = c / 262144 * 262144 + 262144 := by
          rw [cr_last4 h, cr_e64, cr_e4096, cr_e262144]
          split
          · omega
          · split
            · omega
            · split <;> omega
        refine Or.inr ?_
        rw [e]
        exact cr_r4_3 hh (by omega) (by omega)
set_option maxRecDepth 8000 in
theorem cr_r4_1 {c high : Nat} (hh : high ≤ 1114111) (h : 65536 ≤ c) (ha : c % 64 = 0) : cr_le 6 c high := by
  rcases Nat.lt_or_ge high c with q | q
  · exact Or.inl q
  · by_cases z : c % 4096 = 0
    · exact cr_le_more 5 6 _ _ (by omega) (cr_r4_2 hh h z)
    · rcases Nat.lt_or_ge high (c / 4096 * 4096 + 4095) with r | r
      · rcases Nat.lt_or_ge (high + 1 - c) 64 with r2 | r2
        · exact cr_le_more 1 6 _ _ (by omega) (cr_f4_0 hh h ha r2)
        · have e : cr_last c high + 1 = (high + 1) / 64 * 64 := by
            rw [cr_last4 h, cr_e64, cr_e4096, cr_e262144]
            split
            · omega
            · split
              · omega
              · split <;> omega
          refine Or.inr ?_
          rw [e]
          exact cr_le_more 1 5 _ _ (by omega) (cr_f4_0 hh (by omega) (by omega) (by omega))
      · have e : cr_last c high + 1 = c / 4096 * 4096 + 4096 := by
          rw [cr_last4 h, cr_e64, cr_e4096, cr_e262144]
          split
          · omega
          · split
            · omega
            · split <;> omega
        refine Or.inr ?_
        rw [e]
        exact cr_r4_2 hh (by omega) (by omega)
set_option maxRecDepth 8000 in
theorem cr_r4_0 {c high : Nat} (hh : high ≤ 1114111) (h : 65536 ≤ c) : cr_le 7 c high := by
  rcases Nat.lt_or_ge high c with q | q
  · exact Or.inl q
  · by_cases z : c % 64 = 0
    · exact cr_le_more 6 7 _ _ (by omega) (cr_r4_1 hh h z)
    · rcases Nat.lt_or_ge high (c / 64 * 64 + 63) with r | r
      · have e : cr_last c high + 1 = high + 1 := by
          rw [cr_last4 h, cr_e64, cr_e4096, cr_e262144]
          split
          · omega
          · split
            · omega
            · split <;> omega
        refine Or.inr ?_
        rw [e]
        exact cr_le_out (by omega)
      · have e : cr_last c high + 1 = c / 64 * 64 + 64 := by
          rw [cr_last4 h, cr_e64, cr_e4096, cr_e262144]
          split
          · omega
          · split
            · omega
            · split <;> omega
        refine Or.inr ?_
        rw [e]
        exact cr_r4_1 hh (by omega) (by omega)
set_option maxRecDepth 8000 in
/-- three bytes: behind the end of the length, at most 7 more -/
theorem cr_x3 {high : Nat} (hh : high ≤ 1114111) : cr_le 7 (min high 65535 + 1) high := by
  rcases Nat.lt_or_ge high 65536 with q | q
  · exact cr_le_out (by omega)
  · have e : min high 65535 + 1 = 65536 := by omega
    rw [e]
    exact cr_r4_0 hh (by omega)
set_option maxRecDepth 8000 in
theorem cr_f3_0 {c high : Nat} (hh : high ≤ 1114111) (h : 2048 ≤ c) (ha : c % 64 = 0) (hc : c ≤ min high 65535 + 1) (hr : min high 65535 + 1 - c < 64) : cr_le 8 c high := by
  rcases Nat.lt_or_ge (min high 65535) c with q | q
  · have e : c = min high 65535 + 1 := by omega
    rw [e]
    exact cr_le_more 7 8 _ _ (by omega) (cr_x3 hh)
  · refine Or.inr ?_
    have e : cr_last c high + 1 = min high 65535 + 1 := by
      rw [cr_last3 h (by omega), cr_e64, cr_e4096]
      split
      · omega
      · split <;> omega
    rw [e]
    exact cr_x3 hh
set_option maxRecDepth 8000 in
theorem cr_f3_1 {c high : Nat} (hh : high ≤ 1114111) (h : 2048 ≤ c) (ha : c % 4096 = 0) (hc : c ≤ min high 65535 + 1) (hr : min high 65535 + 1 - c < 4096) : cr_le 9 c high := by
  rcases Nat.lt_or_ge (min high 65535 + 1 - c) 64 with r | r
  · exact cr_le_more 8 9 _ _ (by omega) (cr_f3_0 hh h (by omega) hc r)
  · have e : cr_last c high + 1 = (min high 65535 + 1) / 64 * 64 := by
      rw [cr_last3 h (by omega), cr_e64, cr_e4096]
      split
      · omega
      · split <;> omega
    refine Or.inr ?_
    rw [e]
    exact cr_f3_0 hh (by omega) (by omega) (by omega) (by omega)
set_option maxRecDepth 8000 in
theorem cr_r3_2 {c high : Nat} (hh : high ≤ 1114111) (h : 2048 ≤ c) (ha : c % 4096 = 0) (hc : c ≤ min high 65535 + 1) : cr_le 10 c high := by
  rcases Nat.lt_or_ge (min high 65535 + 1 - c) 4096 with r | r
  · exact cr_le_more 9 10 _ _ (by omega) (cr_f3_1 hh h (by omega) hc r)
  · have e : cr_last c high + 1 = (min high 65535 + 1) / 4096 * 4096 := by
      rw [cr_last3 h (by omega), cr_e64, cr_e4096]
      split
      · omega
      · split <;> omega
    refine Or.inr ?_
    rw [e]
    exact cr_f3_1 hh (by omega) (by omega) (by omega) (by omega)
set_option maxRecDepth 8000 in
theorem cr_r3_1 {c high : Nat} (hh : high ≤ 1114111) (h : 2048 ≤ c) (ha : c % 64 = 0) (hc : c ≤ min high 65535 + 1) : cr_le 11 c high := by
  by_cases z : c % 4096 = 0
  · exact cr_le_more 10 11 _ _ (by omega) (cr_r3_2 hh h z hc)
  · rcases Nat.lt_or_ge (min high 65535) (c / 4096 * 4096 + 4095) with r | r
    · rcases Nat.lt_or_ge (min high 65535 + 1 - c) 64 with r2 | r2
      · exact cr_le_more 8 11 _ _ (by omega) (cr_f3_0 hh h ha hc r2)
      · have e : cr_last c high + 1 = (min high 65535 + 1) / 64 * 64 := by
          rw [cr_last3 h (by omega), cr_e64, cr_e4096]
          split
          · omega
          · split <;> omega
        refine Or.inr ?_
        rw [e]
        exact cr_le_more 8 10 _ _ (by omega) (cr_f3_0 hh (by omega) (by omega) (by omega) (by omega))
    · have e : cr_last c high + 1 = c / 4096 * 4096 + 4096 := by
        rw [cr_last3 h (by omega), cr_e64, cr_e4096]
        split
        · omega
        · split <;> omega
      refine Or.inr ?_
      rw [e]
      have hz : c / 4096 * 4096 + 4096 ≤ min high 65535 + 1 := by
        generalize c / 4096 * 4096 = v at r ⊢
        clear e
        omega
      exact cr_r3_2 hh (by omega) (by omega) hz
set_option maxRecDepth 8000 in
theorem cr_r3_0 {c high : Nat} (hh : high ≤ 1114111) (h : 2048 ≤ c) (hc : c ≤ min high 65535 + 1) : cr_le 12 c high := by
  by_cases z : c % 64 = 0
  · exact cr_le_more 11 12 _ _ (by omega) (cr_r3_1 hh h z hc)
  · rcases Nat.lt_or_ge (min high 65535) (c / 64 * 64 + 63) with r | r
    · have e : cr_last c high + 1 = min high 65535 + 1 := by
        rw [cr_last3 h (by omega), cr_e64, cr_e4096]
        split
        · omega
        · split <;> omega
      refine Or.inr ?_
      rw [e]
      exact cr_le_more 7 11 _ _ (by omega) (cr_x3 hh)
    · have e : cr_last c high + 1 = c / 64 * 64 + 64 := by
        rw [cr_last3 h (by omega), cr_e64, cr_e4096]
        split
        · omega
        · split <;> omega
      refine Or.inr ?_
      rw [e]
      exact cr_r3_1 hh (by omega) (by omega) (by omega)
/-- two bytes: behind the end of the length, at most 12 more -/
theorem cr_x2 {high : Nat} (hh : high ≤ 1114111) : cr_le 12 (min high 2047 + 1) high := by
  rcases Nat.lt_or_ge high 2048 with q | q
  · exact cr_le_out (by omega)
  · have e : min high 2047 + 1 = 2048 := by omega
    rw [e]
    exact cr_r3_0 hh (by omega) (by omega)
set_option maxRecDepth 8000 in
theorem cr_f2_0 {c high : Nat} (hh : high ≤ 1114111) (h : 128 ≤ c) (ha : c % 64 = 0) (hc : c ≤ min high 2047 + 1) (hr : min high 2047 + 1 - c < 64) : cr_le 13 c high := by
  rcases Nat.lt_or_ge (min high 2047) c with q | q
  · have e : c = min high 2047 + 1 := by omega
    rw [e]
    exact cr_le_more 12 13 _ _ (by omega) (cr_x2 hh)
  · refine Or.inr ?_
    have e : cr_last c high + 1 = min high 2047 + 1 := by
      rw [cr_last2 h (by omega), cr_e64]
      split <;> omega
    rw [e]
    exact cr_x2 hh
set_option maxRecDepth 8000 in
theorem cr_r2_1 {c high : Nat} (hh : high ≤ 1114111) (h : 128 ≤ c) (ha : c % 64 = 0) (hc : c ≤ min high 2047 + 1) : cr_le 14 c high := by
  rcases Nat.lt_or_ge (min high 2047 + 1 - c) 64 with r | r
  · exact cr_le_more 13 14 _ _ (by omega) (cr_f2_0 hh h (by omega) hc r)
  · have e : cr_last c high + 1 = (min high 2047 + 1) / 64 * 64 := by
      rw [cr_last2 h (by omega), cr_e64]
      split <;> omega
    refine Or.inr ?_
    rw [e]
    exact cr_f2_0 hh (by omega) (by omega) (by omega) (by omega)
set_option maxRecDepth 8000 in
theorem cr_r2_0 {c high : Nat} (hh : high ≤ 1114111) (h : 128 ≤ c) (hc : c ≤ min high 2047 + 1) : cr_le 15 c high := by
  by_cases z : c % 64 = 0
  · exact cr_le_more 14 15 _ _ (by omega) (cr_r2_1 hh h z hc)
  · rcases Nat.lt_or_ge (min high 2047) (c / 64 * 64 + 63) with r | r
    · have e : cr_last c high + 1 = min high 2047 + 1 := by
        rw [cr_last2 h (by omega), cr_e64]
        split <;> omega
      refine Or.inr ?_
      rw [e]
      exact cr_le_more 12 14 _ _ (by omega) (cr_x2 hh)
    · have e : cr_last c high + 1 = c / 64 * 64 + 64 := by
        rw [cr_last2 h (by omega), cr_e64]
        split <;> omega
      refine Or.inr ?_
      rw [e]
      exact cr_r2_1 hh (by omega) (by omega) (by omega)
set_option maxRecDepth 8000 in
theorem cr_le16 {c high : Nat} (hh : high ≤ 1114111) : cr_le 16 c high := by
  rcases Nat.lt_or_ge high c with q | q
  · exact cr_le_out q
  · rcases cr_len_in c with h | h | h | h
    · refine Or.inr ?_
      rw [cr_last1 h.2]
      rcases Nat.lt_or_ge high 128 with r | r
      · exact cr_le_out (by omega)
      · have e : min high 127 + 1 = 128 := by omega
        rw [e]
        exact cr_r2_0 hh (by omega) (by omega)
    · exact cr_le_more 15 16 _ _ (by omega) (cr_r2_0 hh h.2.1 (by omega))
    · exact cr_le_more 12 16 _ _ (by omega) (cr_r3_0 hh h.2.1 (by omega))
    · exact cr_le_more 7 16 _ _ (by omega) (cr_r4_0 hh h.2)
