/-! PURE: how many rows, where they begin, bytes of an int -/
def cr_nr : Nat → Nat → Nat → Nat
  | 0, _, _ => 0
  | m + 1, c, h => if c ≤ h then 1 + cr_nr m (cr_last c h + 1) h else 0
def cr_N (c h : Nat) : Nat := cr_nr 16 c h
/-- where row k begins -/
def cr_go : Nat → Nat → Nat → Nat
  | 0, c, _ => c
  | k + 1, c, h => cr_last (cr_go k c h) h + 1
theorem cr_go_succ (k c h : Nat) : cr_go (k + 1) c h = cr_last (cr_go k c h) h + 1 := rfl
theorem cr_go_next : ∀ (k c h : Nat), cr_go (k + 1) c h = cr_go k (cr_last c h + 1) h := by
  intro k
  induction k with
  | zero => intro c h; rfl
  | succ k ih =>
    intro c h
    rw [cr_go_succ, ih, ← cr_go_succ]
theorem cr_nr_out {m d h : Nat} (hd : h < d) : cr_nr m d h = 0 := by
  cases m with
  | zero => rfl
  | succ m => unfold cr_nr; rw [if_neg (by omega)]
theorem cr_nr_in {m d h : Nat} (hd : d ≤ h) : cr_nr (m + 1) d h = 1 + cr_nr m (cr_last d h + 1) h := by
  rw [cr_nr, if_pos hd]
theorem cr_nr_step {k d h : Nat} (hk : k < 16) (hd : d ≤ h) : k + 1 + cr_nr (16 - (k + 1)) (cr_last d h + 1) h = k + cr_nr (16 - k) d h := by
  have e : 16 - k = 16 - (k + 1) + 1 := by omega
  rw [e, cr_nr_in hd]
  omega
theorem cr_go_in : ∀ {m k c h : Nat}, k < cr_nr m c h → cr_go k c h ≤ h := by
  intro m
  induction m with
  | zero => intro k c h hk; exact absurd hk (Nat.not_lt_zero _)
  | succ m ih =>
    intro k c h hk
    rcases Nat.lt_or_ge h c with q | q
    · rw [cr_nr_out q] at hk
      exact absurd hk (Nat.not_lt_zero _)
    · rw [cr_nr_in q] at hk
      cases k with
      | zero => exact q
      | succ k =>
        rw [cr_go_next]
        exact ih (by omega)
/-- behind all of its rows the range is at its end -/
theorem cr_go_end : ∀ {m c h : Nat}, cr_le m c h → h < cr_go (cr_nr m c h) c h := by
  intro m
  induction m with
  | zero => intro c h hl; exact hl
  | succ m ih =>
    intro c h hl
    rcases Nat.lt_or_ge h c with q | q
    · rw [cr_nr_out q]
      exact q
    · rw [cr_nr_in q, Nat.add_comm, cr_go_next]
      rcases hl with hl | hl
      · omega
      · exact ih hl
theorem cr_N_end {c h : Nat} (hh : h ≤ 1114111) : h < cr_go (cr_N c h) c h := cr_go_end (cr_le16 hh)
theorem cr_N_in {k c h : Nat} (hk : k < cr_N c h) : cr_go k c h ≤ h := cr_go_in hk
theorem cr_nr_le : ∀ (m c h : Nat), cr_nr m c h ≤ m := by
  intro m
  induction m with
  | zero => intro c h; exact Nat.le_refl _
  | succ m ih =>
    intro c h
    have := ih (cr_last c h + 1) h
    rw [cr_nr]
    split <;> omega
theorem cr_N_le (c h : Nat) : cr_N c h ≤ 16 := cr_nr_le 16 c h
/-- rows ahead of range j -/
def cr_tot (lo hi : Nat → Nat) : Nat → Nat
  | 0 => 0
  | j + 1 => cr_tot lo hi j + cr_N (lo j) (hi j)
theorem cr_tot_le (lo hi : Nat → Nat) : ∀ j, cr_tot lo hi j ≤ 16 * j := by
  intro j
  induction j with
  | zero => exact Nat.le_refl _
  | succ j ih =>
    have := cr_N_le (lo j) (hi j)
    show cr_tot lo hi j + cr_N (lo j) (hi j) ≤ _
    omega
theorem cr_tot_mono (lo hi : Nat → Nat) {i j : Nat} (h : i ≤ j) : cr_tot lo hi i ≤ cr_tot lo hi j := by
  induction h with
  | refl => exact Nat.le_refl _
  | step _ ih => exact Nat.le_trans ih (Nat.le_add_right _ _)
def cr_lm (L : Nat) : Nat := if L = 2 then 192 else if L = 3 then 224 else 240
theorem cr_or128 {x : Nat} (h : x < 64) : nI 128 ||| nI x = nI (128 + x) := by
  rw [cr_or, show (128 : Nat) = 2 ^ 6 * 2 by decide, cr_orl 6 2 x h]
theorem cr_orlead2 {x : Nat} (h : x < 64) : nI (cr_lm 2) ||| nI x = nI (192 + x) := by
  rw [cr_or, show cr_lm 2 = 2 ^ 6 * 3 by decide, cr_orl 6 3 x h]
theorem cr_orlead3 {x : Nat} (h : x < 32) : nI (cr_lm 3) ||| nI x = nI (224 + x) := by
  rw [cr_or, show cr_lm 3 = 2 ^ 5 * 7 by decide, cr_orl 5 7 x h]
theorem cr_orlead4 {x : Nat} (h : x < 16) : nI (cr_lm 4) ||| nI x = nI (240 + x) := by
  rw [cr_or, show cr_lm 4 = 2 ^ 4 * 15 by decide, cr_orl 4 15 x h]
theorem cr_or6 {c x : Nat} (h : x < 64) : nI (c * 64) ||| nI x = nI (c * 64 + x) := by
  rw [cr_or, show c * 64 = 2 ^ 6 * c by omega, cr_orl 6 c x h]
/-- byte i (1: the highest) of an int -/
def cr_ba (x : Int32) (i : Nat) : Nat := x.toBitVec.toNat / 2 ^ (32 - 8 * i) % 2 ^ 8
theorem cr_ba_lt (x : Int32) (i : Nat) : cr_ba x i < 256 := Nat.mod_lt _ (by decide)
def cr_dec (x : Int32) (n : Nat) : Nat := if n = 1 then cr_ba x 1 else if n = 2 then cr_ba x 1 % 32 * 64 + cr_ba x 2 % 64 else if n = 3 then (cr_ba x 1 % 16 * 64 + cr_ba x 2 % 64) * 64 + cr_ba x 3 % 64 else ((cr_ba x 1 % 8 * 64 + cr_ba x 2 % 64) * 64 + cr_ba x 3 % 64) * 64 + cr_ba x 4 % 64
theorem cr_by_lt (c i : Nat) (hc : c ≤ 1114111) : cr_by c i < 256 := by
  unfold cr_by
  split
  · split
    · omega
    · split
      · omega
      · split <;> omega
  · omega
theorem cr_starts {c : Nat} {x : Int32} {i : Nat} (h1 : 1 ≤ i) (h : ∀ j, j + 1 < i → cr_by c j = cr_ba x (j + 1)) (he : cr_by c (i - 1) = cr_ba x i) : ∀ j, j + 1 < i + 1 → cr_by c j = cr_ba x (j + 1) := by
  intro j hj
  rcases Nat.lt_or_ge (j + 1) i with q | q
  · exact h j q
  · have e : j = i - 1 := by omega
    have e2 : j + 1 = i := by omega
    rw [e2, e]
    exact he
