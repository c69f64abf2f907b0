/-! PURE: what row and takes answer -/
theorem cr_fm_le {n : Nat} {lo hi : Nat → Nat} (hO : cr_Ok n lo hi) {k : Nat} (hk : k ≤ n) : cr_fm hi k ≤ 1114112 := by
  unfold cr_fm
  split
  · omega
  · have := hO.1 (k - 1) (by omega)
    omega
theorem cr_N_ge {h : Nat} (hh : h ≤ 1114111) : ∀ {k c : Nat}, k < cr_N c h → c ≤ cr_go k c h := by
  intro k
  induction k with
  | zero => intro c _; exact Nat.le_refl _
  | succ k ih =>
    intro c hk
    have a := ih (c := c) (by omega)
    have b := cr_N_in (show k < cr_N c h by omega)
    have d := (cr_last_in b hh).1
    rw [cr_go_succ]
    omega
def cr_ra (c d : Nat) (i w : Int32) : Int32 := if i = 0 then nI (cr_len c) else if i < 0 ∨ nI (cr_len c) < i then -1 else if w = 0 then nI (cr_by c (i.toNatClampNeg - 1)) else if w = 1 then nI (cr_by d (i.toNatClampNeg - 1)) else -1
theorem cr_ra_0 {c d : Nat} {i w : Int32} (h : i = 0) : cr_ra c d i w = nI (cr_len c) := by unfold cr_ra; rw [if_pos h]
theorem cr_ra_neg {c d : Nat} {i w : Int32} (h : ¬ i = 0) (h2 : i < 0 ∨ nI (cr_len c) < i) : cr_ra c d i w = -1 := by unfold cr_ra; rw [if_neg h, if_pos h2]
theorem cr_len_le (c : Nat) : 1 ≤ cr_len c ∧ cr_len c ≤ 4 := by
  have := cr_len_in c
  omega
theorem cr_ra_in {c ii : Nat} (h1 : ii < 2 ^ 31) (h2 : 1 ≤ ii) (h3 : ii ≤ cr_len c) : ¬ nI ii = 0 ∧ ¬ (nI ii < 0 ∨ nI (cr_len c) < nI ii) := by
  have hl := cr_len_le c
  refine ⟨nI_ne0 h2 h1, fun h => ?_⟩
  rcases h with h | h
  · exact nI_pos h1 h
  · rw [nI_ltI (by omega) h1] at h
    omega
theorem cr_ra_w0 {c d ii : Nat} {w : Int32} (h1 : ii < 2 ^ 31) (h2 : 1 ≤ ii) (h3 : ii ≤ cr_len c) (hw : w = 0) : cr_ra c d (nI ii) w = nI (cr_by c (ii - 1)) := by
  have a := cr_ra_in h1 h2 h3
  unfold cr_ra
  rw [if_neg a.1, if_neg a.2, if_pos hw, nI_clamp h1]
theorem cr_ra_w1 {c d ii : Nat} {w : Int32} (h1 : ii < 2 ^ 31) (h2 : 1 ≤ ii) (h3 : ii ≤ cr_len c) (hw : w = nI 1) : cr_ra c d (nI ii) w = nI (cr_by d (ii - 1)) := by
  have a := cr_ra_in h1 h2 h3
  unfold cr_ra
  rw [if_neg a.1, if_neg a.2, if_neg (by rw [hw]; decide), if_pos (show w = 1 from hw), nI_clamp h1]
theorem cr_ra_w2 {c d : Nat} {i w : Int32} (h1 : ¬ i = 0) (h2 : ¬ i < 0) (h3 : i ≤ nI (cr_len c)) (h4 : ¬ w = 0) (h5 : ¬ w = nI 1) : cr_ra c d i w = -1 := by
  unfold cr_ra
  rw [if_neg h1, if_neg (fun h => h.elim h2 (fun q => absurd h3 (Int32.not_le.mpr q))), if_neg h4, if_neg (show ¬ w = 1 from h5)]
def cr_rowSpec (n : Nat) (lo hi : Nat → Nat) (z i w r : Int32) : Prop := ((z < 0 ∨ ∃ zz : Nat, zz < 2 ^ 31 ∧ z = nI zz ∧ cr_tot lo hi n ≤ zz) ∧ r = -1) ∨ ∃ zz j t : Nat, zz < 2 ^ 31 ∧ z = nI zz ∧ j < n ∧ t < cr_N (lo j) (hi j) ∧ zz = cr_tot lo hi j + t ∧ r = cr_ra (cr_go t (lo j) (hi j)) (cr_last (cr_go t (lo j) (hi j)) (hi j)) i w
theorem cr_tot_at {lo hi : Nat → Nat} {n j t : Nat} (hj : j < n) (ht : t < cr_N (lo j) (hi j)) : cr_tot lo hi j + t < cr_tot lo hi n := by
  have a := cr_tot_mono lo hi (show j + 1 ≤ n by omega)
  have b : cr_tot lo hi (j + 1) = cr_tot lo hi j + cr_N (lo j) (hi j) := rfl
  omega
theorem cr_tot_uniq {lo hi : Nat → Nat} {j t j' t' : Nat} (ht : t < cr_N (lo j) (hi j)) (ht' : t' < cr_N (lo j') (hi j')) (h : cr_tot lo hi j + t = cr_tot lo hi j' + t') : j = j' ∧ t = t' := by
  rcases Nat.lt_trichotomy j j' with e | e | e
  · have := cr_tot_at (lo := lo) (hi := hi) e ht
    omega
  · subst e
    exact ⟨rfl, by omega⟩
  · have := cr_tot_at (lo := lo) (hi := hi) e ht'
    omega
theorem cr_rowSpec_det {n : Nat} {lo hi : Nat → Nat} {z i w r r' : Int32} (h : cr_rowSpec n lo hi z i w r) (h' : cr_rowSpec n lo hi z i w r') : r = r' := by
  have excl : (z < 0 ∨ ∃ zz : Nat, zz < 2 ^ 31 ∧ z = nI zz ∧ cr_tot lo hi n ≤ zz) → ∀ zz j t : Nat, zz < 2 ^ 31 → z = nI zz → j < n → t < cr_N (lo j) (hi j) → zz = cr_tot lo hi j + t → False := by
    intro q zz j t h1 h2 h3 h4 h5
    have a := cr_tot_at (lo := lo) (hi := hi) h3 h4
    rcases q with q | ⟨z2, k1, k2, k3⟩
    · rw [h2] at q
      exact nI_pos h1 q
    · rw [h2, nI_eq h1 k1] at k2
      omega
  rcases h with ⟨a, b⟩ | ⟨zz, j, t, h1, h2, h3, h4, h5, h6⟩
  · rcases h' with ⟨_, b'⟩ | ⟨zz, j, t, h1, h2, h3, h4, h5, _⟩
    · rw [b, b']
    · exact (excl a zz j t h1 h2 h3 h4 h5).elim
  · rcases h' with ⟨a', _⟩ | ⟨z2, j2, t2, k1, k2, k3, k4, k5, k6⟩
    · exact (excl a' zz j t h1 h2 h3 h4 h5).elim
    · rw [h2, nI_eq h1 k1] at k2
      obtain ⟨e1, e2⟩ := cr_tot_uniq h4 k4 (by omega)
      subst e1
      subst e2
      rw [h6, k6]
def cr_Tk (S : Nat → Prop) (y z : Int32) : Prop := ∃ zz c : Nat, z = nI zz ∧ 1 ≤ zz ∧ zz ≤ 4 ∧ S c ∧ cr_len c = zz ∧ ∀ i, i < zz → cr_by c i = cr_ba y (i + 1)
theorem cr_Tk_out {S : Nat → Prop} {y z : Int32} (h : z.toInt < 1 ∨ 4 < z.toInt) : ¬ cr_Tk S y z := by
  rintro ⟨zz, c, e, h1, h2, _⟩
  rw [e, nI_toInt (by omega)] at h
  omega
theorem cr_dec_by {y : Int32} {c zz : Nat} (hc : c ≤ 1114111) (h1 : 1 ≤ zz) (h2 : zz ≤ 4) (hl : cr_len c = zz) (hb : ∀ i, i < zz → cr_by c i = cr_ba y (i + 1)) : cr_dec y zz = c := by
  have hin := cr_len_in c
  rcases (show zz = 1 ∨ zz = 2 ∨ zz = 3 ∨ zz = 4 by omega) with e | e | e | e
  · subst e
    have b0 := hb 0 (by omega)
    rw [cr_by1 (by omega)] at b0
    show cr_ba y 1 = c
    exact b0.symm
  · subst e
    have q := cr_by2 (c := c) (by omega) (by omega)
    have b0 := hb 0 (by omega)
    have b1 := hb 1 (by omega)
    show cr_ba y (0 + 1) % 32 * 64 + cr_ba y (1 + 1) % 64 = c
    omega
  · subst e
    have q := cr_by3 (c := c) (by omega) (by omega)
    have b0 := hb 0 (by omega)
    have b1 := hb 1 (by omega)
    have b2 := hb 2 (by omega)
    show (cr_ba y (0 + 1) % 16 * 64 + cr_ba y (1 + 1) % 64) * 64 + cr_ba y (2 + 1) % 64 = c
    omega
  · subst e
    have q := cr_by4 (c := c) (by omega)
    have b0 := hb 0 (by omega)
    have b1 := hb 1 (by omega)
    have b2 := hb 2 (by omega)
    have b3 := hb 3 (by omega)
    show ((cr_ba y (0 + 1) % 8 * 64 + cr_ba y (1 + 1) % 64) * 64 + cr_ba y (2 + 1) % 64) * 64 + cr_ba y (3 + 1) % 64 = c
    omega
theorem cr_Tk_dec {n : Nat} {f g : Nat → Int32} {S : Nat → Prop} (hSet : cr_Set n f g S) {y : Int32} {zz : Nat} (h1 : 1 ≤ zz) (h2 : zz ≤ 4) (h : cr_Tk S y (nI zz)) : S (cr_dec y zz) ∧ cr_len (cr_dec y zz) = zz ∧ ∀ i, i < zz → cr_by (cr_dec y zz) i = cr_ba y (i + 1) := by
  obtain ⟨z2, c, e, k1, k2, k3, k4, k5⟩ := h
  rw [nI_eq (by omega) (by omega)] at e
  subst e
  have q := cr_dec_by (hSet.char k3).1 h1 h2 k4 k5
  rw [q]
  exact ⟨k3, k4, k5⟩
theorem cr_Tk_S {n : Nat} {f g : Nat → Int32} {S : Nat → Prop} (hSet : cr_Set n f g S) {y : Int32} {zz : Nat} (h1 : 1 ≤ zz) (h2 : zz ≤ 4) (h : cr_Tk S y (nI zz)) : S (cr_dec y zz) := (cr_Tk_dec hSet h1 h2 h).1
theorem cr_Tk_len {n : Nat} {f g : Nat → Int32} {S : Nat → Prop} (hSet : cr_Set n f g S) {y : Int32} {zz : Nat} (h1 : 1 ≤ zz) (h2 : zz ≤ 4) (h : cr_Tk S y (nI zz)) : cr_len (cr_dec y zz) = zz := (cr_Tk_dec hSet h1 h2 h).2.1
theorem cr_Tk_by {n : Nat} {f g : Nat → Int32} {S : Nat → Prop} (hSet : cr_Set n f g S) {y : Int32} {zz : Nat} (h1 : 1 ≤ zz) (h2 : zz ≤ 4) (h : cr_Tk S y (nI zz)) : ∀ i, i < zz → cr_by (cr_dec y zz) i = cr_ba y (i + 1) := (cr_Tk_dec hSet h1 h2 h).2.2
theorem cr_dec_lt (y : Int32) (zz : Nat) : cr_dec y zz < 2097152 := by
  have h1 := cr_ba_lt y 1
  unfold cr_dec
  split
  · omega
  · split
    · omega
    · split <;> omega
theorem cr_Hs_big {n : Nat} {f g : Nat → Int32} {S : Nat → Prop} (hSet : cr_Set n f g S) {c : Nat} (h : c < 2 ^ 31) : cr_Hs S (nI c) ↔ S c := by
  constructor
  · rintro ⟨d, hd, e, hs⟩
    rw [nI_eq h (by omega)] at e
    rw [e]
    exact hs
  · intro hs
    exact ⟨c, (hSet.char hs).1, rfl, hs⟩
