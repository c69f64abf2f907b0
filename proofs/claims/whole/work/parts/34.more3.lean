/-! PURE: finds, row -/
theorem cr_lol_le (L : Nat) : cr_lol L ≤ 1114111 := by
  unfold cr_lol
  split
  · omega
  · split
    · omega
    · split <;> omega
theorem cr_go_le {c h : Nat} (hc : c ≤ 1114112) (hh : h ≤ 1114111) : ∀ {t : Nat}, t ≤ cr_N c h → cr_go t c h ≤ 1114112 := by
  intro t
  cases t with
  | zero => intro _; exact hc
  | succ t =>
    intro ht
    have a := cr_N_in (show t < cr_N c h by omega)
    have b := (cr_last_in a hh).2.1
    rw [cr_go_succ]
    omega
theorem cr_N_lt {c h t : Nat} (hh : h ≤ 1114111) (ht : t ≤ cr_N c h) (hg : cr_go t c h ≤ h) : t < cr_N c h := by
  rcases Nat.eq_or_lt_of_le ht with e | e
  · have := cr_N_end (c := c) hh
    rw [← e] at this
    omega
  · exact e
theorem cr_tot_end {lo hi : Nat → Nat} {k t : Nat} (ht : t ≤ cr_N (lo k) (hi k)) (hg : hi k < cr_go t (lo k) (hi k)) : cr_tot lo hi (k + 1) = cr_tot lo hi k + t := by
  rcases Nat.eq_or_lt_of_le ht with e | e
  · show cr_tot lo hi k + cr_N (lo k) (hi k) = _
    rw [e]
  · have := cr_N_in e
    omega
theorem cr_find_s {a zz : Nat} {z : Int32} (h : a ≤ zz) (hz : zz < 2 ^ 31) (e : z = nI zz) (hn : ¬ nI a = z) : a + 1 ≤ zz := by
  rcases Nat.eq_or_lt_of_le h with q | q
  · rw [e, q] at hn
    exact absurd rfl hn
  · exact q
theorem cr_no_row {n : Nat} {lo hi : Nat → Nat} {z : Int32} (h : ∀ zz : Nat, zz < 2 ^ 31 → z = nI zz → cr_tot lo hi n ≤ zz) : z < 0 ∨ ∃ zz : Nat, zz < 2 ^ 31 ∧ z = nI zz ∧ cr_tot lo hi n ≤ zz := by
  by_cases e : z < 0
  · exact Or.inl e
  · obtain ⟨zz, h1, h2⟩ := nI_of e
    exact Or.inr ⟨zz, h1, h2, h zz h1 h2⟩
