/-! PURE: steps of the class's methods on sets -/
theorem cr_Hs_nI {S : Nat → Prop} {c : Nat} (h : c ≤ 1114111) : cr_Hs S (nI c) ↔ S c := by
  constructor
  · rintro ⟨d, hd, e, hs⟩
    rw [nI_eq (by omega) (by omega)] at e
    rw [e]
    exact hs
  · intro hs
    exact ⟨c, h, rfl, hs⟩
theorem cr_two_11 {S : Nat → Prop} {p q : Nat} (h1 : S p) (h2 : S q) (c : Nat) : S c ↔ (S c ∨ ((c = p ∨ c = q) ∧ (S p ∨ S q))) := by
  constructor
  · exact Or.inl
  · rintro (h | ⟨e | e, _⟩)
    · exact h
    · rw [e]; exact h1
    · rw [e]; exact h2
theorem cr_two_00 {S : Nat → Prop} {p q : Nat} (h1 : ¬ S p) (h2 : ¬ S q) (c : Nat) : S c ↔ (S c ∨ ((c = p ∨ c = q) ∧ (S p ∨ S q))) := by
  constructor
  · exact Or.inl
  · rintro (h | ⟨_, e | e⟩)
    · exact h
    · exact absurd e h1
    · exact absurd e h2
theorem cr_two_10 {S : Nat → Prop} {p q : Nat} (h1 : S p) (_h2 : ¬ S q) (hq : q < 2 ^ 31) (c : Nat) : (S c ∨ ((nI q).toInt ≤ (c : Int) ∧ (c : Int) ≤ (nI q).toInt)) ↔ (S c ∨ ((c = p ∨ c = q) ∧ (S p ∨ S q))) := by
  rw [nI_toInt hq]
  constructor
  · rintro (h | h)
    · exact Or.inl h
    · exact Or.inr ⟨Or.inr (by omega), Or.inl h1⟩
  · rintro (h | ⟨e | e, _⟩)
    · exact Or.inl h
    · rw [e]; exact Or.inl h1
    · exact Or.inr (by omega)
theorem cr_two_01 {S : Nat → Prop} {p q : Nat} (_h1 : ¬ S p) (h2 : S q) (hp : p < 2 ^ 31) (c : Nat) : (S c ∨ ((nI p).toInt ≤ (c : Int) ∧ (c : Int) ≤ (nI p).toInt)) ↔ (S c ∨ ((c = p ∨ c = q) ∧ (S p ∨ S q))) := by
  rw [nI_toInt hp]
  constructor
  · rintro (h | h)
    · exact Or.inl h
    · exact Or.inr ⟨Or.inl (by omega), Or.inr h2⟩
  · rintro (h | ⟨e | e, _⟩)
    · exact Or.inl h
    · exact Or.inr (by omega)
    · rw [e]; exact Or.inl h2
theorem cr_In_zero {S : Nat → Prop} {lo hi : Nat → Nat} {c : Nat} : S c ↔ (S c ∨ cr_In 0 lo hi c) := by
  constructor
  · exact Or.inl
  · rintro (h | ⟨j, hj, _⟩)
    · exact h
    · exact absurd hj (Nat.not_lt_zero _)
/-- behind the first k ranges -/
def cr_fm (hi : Nat → Nat) (k : Nat) : Nat := if k = 0 then 0 else hi (k - 1) + 1
theorem cr_fm_succ (hi : Nat → Nat) (k : Nat) : cr_fm hi (k + 1) = hi k + 1 := by
  unfold cr_fm
  rw [if_neg (by omega)]
  rfl
theorem cr_In_below {n : Nat} {lo hi : Nat → Nat} (hO : cr_Ok n lo hi) {k : Nat} (hk : k ≤ n) (c : Nat) : cr_In k lo hi c ↔ (cr_In n lo hi c ∧ c < cr_fm hi k) := by
  unfold cr_fm
  constructor
  · rintro ⟨j, hj, a, b⟩
    refine ⟨⟨j, by omega, a, b⟩, ?_⟩
    rw [if_neg (by omega)]
    have := (hO.mono (show j ≤ k - 1 by omega) (by omega)).1
    omega
  · rintro ⟨⟨j, hj, a, b⟩, h⟩
    rcases Nat.eq_zero_or_pos k with e | e
    · rw [if_pos e] at h
      exact absurd h (Nat.not_lt_zero _)
    · rw [if_neg (by omega)] at h
      refine ⟨j, ?_, a, b⟩
      rcases Nat.lt_or_ge j k with q | q
      · exact q
      · have := hO.lt (show k - 1 < j by omega) hj
        omega
theorem cr_Bd_below {P : List Nat} {S : Nat → Prop} (h : cr_Bd P S) (a : Nat) : cr_Bd (a :: P) (fun c => S c ∧ c < a) :=
  (h.more (fun _ q => List.mem_cons_of_mem _ q)).and1 (cr_Bd.below (List.mem_cons_of_mem _ h.1) List.mem_cons_self)
theorem cr_Bd_join {n : Nat} {lo hi : Nat → Nat} {S K : Nat → Prop} {P : List Nat} (hO : cr_Ok n lo hi) (hI : ∀ c, cr_In n lo hi c ↔ K c) (hB : cr_Bd P S) (hBK : cr_Bd P K) {k : Nat} (hk : k ≤ n) : cr_Bd (cr_fm hi k :: P) (fun c => S c ∨ cr_In k lo hi c) := by
  have a : cr_Bd (cr_fm hi k :: P) S := hB.more (fun _ q => List.mem_cons_of_mem _ q)
  have b := cr_Bd_below hBK (cr_fm hi k)
  exact (a.or1 b).iff (fun c => by rw [cr_In_below hO hk, hI c])
theorem cr_join_step {n : Nat} {lo hi : Nat → Nat} {S : Nat → Prop} (hO : cr_Ok n lo hi) {k : Nat} (hk : k < n) (c : Nat) : ((S c ∨ cr_In k lo hi c) ∨ ((nI (lo k)).toInt ≤ (c : Int) ∧ (c : Int) ≤ (nI (hi k)).toInt)) ↔ (S c ∨ cr_In (k + 1) lo hi c) := by
  have q := hO.1 k hk
  rw [nI_toInt (by omega), nI_toInt (by omega)]
  constructor
  · rintro ((h | ⟨j, hj, a, b⟩) | h)
    · exact Or.inl h
    · exact Or.inr ⟨j, by omega, a, b⟩
    · exact Or.inr ⟨k, by omega, by omega, by omega⟩
  · rintro (h | ⟨j, hj, a, b⟩)
    · exact Or.inl (Or.inl h)
    · rcases Nat.lt_or_ge j k with e | e
      · exact Or.inl (Or.inr ⟨j, e, a, b⟩)
      · have : j = k := by omega
        subst this
        exact Or.inr (by omega)
/-- what firstOfRow answers -/
def cr_first_of (n : Nat) (lo hi : Nat → Nat) (z r : Int32) : Prop := (z < 0 ∧ r = -1) ∨ ∃ zz : Nat, zz < 2 ^ 31 ∧ z = nI zz ∧ ((cr_tot lo hi n ≤ zz ∧ r = -1) ∨ ∃ k t, k < n ∧ t < cr_N (lo k) (hi k) ∧ zz = cr_tot lo hi k + t ∧ r = nI (cr_go t (lo k) (hi k)))
theorem cr_Set.copy {n : Nat} {f g f3 g3 : Nat → Int32} {S : Nat → Prop} (h : cr_Set n f g S) : cr_Set n (va_cpy f f3 0 0 n) (va_cpy g g3 0 0 n) S := by
  obtain ⟨lo, hi, a, b, d⟩ := h
  exact ⟨lo, hi, fun j hj => by rw [sb_cpy0 hj, sb_cpy0 hj]; exact a j hj, b, d⟩
/-- turning: what was not in it, up to range k -/
def cr_Tn (S : Nat → Prop) (a c : Nat) : Prop := (cr_ch c ∧ ¬ S c) ∧ c < a
theorem cr_Bd_turn {S : Nat → Prop} {P : List Nat} (hB : cr_Bd P S) (hp : ∀ c, c ∈ cr_base → c ∈ P) (a : Nat) : cr_Bd (a :: P) (cr_Tn S a) :=
  cr_Bd_below ((cr_Bd.ch hp).and1 hB.not1) a
theorem cr_turn_step {n : Nat} {lo hi : Nat → Nat} {S : Nat → Prop} (hO : cr_Ok n lo hi) (hI : ∀ c, cr_In n lo hi c ↔ S c) {k : Nat} (hk : k < n) (c : Nat) : (cr_Tn S (cr_fm hi k) c ∨ (cr_fm hi k ≤ c ∧ (c : Int) ≤ (lo k : Int) - 1 ∧ cr_ch c)) ↔ cr_Tn S (cr_fm hi (k + 1)) c := by
  have q := hO.1 k hk
  rw [cr_fm_succ]
  have hf : cr_fm hi k ≤ lo k := by
    unfold cr_fm
    split
    · omega
    · have := hO.lt (show k - 1 < k by omega) hk
      omega
  have mid : ∀ c, cr_fm hi k ≤ c → c < lo k → ¬ S c := by
    intro c h1 h2 h3
    obtain ⟨j, hj, a, b⟩ := (hI c).2 h3
    rcases Nat.lt_or_ge j k with e | e
    · have := ((cr_In_below hO (Nat.le_of_lt hk) c).1 ⟨j, e, a, b⟩).2
      omega
    · have := (hO.mono e hj).2
      omega
  have ins : ∀ c, lo k ≤ c → c ≤ hi k → S c := fun c h1 h2 => (hI c).1 ⟨k, hk, h1, h2⟩
  unfold cr_Tn
  constructor
  · rintro (⟨h, h1⟩ | ⟨h1, h2, h3⟩)
    · exact ⟨h, by omega⟩
    · exact ⟨⟨h3, mid c h1 (by omega)⟩, by omega⟩
  · rintro ⟨⟨h1, h2⟩, h3⟩
    rcases Nat.lt_or_ge c (cr_fm hi k) with e | e
    · exact Or.inl ⟨⟨h1, h2⟩, e⟩
    · rcases Nat.lt_or_ge c (lo k) with e2 | e2
      · exact Or.inr ⟨e, by omega, h1⟩
      · exact absurd (ins c e2 (by omega)) h2
theorem cr_turn_end {n : Nat} {lo hi : Nat → Nat} {S : Nat → Prop} (hO : cr_Ok n lo hi) (hI : ∀ c, cr_In n lo hi c ↔ S c) (c : Nat) : (cr_Tn S (cr_fm hi n) c ∨ (cr_fm hi n ≤ c ∧ (c : Int) ≤ 1114111 ∧ cr_ch c)) ↔ (cr_ch c ∧ ¬ S c) := by
  unfold cr_Tn
  constructor
  · rintro (⟨h, _⟩ | ⟨h1, _, h3⟩)
    · exact h
    · refine ⟨h3, fun hs => ?_⟩
      have := ((cr_In_below hO (Nat.le_refl n) c).1 ((hI c).2 hs)).2
      omega
  · intro h
    rcases Nat.lt_or_ge c (cr_fm hi n) with e | e
    · exact Or.inl ⟨h, e⟩
    · exact Or.inr ⟨e, by have := h.1; unfold cr_ch at this; omega, h.1⟩
theorem cr_or3 {P A B C : Prop} (h : (A ∨ B) ↔ C) : ((P ∨ A) ∨ B) ↔ (P ∨ C) := by
  rw [or_assoc]
  exact or_congr_right h
