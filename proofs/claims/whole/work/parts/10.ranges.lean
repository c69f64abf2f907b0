/-! PURE: ranges of characters -/
def cr_ch (c : Nat) : Prop := c ≤ 1114111 ∧ (c < 55296 ∨ 57344 ≤ c)
def cr_In (n : Nat) (lo hi : Nat → Nat) (c : Nat) : Prop := ∃ j, j < n ∧ lo j ≤ c ∧ c ≤ hi j
def cr_Ok (n : Nat) (lo hi : Nat → Nat) : Prop := (∀ j, j < n → lo j ≤ hi j ∧ hi j ≤ 1114111 ∧ (hi j < 55296 ∨ 57344 ≤ lo j)) ∧ ∀ j, j + 1 < n → hi j + 1 < lo (j + 1)
theorem cr_Ok.apart {n : Nat} {lo hi : Nat → Nat} (h : cr_Ok n lo hi) : ∀ (d i : Nat), i + d + 1 < n → hi i + 1 < lo (i + d + 1) := by
  intro d
  induction d with
  | zero => intro i hi'; exact h.2 i hi'
  | succ d ih =>
    intro i hi'
    have a := ih i (by omega)
    have b := h.1 (i + d + 1) (by omega)
    have c := h.2 (i + d + 1) (by omega)
    have e : i + (d + 1) + 1 = i + d + 1 + 1 := by omega
    rw [e]
    omega
theorem cr_Ok.lt {n : Nat} {lo hi : Nat → Nat} (h : cr_Ok n lo hi) {i j : Nat} (hij : i < j) (hj : j < n) : hi i + 1 < lo j := by
  have := h.apart (j - i - 1) i (by omega)
  have e : i + (j - i - 1) + 1 = j := by omega
  rw [e] at this
  exact this
theorem cr_Ok.char {n : Nat} {lo hi : Nat → Nat} (h : cr_Ok n lo hi) {c : Nat} (hc : cr_In n lo hi c) : cr_ch c := by
  obtain ⟨j, hj, h1, h2⟩ := hc
  have := h.1 j hj
  unfold cr_ch
  omega
theorem cr_half {n n' : Nat} {lo hi lo' hi' : Nat → Nat} (h : cr_Ok n lo hi) (h' : cr_Ok n' lo' hi') (hs : ∀ c, cr_In n lo hi c → cr_In n' lo' hi' c) {j : Nat} (hj : j < n) (hj' : j < n') (he : ∀ i, i < j → lo i = lo' i ∧ hi i = hi' i) : lo' j ≤ lo j := by
  obtain ⟨i, hi1, h1, h2⟩ := hs (lo j) ⟨j, hj, Nat.le_refl _, (h.1 j hj).1⟩
  rcases Nat.lt_trichotomy i j with q | q | q
  · have a := h.lt q hj
    have b := (he i q).2
    omega
  · subst q
    exact h1
  · have a := h'.lt q hi1
    have b := h'.1 j hj'
    omega
theorem cr_half2 {n n' : Nat} {lo hi lo' hi' : Nat → Nat} (h : cr_Ok n lo hi) (_h' : cr_Ok n' lo' hi') (hs : ∀ c, cr_In n' lo' hi' c → cr_In n lo hi c) {j : Nat} (hj : j < n) (hj' : j < n') (hl : lo j = lo' j) : hi' j ≤ hi j := by
  rcases Nat.lt_or_ge (hi j) (hi' j) with q | q
  · exfalso
    have a := h.1 j hj
    obtain ⟨i, hi1, h1, h2⟩ := hs (hi j + 1) ⟨j, hj', by omega, by omega⟩
    rcases Nat.lt_trichotomy i j with e | e | e
    · have b := h.lt e hj
      omega
    · subst e
      omega
    · have b := h.lt e hi1
      omega
  · exact q
theorem cr_same {n n' : Nat} {lo hi lo' hi' : Nat → Nat} (h : cr_Ok n lo hi) (h' : cr_Ok n' lo' hi') (hs : ∀ c, cr_In n lo hi c ↔ cr_In n' lo' hi' c) : ∀ j, j < n → j < n' → lo j = lo' j ∧ hi j = hi' j := by
  intro j
  induction j using Nat.strongRecOn with
  | ind j ih =>
    intro hj hj'
    have he : ∀ i, i < j → lo i = lo' i ∧ hi i = hi' i := fun i hi1 => ih i hi1 (by omega) (by omega)
    have he' : ∀ i, i < j → lo' i = lo i ∧ hi' i = hi i := fun i hi1 => ⟨(he i hi1).1.symm, (he i hi1).2.symm⟩
    have a := cr_half h h' (fun c => (hs c).1) hj hj' he
    have b := cr_half h' h (fun c => (hs c).2) hj' hj he'
    have e : lo j = lo' j := Nat.le_antisymm b a
    have a2 := cr_half2 h h' (fun c => (hs c).2) hj hj' e
    have b2 := cr_half2 h' h (fun c => (hs c).1) hj' hj e.symm
    exact ⟨e, Nat.le_antisymm b2 a2⟩
theorem cr_nle {n n' : Nat} {lo hi lo' hi' : Nat → Nat} (h : cr_Ok n lo hi) (h' : cr_Ok n' lo' hi') (hs : ∀ c, cr_In n lo hi c ↔ cr_In n' lo' hi' c) : n' ≤ n := by
  rcases Nat.lt_or_ge n n' with q | q
  · exfalso
    obtain ⟨i, hi1, h1, h2⟩ := (hs (lo' n)).2 ⟨n, q, Nat.le_refl _, (h'.1 n q).1⟩
    have e := cr_same h h' hs i hi1 (by omega)
    have b := h'.lt hi1 q
    omega
  · exact q
theorem cr_uniq {n n' : Nat} {lo hi lo' hi' : Nat → Nat} (h : cr_Ok n lo hi) (h' : cr_Ok n' lo' hi') (hs : ∀ c, cr_In n lo hi c ↔ cr_In n' lo' hi' c) : n = n' ∧ ∀ j, j < n → lo j = lo' j ∧ hi j = hi' j := by
  have a := cr_nle h h' hs
  have b := cr_nle h' h (fun c => (hs c).symm)
  exact ⟨Nat.le_antisymm b a, fun j hj => cr_same h h' hs j hj (by omega)⟩
/-! how many there can be -/
theorem cr_pig : ∀ (k : Nat) (f : Nat → Nat) (P : List Nat), (∀ i j, i < j → j < k → f i < f j) → (∀ i, i < k → f i ∈ P) → k ≤ P.length := by
  intro k
  induction k with
  | zero => intro f P _ _; exact Nat.zero_le _
  | succ k ih =>
    intro f P hf hm
    have hk := hm k (by omega)
    have h1 := ih f (P.erase (f k)) (fun i j hij hj => hf i j hij (by omega)) (fun i hi => by
      have := hf i k hi (by omega)
      exact (List.mem_erase_of_ne (by omega)).mpr (hm i (by omega)))
    have h2 := List.length_erase_of_mem hk
    have h3 : 0 < P.length := List.length_pos_of_mem hk
    omega
def cr_pt (lo hi : Nat → Nat) (i : Nat) : Nat := if i % 2 = 0 then lo (i / 2) else hi (i / 2) + 1
theorem cr_pt_step {n : Nat} {lo hi : Nat → Nat} (h : cr_Ok n lo hi) (i : Nat) (hi1 : i + 1 < 2 * n) : cr_pt lo hi i < cr_pt lo hi (i + 1) := by
  unfold cr_pt
  rcases Nat.mod_two_eq_zero_or_one i with e | e
  · have e2 : (i + 1) % 2 ≠ 0 := by omega
    have e3 : (i + 1) / 2 = i / 2 := by omega
    rw [if_pos e, if_neg e2, e3]
    have := h.1 (i / 2) (by omega)
    omega
  · have e0 : i % 2 ≠ 0 := by omega
    have e2 : (i + 1) % 2 = 0 := by omega
    have e3 : (i + 1) / 2 = i / 2 + 1 := by omega
    rw [if_neg e0, if_pos e2, e3]
    exact h.2 (i / 2) (by omega)
theorem cr_pt_lt {n : Nat} {lo hi : Nat → Nat} (h : cr_Ok n lo hi) : ∀ (d i : Nat), i + d + 1 < 2 * n → cr_pt lo hi i < cr_pt lo hi (i + d + 1) := by
  intro d
  induction d with
  | zero => intro i hi1; exact cr_pt_step h i hi1
  | succ d ih =>
    intro i hi1
    have a := ih i (by omega)
    have b := cr_pt_step h (i + d + 1) (by omega)
    have e : i + (d + 1) + 1 = i + d + 1 + 1 := by omega
    rw [e]
    omega
theorem cr_count {n : Nat} {lo hi : Nat → Nat} (h : cr_Ok n lo hi) (P : List Nat) (hl : ∀ j, j < n → lo j ∈ P ∧ hi j + 1 ∈ P) : 2 * n ≤ P.length := by
  refine cr_pig (2 * n) (cr_pt lo hi) P (fun i j hij hj => ?_) (fun i hi1 => ?_)
  · have := cr_pt_lt h (j - i - 1) i (by omega)
    have e : i + (j - i - 1) + 1 = j := by omega
    rw [e] at this
    exact this
  · have a := hl (i / 2) (by omega)
    unfold cr_pt
    split
    · exact a.1
    · exact a.2
/-- the places where the set begins or ends lie in P -/
def cr_Bd (P : List Nat) (S : Nat → Prop) : Prop := 0 ∈ P ∧ ∀ c, c + 1 ∉ P → (S (c + 1) ↔ S c)
theorem cr_Bd.count {P : List Nat} {S : Nat → Prop} (hB : cr_Bd P S) {n : Nat} {lo hi : Nat → Nat} (h : cr_Ok n lo hi) (hS : ∀ c, cr_In n lo hi c ↔ S c) : 2 * n ≤ P.length := by
  refine cr_count h P (fun j hj => ⟨?_, ?_⟩)
  · rcases Nat.eq_zero_or_pos (lo j) with e | e
    · rw [e]; exact hB.1
    · apply Classical.byContradiction
      intro hn
      have e2 : lo j - 1 + 1 = lo j := by omega
      have a := hB.2 (lo j - 1) (by rw [e2]; exact hn)
      rw [e2, ← hS, ← hS] at a
      obtain ⟨i, hi1, h1, h2⟩ := a.1 ⟨j, hj, Nat.le_refl _, (h.1 j hj).1⟩
      rcases Nat.lt_trichotomy i j with q | q | q
      · have b := h.lt q hj
        omega
      · subst q
        omega
      · have b := h.lt q hi1
        have b2 := h.1 j hj
        omega
  · apply Classical.byContradiction
    intro hn
    have a := hB.2 (hi j) hn
    rw [← hS, ← hS] at a
    obtain ⟨i, hi1, h1, h2⟩ := a.2 ⟨j, hj, (h.1 j hj).1, Nat.le_refl _⟩
    rcases Nat.lt_trichotomy i j with q | q | q
    · have b := h.lt q hj
      have b2 := h.1 j hj
      omega
    · subst q
      omega
    · have b := h.lt q hi1
      omega
theorem cr_Bd.more {P P' : List Nat} {S : Nat → Prop} (h : cr_Bd P S) (hp : ∀ c, c ∈ P → c ∈ P') : cr_Bd P' S := ⟨hp 0 h.1, fun c hc => h.2 c (fun q => hc (hp _ q))⟩
theorem cr_Bd.or {P P' : List Nat} {S T : Nat → Prop} (h : cr_Bd P S) (h' : cr_Bd P' T) : cr_Bd (P ++ P') (fun c => S c ∨ T c) := by
  refine ⟨List.mem_append_left _ h.1, fun c hc => ?_⟩
  rw [List.mem_append, not_or] at hc
  have a := h.2 c hc.1
  have b := h'.2 c hc.2
  show (S (c + 1) ∨ T (c + 1)) ↔ (S c ∨ T c)
  rw [a, b]
theorem cr_Bd.or1 {P : List Nat} {S T : Nat → Prop} (h : cr_Bd P S) (h' : cr_Bd P T) : cr_Bd P (fun c => S c ∨ T c) := by
  refine ⟨h.1, fun c hc => ?_⟩
  have a := h.2 c hc
  have b := h'.2 c hc
  show (S (c + 1) ∨ T (c + 1)) ↔ (S c ∨ T c)
  rw [a, b]
theorem cr_Bd.and1 {P : List Nat} {S T : Nat → Prop} (h : cr_Bd P S) (h' : cr_Bd P T) : cr_Bd P (fun c => S c ∧ T c) := by
  refine ⟨h.1, fun c hc => ?_⟩
  have a := h.2 c hc
  have b := h'.2 c hc
  show (S (c + 1) ∧ T (c + 1)) ↔ (S c ∧ T c)
  rw [a, b]
theorem cr_Bd.not1 {P : List Nat} {S : Nat → Prop} (h : cr_Bd P S) : cr_Bd P (fun c => ¬ S c) := by
  refine ⟨h.1, fun c hc => ?_⟩
  have a := h.2 c hc
  show ¬ S (c + 1) ↔ ¬ S c
  rw [a]
theorem cr_Bd.iff {P : List Nat} {S T : Nat → Prop} (h : cr_Bd P S) (hs : ∀ c, S c ↔ T c) : cr_Bd P T := ⟨h.1, fun c hc => by rw [← hs, ← hs]; exact h.2 c hc⟩
/-- the ends of all characters, and of the gap in them -/
def cr_base : List Nat := [0, 55296, 57344, 1114112]
theorem cr_Bd.ch {P : List Nat} (hp : ∀ c, c ∈ cr_base → c ∈ P) : cr_Bd P cr_ch := by
  refine ⟨hp 0 (by decide), fun c hc => ?_⟩
  have h1 : c + 1 ≠ 55296 := fun q => hc (hp _ (by rw [q]; decide))
  have h2 : c + 1 ≠ 57344 := fun q => hc (hp _ (by rw [q]; decide))
  have h3 : c + 1 ≠ 1114112 := fun q => hc (hp _ (by rw [q]; decide))
  unfold cr_ch
  omega
theorem cr_Bd.seg {P : List Nat} {a b : Nat} (h0 : 0 ∈ P) (ha : a ∈ P) (hb : b + 1 ∈ P) : cr_Bd P (fun c => a ≤ c ∧ c ≤ b) := by
  refine ⟨h0, fun c hc => ?_⟩
  have h1 : c + 1 ≠ a := fun q => hc (by rw [q]; exact ha)
  have h2 : c + 1 ≠ b + 1 := fun q => hc (by rw [q]; exact hb)
  show (a ≤ c + 1 ∧ c + 1 ≤ b) ↔ (a ≤ c ∧ c ≤ b)
  omega
theorem cr_Bd.below {P : List Nat} {a : Nat} (h0 : 0 ∈ P) (ha : a ∈ P) : cr_Bd P (fun c => c < a) := by
  refine ⟨h0, fun c hc => ?_⟩
  have h1 : c + 1 ≠ a := fun q => hc (by rw [q]; exact ha)
  show c + 1 < a ↔ c < a
  omega
/-! arrays that hold ranges -/
def cr_Rp (n : Nat) (lo hi : Nat → Nat) (f g : Nat → Int32) : Prop := ∀ j, j < n → f j = nI (lo j) ∧ g j = nI (hi j)
/-- the arrays f, g tell the set S, in n ranges -/
def cr_Set (n : Nat) (f g : Nat → Int32) (S : Nat → Prop) : Prop := ∃ lo hi : Nat → Nat, cr_Rp n lo hi f g ∧ cr_Ok n lo hi ∧ ∀ c, cr_In n lo hi c ↔ S c
theorem cr_Set.iff {n : Nat} {f g : Nat → Int32} {S T : Nat → Prop} (h : cr_Set n f g S) (hs : ∀ c, S c ↔ T c) : cr_Set n f g T := by
  obtain ⟨lo, hi, a, b, c⟩ := h
  exact ⟨lo, hi, a, b, fun x => (c x).trans (hs x)⟩
theorem cr_Set.zero {f g : Nat → Int32} : cr_Set 0 f g (fun _ => False) := ⟨fun _ => 0, fun _ => 0, fun j hj => absurd hj (by omega), ⟨fun j hj => absurd hj (by omega), fun j hj => absurd hj (by omega)⟩, fun c => ⟨fun ⟨j, hj, _⟩ => absurd hj (by omega), fun h => h.elim⟩⟩
theorem cr_Set.char {n : Nat} {f g : Nat → Int32} {S : Nat → Prop} (h : cr_Set n f g S) {c : Nat} (hc : S c) : cr_ch c := by
  obtain ⟨lo, hi, _, b, d⟩ := h
  exact b.char ((d c).2 hc)
theorem cr_Set.count {n : Nat} {f g : Nat → Int32} {S : Nat → Prop} (h : cr_Set n f g S) {P : List Nat} (hB : cr_Bd P S) : 2 * n ≤ P.length := by
  obtain ⟨lo, hi, _, b, d⟩ := h
  exact hB.count b d
theorem cr_Set.uniq {n n' : Nat} {f g f' g' : Nat → Int32} {S : Nat → Prop} (h : cr_Set n f g S) (h' : cr_Set n' f' g' S) : n = n' ∧ ∀ j, j < n → f j = f' j ∧ g j = g' j := by
  obtain ⟨lo, hi, a, b, d⟩ := h
  obtain ⟨lo', hi', a', b', d'⟩ := h'
  obtain ⟨e, q⟩ := cr_uniq b b' (fun c => (d c).trans (d' c).symm)
  refine ⟨e, fun j hj => ?_⟩
  have x := q j hj
  have y := a j hj
  have z := a' j (by omega)
  rw [y.1, y.2, z.1, z.2, x.1, x.2]
  exact ⟨rfl, rfl⟩
/-! one more range -/
def cr_insf (f : Nat → Nat) (k x : Nat) : Nat → Nat := fun j => if j < k then f j else if j = k then x else f (j - 1)
theorem cr_insf_lt {f : Nat → Nat} {k x j : Nat} (h : j < k) : cr_insf f k x j = f j := by unfold cr_insf; rw [if_pos h]
theorem cr_insf_eq {f : Nat → Nat} {k x : Nat} : cr_insf f k x k = x := by unfold cr_insf; rw [if_neg (Nat.lt_irrefl k), if_pos rfl]
theorem cr_insf_gt {f : Nat → Nat} {k x j : Nat} (h : k < j) : cr_insf f k x j = f (j - 1) := by unfold cr_insf; rw [if_neg (by omega), if_neg (by omega)]
theorem cr_ins {n : Nat} {lo hi : Nat → Nat} (h : cr_Ok n lo hi) {k a b : Nat} (hk : k ≤ n) (hab : a ≤ b) (hb : b ≤ 1114111) (hg : b < 55296 ∨ 57344 ≤ a) (h1 : ∀ j, j < k → hi j + 1 < a) (h2 : ∀ j, k ≤ j → j < n → b + 1 < lo j) :
    cr_Ok (n + 1) (cr_insf lo k a) (cr_insf hi k b) ∧ ∀ c, cr_In (n + 1) (cr_insf lo k a) (cr_insf hi k b) c ↔ (cr_In n lo hi c ∨ (a ≤ c ∧ c ≤ b)) := by
  refine ⟨⟨fun j hj => ?_, fun j hj => ?_⟩, fun c => ⟨fun hc => ?_, fun hc => ?_⟩⟩
  · rcases Nat.lt_trichotomy j k with e | e | e
    · rw [cr_insf_lt e, cr_insf_lt e]; exact h.1 j (by omega)
    · subst e; rw [cr_insf_eq, cr_insf_eq]; exact ⟨hab, hb, hg⟩
    · rw [cr_insf_gt e, cr_insf_gt e]; exact h.1 (j - 1) (by omega)
  · rcases Nat.lt_trichotomy j k with e | e | e
    · rw [cr_insf_lt e]
      rcases Nat.lt_or_ge (j + 1) k with q | q
      · rw [cr_insf_lt q]; exact h.2 j (by omega)
      · have : j + 1 = k := by omega
        rw [this, cr_insf_eq]; exact h1 j e
    · subst e
      rw [cr_insf_eq, cr_insf_gt (by omega)]
      exact h2 _ (by omega) (by omega)
    · rw [cr_insf_gt e, cr_insf_gt (by omega)]
      have q := h.2 (j - 1) (by omega)
      have e2 : j - 1 + 1 = j + 1 - 1 := by omega
      rw [e2] at q
      exact q
  · obtain ⟨j, hj, q1, q2⟩ := hc
    rcases Nat.lt_trichotomy j k with e | e | e
    · rw [cr_insf_lt e] at q1 q2
      exact Or.inl ⟨j, by omega, q1, q2⟩
    · subst e
      rw [cr_insf_eq] at q1 q2
      exact Or.inr ⟨q1, q2⟩
    · rw [cr_insf_gt e] at q1 q2
      exact Or.inl ⟨j - 1, by omega, q1, q2⟩
  · rcases hc with ⟨j, hj, q1, q2⟩ | ⟨q1, q2⟩
    · rcases Nat.lt_or_ge j k with e | e
      · exact ⟨j, by omega, by rw [cr_insf_lt e]; exact q1, by rw [cr_insf_lt e]; exact q2⟩
      · exact ⟨j + 1, by omega, by rw [cr_insf_gt (by omega)]; exact q1, by rw [cr_insf_gt (by omega)]; exact q2⟩
    · exact ⟨k, by omega, by rw [cr_insf_eq]; exact q1, by rw [cr_insf_eq]; exact q2⟩
/-- ranges f .. b - 1 become one, x in place of theirs -/
def cr_unif (g : Nat → Nat) (f b x : Nat) : Nat → Nat := fun j => if j < f then g j else if j = f then x else g (j - (f + 1) + b)
theorem cr_unif_lt {g : Nat → Nat} {f b x j : Nat} (h : j < f) : cr_unif g f b x j = g j := by unfold cr_unif; rw [if_pos h]
theorem cr_unif_eq {g : Nat → Nat} {f b x : Nat} : cr_unif g f b x f = x := by unfold cr_unif; rw [if_neg (Nat.lt_irrefl f), if_pos rfl]
theorem cr_unif_gt {g : Nat → Nat} {f b x j : Nat} (h : f < j) : cr_unif g f b x j = g (j - (f + 1) + b) := by unfold cr_unif; rw [if_neg (by omega), if_neg (by omega)]
theorem cr_uni {n : Nat} {lo hi : Nat → Nat} (h : cr_Ok n lo hi) {f b x y : Nat} (hf : f < b) (hb : b ≤ n) (hxy : x ≤ y) (hy : y ≤ 1114111) (hg : y < 55296 ∨ 57344 ≤ x) (h1 : ∀ j, j < f → hi j + 1 < x) (h2 : x ≤ hi f + 1) (h3 : ∀ j, f ≤ j → j < b → lo j ≤ y + 1) (h4 : ∀ j, b ≤ j → j < n → y + 1 < lo j) :
    cr_Ok (n - (b - (f + 1))) (cr_unif lo f b (min (lo f) x)) (cr_unif hi f b (max (hi (b - 1)) y)) ∧ ∀ c, cr_In (n - (b - (f + 1))) (cr_unif lo f b (min (lo f) x)) (cr_unif hi f b (max (hi (b - 1)) y)) c ↔ (cr_In n lo hi c ∨ (x ≤ c ∧ c ≤ y)) := by
  have kf := h.1 f (by omega)
  have kb := h.1 (b - 1) (by omega)
  have k3 := h3 (b - 1) (by omega) (by omega)
  have k4 := h3 f (by omega) hf
  have kfb : lo f ≤ lo (b - 1) ∧ hi f ≤ hi (b - 1) := by
    rcases Nat.eq_or_lt_of_le (show f ≤ b - 1 by omega) with e | e
    · rw [← e]; exact ⟨Nat.le_refl _, Nat.le_refl _⟩
    · have := h.lt e (by omega)
      omega
  refine ⟨⟨fun j hj => ?_, fun j hj => ?_⟩, fun c => ⟨fun hc => ?_, fun hc => ?_⟩⟩
  · rcases Nat.lt_trichotomy j f with e | e | e
    · rw [cr_unif_lt e, cr_unif_lt e]; exact h.1 j (by omega)
    · subst e; rw [cr_unif_eq, cr_unif_eq]; omega
    · rw [cr_unif_gt e, cr_unif_gt e]; exact h.1 _ (by omega)
  · rcases Nat.lt_trichotomy j f with e | e | e
    · rw [cr_unif_lt e]
      rcases Nat.lt_or_ge (j + 1) f with q | q
      · rw [cr_unif_lt q]; exact h.2 j (by omega)
      · have : j + 1 = f := by omega
        rw [this, cr_unif_eq]
        have a := h1 j e
        have c := h.lt e (show f < n by omega)
        omega
    · subst e
      rw [cr_unif_eq, cr_unif_gt (by omega)]
      have e2 : j + 1 - (j + 1) + b = b := by omega
      rw [e2]
      have a := h4 b (by omega) (by omega)
      have c := h.lt (show b - 1 < b by omega) (show b < n by omega)
      omega
    · rw [cr_unif_gt e, cr_unif_gt (by omega)]
      have q := h.2 (j - (f + 1) + b) (by omega)
      have e2 : j + 1 - (f + 1) + b = j - (f + 1) + b + 1 := by omega
      rw [e2]
      exact q
  · obtain ⟨j, hj, q1, q2⟩ := hc
    rcases Nat.lt_trichotomy j f with e | e | e
    · rw [cr_unif_lt e] at q1 q2
      exact Or.inl ⟨j, by omega, q1, q2⟩
    · subst e
      rw [cr_unif_eq] at q1 q2
      rcases Nat.lt_or_ge c x with u | u
      · exact Or.inl ⟨j, by omega, by omega, by omega⟩
      · rcases Nat.lt_or_ge y c with v | v
        · exact Or.inl ⟨b - 1, by omega, by omega, by omega⟩
        · exact Or.inr ⟨u, v⟩
    · rw [cr_unif_gt e] at q1 q2
      exact Or.inl ⟨_, by omega, q1, q2⟩
  · rcases hc with ⟨j, hj, q1, q2⟩ | ⟨q1, q2⟩
    · rcases Nat.lt_or_ge j f with e | e
      · exact ⟨j, by omega, by rw [cr_unif_lt e]; exact q1, by rw [cr_unif_lt e]; exact q2⟩
      · rcases Nat.lt_or_ge j b with u | u
        · refine ⟨f, by omega, ?_, ?_⟩
          · rw [cr_unif_eq]
            rcases Nat.eq_or_lt_of_le e with v | v
            · subst v; omega
            · have := h.lt v hj
              omega
          · rw [cr_unif_eq]
            rcases Nat.eq_or_lt_of_le (show j ≤ b - 1 by omega) with v | v
            · rw [← v]; omega
            · have := h.lt v (show b - 1 < n by omega)
              have := h.1 j hj
              omega
        · refine ⟨j - b + (f + 1), by omega, ?_, ?_⟩
          · rw [cr_unif_gt (by omega)]
            have e2 : j - b + (f + 1) - (f + 1) + b = j := by omega
            rw [e2]; exact q1
          · rw [cr_unif_gt (by omega)]
            have e2 : j - b + (f + 1) - (f + 1) + b = j := by omega
            rw [e2]; exact q2
    · exact ⟨f, by omega, by rw [cr_unif_eq]; omega, by rw [cr_unif_eq]; omega⟩
theorem cr_Ok.mono {n : Nat} {lo hi : Nat → Nat} (h : cr_Ok n lo hi) {i j : Nat} (hij : i ≤ j) (hj : j < n) : hi i ≤ hi j ∧ lo i ≤ lo j := by
  rcases Nat.eq_or_lt_of_le hij with e | e
  · subst e
    exact ⟨Nat.le_refl _, Nat.le_refl _⟩
  · have a := h.lt e hj
    have b := h.1 j hj
    have d := h.1 i (by omega)
    omega
theorem cr_move {n k t : Nat} (hk : k ≤ n) : nI n + (nI t - nI k) = nI (t + (n - k)) := by
  have e : nI n = nI (n - k) + nI k := by
    rw [nI_add]
    congr 1
    omega
  rw [e, Int32.add_assoc, Int32.add_comm (nI k), Int32.sub_add_cancel, nI_add, Nat.add_comm]
theorem cr_Rp.ins {n : Nat} {lo hi : Nat → Nat} {f g : Nat → Int32} (h : cr_Rp n lo hi f g) {k a b : Nat} (_hk : k ≤ n) : cr_Rp (n + 1) (cr_insf lo k a) (cr_insf hi k b) (upd (va_cpy f f k (k + 1) (n - k)) k (nI a)) (upd (va_cpy g g k (k + 1) (n - k)) k (nI b)) := by
  intro j hj
  rcases Nat.lt_trichotomy j k with e | e | e
  · rw [cr_insf_lt e, cr_insf_lt e, pk_un (by omega), pk_un (by omega), pk_cpy_out (by omega), pk_cpy_out (by omega)]
    exact h j (by omega)
  · subst e
    rw [cr_insf_eq, cr_insf_eq, pk_us, pk_us]
    exact ⟨rfl, rfl⟩
  · rw [cr_insf_gt e, cr_insf_gt e, pk_un (by omega), pk_un (by omega), pk_cpy_in (by omega) (by omega), pk_cpy_in (by omega) (by omega)]
    have q := h (j - 1) (by omega)
    have e2 : k + (j - (k + 1)) = j - 1 := by omega
    rw [e2]
    exact q
theorem cr_Rp.uni {n : Nat} {lo hi : Nat → Nat} {f g : Nat → Int32} (h : cr_Rp n lo hi f g) {p b x y : Nat} (hp : p < b) (hb : b ≤ n) : cr_Rp (n - (b - (p + 1))) (cr_unif lo p b x) (cr_unif hi p b y) (va_cpy (upd f p (nI x)) (upd f p (nI x)) b (p + 1) (n - b)) (va_cpy (upd g p (nI y)) (upd g p (nI y)) b (p + 1) (n - b)) := by
  intro j hj
  rcases Nat.lt_trichotomy j p with e | e | e
  · rw [cr_unif_lt e, cr_unif_lt e, pk_cpy_out (by omega), pk_cpy_out (by omega), pk_un (by omega), pk_un (by omega)]
    exact h j (by omega)
  · subst e
    rw [cr_unif_eq, cr_unif_eq, pk_cpy_out (by omega), pk_cpy_out (by omega), pk_us, pk_us]
    exact ⟨rfl, rfl⟩
  · rw [cr_unif_gt e, cr_unif_gt e, pk_cpy_in (by omega) (by omega), pk_cpy_in (by omega) (by omega), pk_un (by omega), pk_un (by omega)]
    have e2 : b + (j - (p + 1)) = j - (p + 1) + b := by omega
    rw [e2]
    exact h _ (by omega)
theorem cr_lt_s {P : Nat → Prop} {k q : Nat} (h : ∀ j, k ≤ j → j < q → P j) (hq : P q) : ∀ j, k ≤ j → j < q + 1 → P j := by
  intro j h1 h2
  rcases Nat.lt_or_ge j q with e | e
  · exact h j h1 e
  · have : j = q := by omega
    subst this
    exact hq
def cr_zb (r : Int32) (P : Prop) : Prop := (r = nI 1 ∧ P) ∨ (r = nI 0 ∧ ¬ P)
/-- x is a character of S -/
def cr_Hs (S : Nat → Prop) (x : Int32) : Prop := ∃ c : Nat, c ≤ 1114111 ∧ x = nI c ∧ S c
theorem cr_put_ins {n : Nat} {lo hi : Nat → Nat} {f g : Nat → Int32} {S : Nat → Prop} (hR : cr_Rp n lo hi f g) (hO : cr_Ok n lo hi) (hI : ∀ c, cr_In n lo hi c ↔ S c) {k a b : Nat} (hk : k ≤ n) (hab : a ≤ b) (hb : b ≤ 1114111) (hg : b < 55296 ∨ 57344 ≤ a) (h1 : ∀ j, j < k → hi j + 1 < a) (h2 : ∀ j, k ≤ j → j < n → b + 1 < lo j) (ha3 : a < 2 ^ 31) (hb3 : b < 2 ^ 31) :
    cr_Set (n + 1) (upd (va_cpy f f k (k + 1) (n - k)) k (nI a)) (upd (va_cpy g g k (k + 1) (n - k)) k (nI b)) (fun c => S c ∨ ((nI a).toInt ≤ (c : Int) ∧ (c : Int) ≤ (nI b).toInt)) := by
  obtain ⟨o, i⟩ := cr_ins hO hk hab hb hg h1 h2
  refine ⟨_, _, hR.ins hk, o, fun c => ?_⟩
  rw [i c, hI c, nI_toInt ha3, nI_toInt hb3]
  exact or_congr_right (by omega)
theorem cr_put_uni {n : Nat} {lo hi : Nat → Nat} {f g : Nat → Int32} {S : Nat → Prop} (hR : cr_Rp n lo hi f g) (hO : cr_Ok n lo hi) (hI : ∀ c, cr_In n lo hi c ↔ S c) {k q a b : Nat} (hk : k < q) (hq : q ≤ n) (hab : a ≤ b) (hb : b ≤ 1114111) (hg : b < 55296 ∨ 57344 ≤ a) (h1 : ∀ j, j < k → hi j + 1 < a) (h2 : a ≤ hi k + 1) (h3 : ∀ j, k ≤ j → j < q → lo j ≤ b + 1) (h4 : ∀ j, q ≤ j → j < n → b + 1 < lo j) (ha3 : a < 2 ^ 31) (hb3 : b < 2 ^ 31) :
    cr_Set (k + 1 + (n - q)) (va_cpy (upd f k (nI (min (lo k) a))) (upd f k (nI (min (lo k) a))) q (k + 1) (n - q)) (va_cpy (upd g k (nI (max (hi (q - 1)) b))) (upd g k (nI (max (hi (q - 1)) b))) q (k + 1) (n - q)) (fun c => S c ∨ ((nI a).toInt ≤ (c : Int) ∧ (c : Int) ≤ (nI b).toInt)) := by
  obtain ⟨o, i⟩ := cr_uni hO hk hq hab hb hg h1 h2 h3 h4
  have e : k + 1 + (n - q) = n - (q - (k + 1)) := by omega
  rw [e]
  refine ⟨_, _, hR.uni hk hq, o, fun c => ?_⟩
  rw [i c, hI c, nI_toInt ha3, nI_toInt hb3]
  exact or_congr_right (by omega)
theorem cr_Hs_in {n : Nat} {lo hi : Nat → Nat} {S : Nat → Prop} (hO : cr_Ok n lo hi) (hI : ∀ c, cr_In n lo hi c ↔ S c) {x : Int32} {k : Nat} (hk : k < n) (h1 : (lo k : Int) ≤ x.toInt) (h2 : x.toInt ≤ hi k) : cr_Hs S x := by
  have a := hO.1 k hk
  obtain ⟨c, hc, rfl⟩ := cr_of (x := x) (by omega)
  rw [nI_toInt hc] at h1 h2
  exact ⟨c, by omega, rfl, (hI c).1 ⟨k, hk, by omega, by omega⟩⟩
theorem cr_Hs_out {n : Nat} {lo hi : Nat → Nat} {S : Nat → Prop} (hO : cr_Ok n lo hi) (hI : ∀ c, cr_In n lo hi c ↔ S c) {x : Int32} {k : Nat} (_hk : k ≤ n) (h1 : ∀ j, j < k → (hi j : Int) < x.toInt) (h2 : k < n → x.toInt < lo k) : ¬ cr_Hs S x := by
  rintro ⟨c, hc, rfl, hs⟩
  obtain ⟨j, hj, a, b⟩ := (hI c).2 hs
  rw [nI_toInt (by omega)] at h1 h2
  rcases Nat.lt_or_ge j k with e | e
  · have := h1 j e
    omega
  · have := h2 (by omega)
    have := (hO.mono e hj).2
    omega
theorem cr_first {n : Nat} {lo hi : Nat → Nat} (hO : cr_Ok n lo hi) {x j k : Nat} (hj : j < n) (h1 : lo j ≤ x) (h2 : x ≤ hi j) (hk : k ≤ n) (hk2 : ∀ i, i < k → (hi i : Int) < x) (hk3 : k < n → (x : Int) ≤ hi k) : k = j := by
  rcases Nat.lt_trichotomy k j with e | e | e
  · have := hk3 (by omega)
    have := hO.lt e hj
    omega
  · exact e
  · have := hk2 j e
    omega
theorem cr_minI (y : Int32) : (if nI 55295 < y then nI 55295 else y).toInt = min y.toInt 55295 := by
  by_cases h : nI 55295 < y
  · rw [if_pos h, nI_toInt (by decide)]
    rw [cr_nlt (by decide)] at h
    omega
  · rw [if_neg h]
    rw [cr_nlt (by decide)] at h
    omega
theorem cr_zb_nar {r : Int32} {P : Prop} (h : cr_zb r P) : narrow .boolean (.int r) = .int r := by
  rcases h with ⟨e, _⟩ | ⟨e, _⟩
  · rw [e]; rfl
  · rw [e]; rfl
/-- what 'range' answers -/
def cr_rng (n : Nat) (f g : Nat → Int32) (k w : Int32) : Int32 := if k < 0 ∨ nI n ≤ k then -1 else if w = 0 then f k.toNatClampNeg else if w = 1 then g k.toNatClampNeg else -1
theorem cr_rng_neg {n : Nat} {f g : Nat → Int32} {k w : Int32} (h : k < 0) : cr_rng n f g k w = -1 := by unfold cr_rng; rw [if_pos (Or.inl h)]
theorem cr_rng_big {n : Nat} {f g : Nat → Int32} {k w : Int32} (h : ¬ k < nI n) : cr_rng n f g k w = -1 := by unfold cr_rng; rw [if_pos (Or.inr (Int32.not_lt.mp h))]
theorem cr_rng_0 {n : Nat} {f g : Nat → Int32} {k w : Int32} (h1 : ¬ k < 0) (h2 : k < nI n) (h3 : w = 0) : cr_rng n f g k w = f k.toNatClampNeg := by
  unfold cr_rng
  rw [if_neg (fun h => h.elim h1 (fun q => absurd h2 (Int32.not_lt.mpr q))), if_pos h3]
theorem cr_rng_1 {n : Nat} {f g : Nat → Int32} {k w : Int32} (h1 : ¬ k < 0) (h2 : k < nI n) (h3 : ¬ w = 0) (h4 : w = nI 1) : cr_rng n f g k w = g k.toNatClampNeg := by
  unfold cr_rng
  rw [if_neg (fun h => h.elim h1 (fun q => absurd h2 (Int32.not_lt.mpr q))), if_neg h3, if_pos (show w = 1 from h4)]
theorem cr_rng_2 {n : Nat} {f g : Nat → Int32} {k w : Int32} (h1 : ¬ k < 0) (h2 : k < nI n) (h3 : ¬ w = 0) (h4 : ¬ w = nI 1) : cr_rng n f g k w = -1 := by
  unfold cr_rng
  rw [if_neg (fun h => h.elim h1 (fun q => absurd h2 (Int32.not_lt.mpr q))), if_neg h3, if_neg (show ¬ w = 1 from h4)]
theorem cr_in_of {k : Int32} {n N : Nat} (h1 : ¬ k < 0) (h2 : k < nI n) (hn : n ≤ N) (hN : N < 2 ^ 31 := by decide) : vp_in k N := by
  rw [vp_in_iff]
  rw [cr_lt0] at h1
  rw [cr_ltn (by omega)] at h2
  omega
theorem cr_ne_m1 {c : Nat} (h : c < 2 ^ 31) : ¬ nI c = -1 := by
  intro e
  have h2 := congrArg Int32.toInt e
  rw [nI_toInt h, cr_m1] at h2
  omega
