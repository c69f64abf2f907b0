/-! PURE: isRow, runs -/
theorem cr_sm_t {c d i : Nat} (h : cr_sm c d i = true) (e : cr_fr c d i = cr_to c d i) : cr_sm c d (i + 1) = true := by
  unfold cr_fr cr_to at e
  rw [h] at e
  simp only [if_true] at e
  show (cr_sm c d i && (cr_by c i == cr_by d i)) = true
  rw [h, e]
  simp
theorem cr_sm_f1 {c d i : Nat} (h : cr_sm c d i = true) (e : ¬ cr_fr c d i = cr_to c d i) : cr_sm c d (i + 1) = false := by
  unfold cr_fr cr_to at e
  rw [h] at e
  simp only [if_true] at e
  show (cr_sm c d i && (cr_by c i == cr_by d i)) = false
  rw [h]
  simp [e]
theorem cr_sm_f0 {c d i : Nat} (h : cr_sm c d i = false) : cr_sm c d (i + 1) = false := by
  show (cr_sm c d i && (cr_by c i == cr_by d i)) = false
  rw [h]
  rfl
theorem cr_fr_t {c d i : Nat} (h : cr_sm c d i = true) : cr_fr c d i = cr_by c i ∧ cr_to c d i = cr_by d i := by
  unfold cr_fr cr_to
  rw [h]
  exact ⟨rfl, rfl⟩
theorem cr_fr_f {c d i : Nat} (h : cr_sm c d i = false) : cr_fr c d i = 128 ∧ cr_to c d i = 191 := by
  unfold cr_fr cr_to
  rw [h]
  exact ⟨rfl, rfl⟩
theorem cr_by_rest (c i : Nat) (hi : 0 < i) : 128 ≤ cr_by c i ∧ cr_by c i ≤ 191 := by
  unfold cr_by
  rw [if_neg (by omega)]
  omega
theorem cr_fac {c d i : Nat} (hl : cr_len c = cr_len d) (hc : c ≤ 1114111) (hd : d ≤ 1114111) : cr_to c d i - cr_fr c d i + 1 ≤ 128 := by
  cases hs : cr_sm c d i with
  | false =>
    have a := cr_fr_f hs
    omega
  | true =>
    have a := cr_fr_t hs
    rcases Nat.eq_zero_or_pos i with e | e
    · subst e
      rcases cr_len_in c with q | q | q | q <;> rcases cr_len_in d with r | r | r | r <;> first | (exfalso; omega) | skip
      · have x := cr_by1 (c := c) (by omega)
        have y := cr_by1 (c := d) (by omega)
        omega
      · have x := (cr_by2 (c := c) (by omega) (by omega)).1
        have y := (cr_by2 (c := d) (by omega) (by omega)).1
        omega
      · have x := (cr_by3 (c := c) (by omega) (by omega)).1
        have y := (cr_by3 (c := d) (by omega) (by omega)).1
        omega
      · have x := (cr_by4 (c := c) (by omega)).1
        have y := (cr_by4 (c := d) (by omega)).1
        omega
    · have x := cr_by_rest c i e
      have y := cr_by_rest d i e
      omega
theorem cr_all_le {c d : Nat} (hl : cr_len c = cr_len d) (hc : c ≤ 1114111) (hd : d ≤ 1114111) : ∀ i, cr_all c d i ≤ 128 ^ i := by
  intro i
  induction i with
  | zero => exact Nat.le_refl _
  | succ i ih =>
    show cr_all c d i * (cr_to c d i - cr_fr c d i + 1) ≤ 128 ^ i * 128
    exact Nat.mul_le_mul ih (cr_fac hl hc hd)
theorem cr_all_lt {c d : Nat} (hl : cr_len c = cr_len d) (hc : c ≤ 1114111) (hd : d ≤ 1114111) : cr_all c d (cr_len c) < 2 ^ 31 := by
  have a := cr_all_le hl hc hd (cr_len c)
  have b : 128 ^ cr_len c ≤ 128 ^ 4 := Nat.pow_le_pow_right (by decide) (cr_len_le c).2
  have e : (128 : Nat) ^ 4 = 268435456 := by decide
  omega
theorem cr_isrow_s {c d : Nat} {f t : Nat → Int32} {i : Nat} (h : ∀ j, j < i → f j = nI (cr_fr c d j) ∧ t j = nI (cr_to c d j)) : ∀ j, j < i + 1 → upd f i (nI (cr_fr c d i)) j = nI (cr_fr c d j) ∧ upd t i (nI (cr_to c d i)) j = nI (cr_to c d j) := by
  intro j hj
  by_cases e : j = i
  · subst e
    rw [pk_us, pk_us]
    exact ⟨rfl, rfl⟩
  · rw [pk_un e, pk_un e]
    exact h j (by omega)
/-- where the reference looks for the longest run -/
def cr_pw (t : Nat) : Nat := if t = 0 then 1 else if t = 1 then 64 else if t = 2 then 4096 else 262144
def cr_one (c t : Nat) : Nat := c / cr_pw t * cr_pw t + (cr_pw t - 1)
def cr_bnd (e t : Nat) : Nat := (e + 1) / cr_pw t * cr_pw t
def cr_cd (c e d : Nat) : Prop := (∃ q, q < 4 ∧ d = cr_one c q) ∨ (∃ q, q < 4 ∧ d + 1 = cr_bnd e q) ∨ (∃ q, q < 4 ∧ d + 1 = cr_bnd (cr_lol (cr_len c)) q)
theorem cr_one_1 (c : Nat) : cr_one c 1 = c / 64 * 64 + 63 := rfl
theorem cr_one_2 (c : Nat) : cr_one c 2 = c / 4096 * 4096 + 4095 := rfl
theorem cr_one_3 (c : Nat) : cr_one c 3 = c / 262144 * 262144 + 262143 := rfl
theorem cr_one_0 (c : Nat) : cr_one c 0 = c := by
  show c / 1 * 1 + (1 - 1) = c
  omega
theorem cr_bnd_0 (e : Nat) : cr_bnd e 0 = e + 1 := by
  show (e + 1) / 1 * 1 = e + 1
  omega
theorem cr_bnd_1 (e : Nat) : cr_bnd e 1 = (e + 1) / 64 * 64 := rfl
theorem cr_bnd_2 (e : Nat) : cr_bnd e 2 = (e + 1) / 4096 * 4096 := rfl
theorem cr_bnd_3 (e : Nat) : cr_bnd e 3 = (e + 1) / 262144 * 262144 := rfl
/-- of the three ends, that of a whole block of B -/
theorem cr_cd_min {c e lol B C v : Nat} (h : v = (min (min e lol) (c / C * C + (C - 1)) + 1) / B * B) : v = (e + 1) / B * B ∨ v = (lol + 1) / B * B ∨ v = (c / C * C + (C - 1) + 1) / B * B := by
  rcases Nat.lt_or_ge (min e lol) (c / C * C + (C - 1)) with q | q
  · rw [Nat.min_eq_left (Nat.le_of_lt q)] at h
    rcases Nat.lt_or_ge e lol with r | r
    · rw [Nat.min_eq_left (Nat.le_of_lt r)] at h
      exact Or.inl h
    · rw [Nat.min_eq_right r] at h
      exact Or.inr (Or.inl h)
  · rw [Nat.min_eq_right q] at h
    exact Or.inr (Or.inr h)
theorem cr_cd_0 {c e : Nat} {lol : Nat} (hl : cr_lol (cr_len c) = lol) {d : Nat} (h : d = min (min e lol) (c / 64 * 64 + 63)) : cr_cd c e d := by
  rcases Nat.lt_or_ge (min e lol) (c / 64 * 64 + 63) with q | q
  · rw [Nat.min_eq_left (Nat.le_of_lt q)] at h
    rcases Nat.lt_or_ge e lol with r | r
    · rw [Nat.min_eq_left (Nat.le_of_lt r)] at h
      exact Or.inr (Or.inl ⟨0, by decide, by rw [cr_bnd_0, h]⟩)
    · rw [Nat.min_eq_right r] at h
      exact Or.inr (Or.inr ⟨0, by decide, by rw [cr_bnd_0, h, hl]⟩)
  · rw [Nat.min_eq_right q] at h
    exact Or.inl ⟨1, by decide, by rw [cr_one_1, h]⟩
theorem cr_cd_64 {c e lol d : Nat} (hl : cr_lol (cr_len c) = lol) (hp : c < cr_e 64 c (min e lol)) (h : d = cr_e 64 c (min e lol) - 1) : cr_cd c e d := by
  have h2 : d + 1 = (min (min e lol) (c / 4096 * 4096 + (4096 - 1)) + 1) / 64 * 64 := by
    rw [h]
    exact Nat.succ_pred_eq_of_pos (Nat.lt_of_le_of_lt (Nat.zero_le _) hp)
  rcases cr_cd_min h2 with q | q | q
  · exact Or.inr (Or.inl ⟨1, by decide, by rw [cr_bnd_1]; exact q⟩)
  · exact Or.inr (Or.inr ⟨1, by decide, by rw [cr_bnd_1, hl]; exact q⟩)
  · exact Or.inl ⟨2, by decide, by rw [cr_one_2]; omega⟩
theorem cr_cd_4096 {c e lol d : Nat} (hl : cr_lol (cr_len c) = lol) (hp : c < cr_e 4096 c (min e lol)) (h : d = cr_e 4096 c (min e lol) - 1) : cr_cd c e d := by
  have h2 : d + 1 = (min (min e lol) (c / 262144 * 262144 + (262144 - 1)) + 1) / 4096 * 4096 := by
    rw [h]
    exact Nat.succ_pred_eq_of_pos (Nat.lt_of_le_of_lt (Nat.zero_le _) hp)
  rcases cr_cd_min h2 with q | q | q
  · exact Or.inr (Or.inl ⟨2, by decide, by rw [cr_bnd_2]; exact q⟩)
  · exact Or.inr (Or.inr ⟨2, by decide, by rw [cr_bnd_2, hl]; exact q⟩)
  · exact Or.inl ⟨3, by decide, by rw [cr_one_3]; omega⟩
theorem cr_cd_262144 {c e lol d : Nat} (hl : cr_lol (cr_len c) = lol) (hc : lol ≤ 1114111) (hp : c < cr_e 262144 c (min e lol)) (h : d = cr_e 262144 c (min e lol) - 1) : cr_cd c e d := by
  have h2 : d + 1 = (min (min e lol) (c / 16777216 * 16777216 + (16777216 - 1)) + 1) / 262144 * 262144 := by
    rw [h]
    exact Nat.succ_pred_eq_of_pos (Nat.lt_of_le_of_lt (Nat.zero_le _) hp)
  have h3 : min (min e lol) (c / 16777216 * 16777216 + (16777216 - 1)) = min e lol := Nat.min_eq_left (by omega)
  rw [h3] at h2
  rcases Nat.lt_or_ge e lol with r | r
  · rw [Nat.min_eq_left (Nat.le_of_lt r)] at h2
    exact Or.inr (Or.inl ⟨3, by decide, by rw [cr_bnd_3]; exact h2⟩)
  · rw [Nat.min_eq_right r] at h2
    exact Or.inr (Or.inr ⟨3, by decide, by rw [cr_bnd_3, hl]; exact h2⟩)
theorem cr_last_cd (c e : Nat) : cr_cd c e (cr_last c e) := by
  rcases cr_len_in c with q | q | q | q
  · have h : cr_last c e = min e 127 := cr_last1 q.2
    have hl : cr_lol (cr_len c) = 127 := by rw [q.1]; rfl
    rcases Nat.lt_or_ge e 127 with r | r
    · rw [Nat.min_eq_left (Nat.le_of_lt r)] at h
      exact Or.inr (Or.inl ⟨0, by decide, by rw [cr_bnd_0, h]⟩)
    · rw [Nat.min_eq_right r] at h
      exact Or.inr (Or.inr ⟨0, by decide, by rw [cr_bnd_0, h, hl]⟩)
  · have h := cr_last2 (high := e) q.2.1 q.2.2
    have hl : cr_lol (cr_len c) = 2047 := by rw [q.1]; rfl
    split at h
    · next z => exact cr_cd_64 hl z.2 h
    · exact cr_cd_0 hl h
  · have h := cr_last3 (high := e) q.2.1 q.2.2
    have hl : cr_lol (cr_len c) = 65535 := by rw [q.1]; rfl
    split at h
    · next z => exact cr_cd_4096 hl z.2 h
    · split at h
      · next z => exact cr_cd_64 hl z.2 h
      · exact cr_cd_0 hl h
  · have h := cr_last4 (high := e) q.2
    have hl : cr_lol (cr_len c) = 1114111 := by rw [q.1]; rfl
    split at h
    · next z => exact cr_cd_262144 hl (Nat.le_refl _) z.2 h
    · split at h
      · next z => exact cr_cd_4096 hl z.2 h
      · split at h
        · next z => exact cr_cd_64 hl z.2 h
        · exact cr_cd_0 hl h
/-- the best of what was looked at, up to t -/
def cr_U (c e bs t : Nat) : Prop := ∀ q, q < t → (cr_row c (cr_one c q) → cr_one c q ≤ e → cr_one c q ≤ bs) ∧ ∀ d, d + 1 = cr_bnd e q → cr_row c d → d ≤ e → d ≤ bs
def cr_U2 (c e bs t : Nat) : Prop := ∀ q, q < t → ∀ d, d + 1 = cr_bnd (cr_lol (cr_len c)) q → cr_row c d → d ≤ e → d ≤ bs
def cr_Bs (c e bs : Nat) : Prop := c ≤ bs ∧ bs ≤ e ∧ cr_row c bs
theorem cr_row_self {c : Nat} (h : c ≤ 1114111) : cr_row c c := ⟨rfl, Nat.le_refl _, h, Or.inl rfl⟩
theorem cr_U_more {c e bs bs' t : Nat} (h : cr_U c e bs t) (hb : bs ≤ bs') : cr_U c e bs' t := fun q hq => ⟨fun a b => Nat.le_trans ((h q hq).1 a b) hb, fun d a b f => Nat.le_trans ((h q hq).2 d a b f) hb⟩
theorem cr_U2_more {c e bs bs' t : Nat} (h : cr_U2 c e bs t) (hb : bs ≤ bs') : cr_U2 c e bs' t := fun q hq d a b f => Nat.le_trans (h q hq d a b f) hb
theorem cr_U_s {c e bs t : Nat} (h : cr_U c e bs t) (h1 : cr_row c (cr_one c t) → cr_one c t ≤ e → cr_one c t ≤ bs) (h2 : ∀ d, d + 1 = cr_bnd e t → cr_row c d → d ≤ e → d ≤ bs) : cr_U c e bs (t + 1) := by
  intro q hq
  rcases Nat.lt_or_ge q t with z | z
  · exact h q z
  · have : q = t := by omega
    subst this
    exact ⟨h1, h2⟩
theorem cr_U2_s {c e bs t : Nat} (h : cr_U2 c e bs t) (h2 : ∀ d, d + 1 = cr_bnd (cr_lol (cr_len c)) t → cr_row c d → d ≤ e → d ≤ bs) : cr_U2 c e bs (t + 1) := by
  intro q hq
  rcases Nat.lt_or_ge q t with z | z
  · exact h q z
  · have : q = t := by omega
    subst this
    exact h2
theorem cr_runs_end {c e bs : Nat} (hc : c ≤ e) (he : e ≤ 1114111) (h : cr_U c e bs 4) (h2 : cr_U2 c e bs 4) (hb : cr_Bs c e bs) : bs = cr_last c e := by
  have a := cr_last_in hc he
  have b := a.2.2.2 bs hb.2.2 hb.2.1
  have d : cr_last c e ≤ bs := by
    rcases cr_last_cd c e with ⟨q, hq, z⟩ | ⟨q, hq, z⟩ | ⟨q, hq, z⟩
    · have w := (h q hq).1
      rw [← z] at w
      exact w a.2.2.1 a.2.1
    · exact (h q hq).2 _ z a.2.2.1 a.2.1
    · exact h2 q hq _ z a.2.2.1 a.2.1
  omega
/-- x >> 6t << 6t -/
theorem cr_sh6 {x : Nat} (h : x < 2 ^ 31) : nI x >>> (nI 6 &&& 31) <<< (nI 6 &&& 31) = nI (x / 64 * 64) := by
  rw [pk_shrN h _ 6 (by decide), pk_shlN _ 6 (by decide) (by omega)]
theorem cr_sh12 {x : Nat} (h : x < 2 ^ 31) : nI x >>> (nI 12 &&& 31) <<< (nI 12 &&& 31) = nI (x / 4096 * 4096) := by
  rw [pk_shrN h _ 12 (by decide), pk_shlN _ 12 (by decide) (by omega)]
theorem cr_sh18 {x : Nat} (h : x < 2 ^ 31) : nI x >>> (nI 18 &&& 31) <<< (nI 18 &&& 31) = nI (x / 262144 * 262144) := by
  rw [pk_shrN h _ 18 (by decide), pk_shlN _ 18 (by decide) (by omega)]
theorem cr_sh0 {x : Nat} (h : x < 2 ^ 31) : nI x >>> (nI 0 &&& 31) <<< (nI 0 &&& 31) = nI x := by
  rw [pk_shrN h _ 0 (by decide), pk_shlN _ 0 (by decide) (by omega)]
  simp
theorem cr_or0 (x : Nat) : nI x ||| nI 0 = nI x := by
  rw [cr_or]
  simp
