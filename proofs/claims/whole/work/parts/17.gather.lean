/-! PURE: what the reference gathers -/
def cr_Vr (lo hi : Nat) : Prop := lo ≤ hi ∧ hi ≤ 1114111 ∧ (hi < 55296 ∨ 57344 ≤ lo)
def cr_En (mn : Nat) (ef eg : Nat → Int32) (elo ehi : Nat → Nat) : Prop := ∀ k, k < mn → ef k = nI (elo k) ∧ eg k = nI (ehi k) ∧ cr_Vr (elo k) (ehi k)
/-- the entries tell the set E -/
def cr_Ent (mn : Nat) (ef eg : Nat → Int32) (E : Nat → Prop) : Prop := ∃ elo ehi : Nat → Nat, cr_En mn ef eg elo ehi ∧ ∀ c, cr_In mn elo ehi c ↔ E c
theorem cr_Ent.iff {n : Nat} {f g : Nat → Int32} {S T : Nat → Prop} (h : cr_Ent n f g S) (hs : ∀ c, S c ↔ T c) : cr_Ent n f g T := by
  obtain ⟨lo, hi, a, b⟩ := h
  exact ⟨lo, hi, a, fun x => (b x).trans (hs x)⟩
theorem cr_Ent.zero {f g : Nat → Int32} : cr_Ent 0 f g (fun _ => False) := ⟨fun _ => 0, fun _ => 0, fun j hj => absurd hj (by omega), fun c => ⟨fun ⟨j, hj, _⟩ => absurd hj (by omega), fun h => h.elim⟩⟩
theorem cr_Ent.push {n : Nat} {f g : Nat → Int32} {E : Nat → Prop} (h : cr_Ent n f g E) {a b : Nat} (hv : cr_Vr a b) : cr_Ent (n + 1) (upd f n (nI a)) (upd g n (nI b)) (fun c => E c ∨ (a ≤ c ∧ c ≤ b)) := by
  obtain ⟨lo, hi, q, r⟩ := h
  refine ⟨va_up lo n a, va_up hi n b, fun k hk => ?_, fun c => ?_⟩
  · rcases Nat.lt_or_ge k n with e | e
    · rw [pk_un (by omega), pk_un (by omega), va_up_ne _ _ (by omega), va_up_ne _ _ (by omega)]
      exact q k e
    · have : k = n := by omega
      subst this
      rw [pk_us, pk_us, va_up_self, va_up_self]
      exact ⟨rfl, rfl, hv⟩
  · show _ ↔ (E c ∨ (a ≤ c ∧ c ≤ b))
    rw [← r c]
    constructor
    · rintro ⟨k, hk, h1, h2⟩
      rcases Nat.lt_or_ge k n with e | e
      · rw [va_up_ne _ _ (by omega)] at h1 h2
        exact Or.inl ⟨k, e, h1, h2⟩
      · have : k = n := by omega
        subst this
        rw [va_up_self] at h1 h2
        exact Or.inr ⟨h1, h2⟩
    · rintro (⟨k, hk, h1, h2⟩ | ⟨h1, h2⟩)
      · exact ⟨k, by omega, by rw [va_up_ne _ _ (by omega)]; exact h1, by rw [va_up_ne _ _ (by omega)]; exact h2⟩
      · exact ⟨n, by omega, by rw [va_up_self]; exact h1, by rw [va_up_self]; exact h2⟩
def cr_cntb (dn : Nat → Bool) : Nat → Nat
  | 0 => 0
  | m + 1 => cr_cntb dn m + (if dn m then 1 else 0)
theorem cr_cntb_le (dn : Nat → Bool) : ∀ m, cr_cntb dn m ≤ m := by
  intro m
  induction m with
  | zero => exact Nat.le_refl _
  | succ m ih =>
    show cr_cntb dn m + _ ≤ _
    split <;> omega
theorem cr_cntb_out (dn : Nat → Bool) (b : Nat) (v : Bool) : ∀ m, m ≤ b → cr_cntb (va_up dn b v) m = cr_cntb dn m := by
  intro m
  induction m with
  | zero => intro _; rfl
  | succ m ih =>
    intro h
    show cr_cntb (va_up dn b v) m + (if va_up dn b v m then 1 else 0) = cr_cntb dn m + _
    rw [ih (by omega), va_up_ne _ _ (by omega)]
theorem cr_cntb_up (dn : Nat → Bool) (b : Nat) (hb : dn b = false) : ∀ m, b < m → cr_cntb (va_up dn b true) m = cr_cntb dn m + 1 := by
  intro m
  induction m with
  | zero => intro h; exact absurd h (Nat.not_lt_zero _)
  | succ m ih =>
    intro h
    show cr_cntb (va_up dn b true) m + (if va_up dn b true m then 1 else 0) = cr_cntb dn m + (if dn m then 1 else 0) + 1
    rcases Nat.lt_or_ge b m with e | e
    · rw [ih e, va_up_ne _ _ (by omega)]
      omega
    · have : m = b := by omega
      subst this
      rw [cr_cntb_out dn m true m (Nat.le_refl _), va_up_self, hb]
      simp
theorem cr_cntb_lt (dn : Nat → Bool) (b m : Nat) (hb : dn b = false) (hm : b < m) : cr_cntb dn m < m := by
  have a := cr_cntb_up dn b hb m hm
  have c := cr_cntb_le (va_up dn b true) m
  omega
def cr_GI (mn : Nat) (elo ehi : Nat → Nat) (n1 : Nat) (lo1 hi1 : Nat → Nat) (f1 g1 ef1 : Nat → Int32) (la : Int32) (dn : Nat → Bool) : Prop :=
  (∀ k, k < mn → ef1 k = if dn k then -1 else nI (elo k)) ∧ cr_Rp n1 lo1 hi1 f1 g1 ∧ cr_Ok n1 lo1 hi1 ∧ (∀ c, cr_In n1 lo1 hi1 c ↔ ∃ k, k < mn ∧ dn k = true ∧ elo k ≤ c ∧ c ≤ ehi k) ∧ n1 ≤ cr_cntb dn mn ∧ (0 < n1 → la = nI (hi1 (n1 - 1)) ∧ ∀ k, k < mn → dn k = false → lo1 (n1 - 1) ≤ elo k)
theorem cr_GI_0 {mn : Nat} {ef eg : Nat → Int32} {elo ehi : Nat → Nat} (h : cr_En mn ef eg elo ehi) {f g : Nat → Int32} {la : Int32} : cr_GI mn elo ehi 0 (fun _ => 0) (fun _ => 0) f g ef la (fun _ => false) := by
  refine ⟨fun k hk => ?_, fun j hj => absurd hj (Nat.not_lt_zero _), ⟨fun j hj => absurd hj (Nat.not_lt_zero _), fun j hj => absurd hj (Nat.not_lt_zero _)⟩, fun c => ⟨?_, ?_⟩, Nat.zero_le _, fun h => absurd h (Nat.lt_irrefl _)⟩
  · show ef k = if false = true then -1 else nI (elo k)
    rw [if_neg (by decide)]
    exact (h k hk).1
  · rintro ⟨j, hj, _⟩
    exact absurd hj (Nat.not_lt_zero _)
  · rintro ⟨k, _, h2, _⟩
    exact absurd (show false = true from h2) (by decide)
theorem cr_GI_done {mn : Nat} {elo : Nat → Nat} {ef1 : Nat → Int32} {dn : Nat → Bool} (h : ∀ k, k < mn → ef1 k = if dn k then -1 else nI (elo k)) (b : Nat) : ∀ k, k < mn → upd ef1 b (-1) k = if va_up dn b true k then -1 else nI (elo k) := by
  intro k hk
  by_cases e : k = b
  · subst e
    rw [pk_us, va_up_self, if_pos rfl]
  · rw [pk_un e, va_up_ne _ _ e]
    exact h k hk
theorem cr_GI_push {mn : Nat} {elo ehi : Nat → Nat} (hV : ∀ k, k < mn → cr_Vr (elo k) (ehi k)) {n1 : Nat} {lo1 hi1 : Nat → Nat} {f1 g1 ef1 : Nat → Int32} {la : Int32} {dn : Nat → Bool} (h : cr_GI mn elo ehi n1 lo1 hi1 f1 g1 ef1 la dn) {b : Nat} (hb : b < mn) (hd : dn b = false) (hmin : ∀ j, j < mn → dn j = false → elo b ≤ elo j) (hn : n1 = 0 ∨ hi1 (n1 - 1) + 1 < elo b) :
    cr_GI mn elo ehi (n1 + 1) (va_up lo1 n1 (elo b)) (va_up hi1 n1 (ehi b)) (upd f1 n1 (nI (elo b))) (upd g1 n1 (nI (ehi b))) (upd ef1 b (-1)) (nI (ehi b)) (va_up dn b true) := by
  obtain ⟨h1, h2, h3, h4, h5, h6⟩ := h
  refine ⟨cr_GI_done h1 b, fun j hj => ?_, ⟨fun j hj => ?_, fun j hj => ?_⟩, fun c => ⟨?_, ?_⟩, ?_, fun _ => ⟨?_, fun k hk hdk => ?_⟩⟩
  · rcases Nat.lt_or_ge j n1 with e | e
    · rw [pk_un (by omega), pk_un (by omega), va_up_ne _ _ (by omega), va_up_ne _ _ (by omega)]
      exact h2 j e
    · have : j = n1 := by omega
      subst this
      rw [pk_us, pk_us, va_up_self, va_up_self]
      exact ⟨rfl, rfl⟩
  · rcases Nat.lt_or_ge j n1 with e | e
    · rw [va_up_ne _ _ (by omega), va_up_ne _ _ (by omega)]
      exact h3.1 j e
    · have : j = n1 := by omega
      subst this
      rw [va_up_self, va_up_self]
      exact hV b hb
  · rcases Nat.lt_or_ge (j + 1) n1 with e | e
    · rw [va_up_ne _ _ (by omega), va_up_ne _ _ (by omega)]
      exact h3.2 j e
    · have e2 : j + 1 = n1 := by omega
      rw [e2, va_up_self, va_up_ne _ _ (by omega)]
      rcases hn with q | q
      · omega
      · have e3 : n1 - 1 = j := by omega
        rw [e3] at q
        exact q
  · rintro ⟨j, hj, q1, q2⟩
    rcases Nat.lt_or_ge j n1 with e | e
    · rw [va_up_ne _ _ (by omega)] at q1 q2
      obtain ⟨k, k1, k2, k3⟩ := (h4 c).1 ⟨j, e, q1, q2⟩
      have kb : k ≠ b := fun q => by rw [q, hd] at k2; exact absurd k2 (by decide)
      exact ⟨k, k1, by rw [va_up_ne _ _ kb]; exact k2, k3⟩
    · have : j = n1 := by omega
      subst this
      rw [va_up_self] at q1 q2
      exact ⟨b, hb, va_up_self _ _ _, q1, q2⟩
  · rintro ⟨k, k1, k2, k3, k4⟩
    by_cases kb : k = b
    · subst kb
      exact ⟨n1, by omega, by rw [va_up_self]; exact k3, by rw [va_up_self]; exact k4⟩
    · rw [va_up_ne _ _ kb] at k2
      obtain ⟨j, hj, q1, q2⟩ := (h4 c).2 ⟨k, k1, k2, k3, k4⟩
      exact ⟨j, by omega, by rw [va_up_ne _ _ (by omega)]; exact q1, by rw [va_up_ne _ _ (by omega)]; exact q2⟩
  · rw [cr_cntb_up dn b hd mn hb]
    omega
  · rw [show n1 + 1 - 1 = n1 by omega, va_up_self]
  · rw [show n1 + 1 - 1 = n1 by omega, va_up_self]
    by_cases kb : k = b
    · subst kb
      rw [va_up_self] at hdk
      exact absurd hdk (by decide)
    · rw [va_up_ne _ _ kb] at hdk
      exact hmin k hk hdk
theorem cr_GI_merge {mn : Nat} {elo ehi : Nat → Nat} (hV : ∀ k, k < mn → cr_Vr (elo k) (ehi k)) {n1 : Nat} {lo1 hi1 : Nat → Nat} {f1 g1 ef1 : Nat → Int32} {la : Int32} {dn : Nat → Bool} (h : cr_GI mn elo ehi n1 lo1 hi1 f1 g1 ef1 la dn) {b : Nat} (hb : b < mn) (hd : dn b = false) (hmin : ∀ j, j < mn → dn j = false → elo b ≤ elo j) (hn : 0 < n1) (he : elo b ≤ hi1 (n1 - 1) + 1) :
    cr_GI mn elo ehi n1 lo1 (va_up hi1 (n1 - 1) (max (hi1 (n1 - 1)) (ehi b))) f1 (upd g1 (n1 - 1) (nI (max (hi1 (n1 - 1)) (ehi b)))) (upd ef1 b (-1)) (nI (max (hi1 (n1 - 1)) (ehi b))) (va_up dn b true) := by
  obtain ⟨h1, h2, h3, h4, h5, h6⟩ := h
  have hlb := (h6 hn).2 b hb hd
  have hv := hV b hb
  unfold cr_Vr at hv
  refine ⟨cr_GI_done h1 b, fun j hj => ?_, ⟨fun j hj => ?_, fun j hj => ?_⟩, fun c => ⟨?_, ?_⟩, ?_, fun _ => ⟨?_, fun k hk hdk => ?_⟩⟩
  · by_cases e : j = n1 - 1
    · subst e
      rw [pk_us, va_up_self]
      exact ⟨(h2 _ hj).1, rfl⟩
    · rw [pk_un e, va_up_ne _ _ e]
      exact h2 j hj
  · have q := h3.1 j hj
    by_cases e : j = n1 - 1
    · subst e
      rw [va_up_self]
      omega
    · rw [va_up_ne _ _ e]
      exact q
  · rw [va_up_ne _ _ (by omega)]
    exact h3.2 j hj
  · rintro ⟨j, hj, q1, q2⟩
    have old : cr_In n1 lo1 hi1 c → ∃ k, k < mn ∧ va_up dn b true k = true ∧ elo k ≤ c ∧ c ≤ ehi k := fun q => by
      obtain ⟨k, k1, k2, k3⟩ := (h4 c).1 q
      have kb : k ≠ b := fun q => by rw [q, hd] at k2; exact absurd k2 (by decide)
      exact ⟨k, k1, by rw [va_up_ne _ _ kb]; exact k2, k3⟩
    by_cases e : j = n1 - 1
    · subst e
      rw [va_up_self] at q2
      rcases Nat.lt_or_ge (hi1 (n1 - 1)) c with r | r
      · exact ⟨b, hb, va_up_self _ _ _, by omega, by omega⟩
      · exact old ⟨n1 - 1, hj, q1, r⟩
    · rw [va_up_ne _ _ e] at q2
      exact old ⟨j, hj, q1, q2⟩
  · rintro ⟨k, k1, k2, k3, k4⟩
    by_cases kb : k = b
    · subst kb
      exact ⟨n1 - 1, by omega, by omega, by rw [va_up_self]; omega⟩
    · rw [va_up_ne _ _ kb] at k2
      obtain ⟨j, hj, q1, q2⟩ := (h4 c).2 ⟨k, k1, k2, k3, k4⟩
      by_cases e : j = n1 - 1
      · subst e
        exact ⟨n1 - 1, hj, q1, by rw [va_up_self]; omega⟩
      · exact ⟨j, hj, q1, by rw [va_up_ne _ _ e]; exact q2⟩
  · rw [cr_cntb_up dn b hd mn hb]
    omega
  · rw [va_up_self]
  · by_cases kb : k = b
    · subst kb
      rw [va_up_self] at hdk
      exact absurd hdk (by decide)
    · rw [va_up_ne _ _ kb] at hdk
      exact (h6 hn).2 k hk hdk
theorem cr_GI_set {mn : Nat} {elo ehi : Nat → Nat} {n1 : Nat} {lo1 hi1 : Nat → Nat} {f1 g1 ef1 : Nat → Int32} {la : Int32} {dn : Nat → Bool} {E : Nat → Prop} (h : cr_GI mn elo ehi n1 lo1 hi1 f1 g1 ef1 la dn) (hall : ∀ k, k < mn → dn k = true) (hE : ∀ c, cr_In mn elo ehi c ↔ E c) : cr_Set n1 f1 g1 E := by
  obtain ⟨h1, h2, h3, h4, h5, h6⟩ := h
  refine ⟨lo1, hi1, h2, h3, fun c => ?_⟩
  rw [h4 c, ← hE c]
  constructor
  · rintro ⟨k, k1, _, k3, k4⟩
    exact ⟨k, k1, k3, k4⟩
  · rintro ⟨k, k1, k3, k4⟩
    exact ⟨k, k1, hall k k1, k3, k4⟩
