/-! PURE: more for the reference -/
theorem cr_min_first {dn : Nat → Bool} {elo : Nat → Nat} {k : Nat} (h : ∀ j, j < k → dn j = true) (_hd : dn k = false) : ∀ j, j < k + 1 → dn j = false → elo k ≤ elo j := by
  intro j hj hd
  rcases Nat.lt_or_ge j k with e | e
  · rw [h j e] at hd
    exact absurd hd (by decide)
  · have : j = k := by omega
    subst this
    exact Nat.le_refl _
theorem cr_min_less {dn : Nat → Bool} {elo : Nat → Nat} {k b : Nat} (h : ∀ j, j < k → dn j = false → elo b ≤ elo j) (_hd : dn k = false) (hl : elo k ≤ elo b) : ∀ j, j < k + 1 → dn j = false → elo k ≤ elo j := by
  intro j hj hd
  rcases Nat.lt_or_ge j k with e | e
  · exact Nat.le_trans hl (h j e hd)
  · have : j = k := by omega
    subst this
    exact Nat.le_refl _
theorem cr_min_keep {dn : Nat → Bool} {elo : Nat → Nat} {k b : Nat} (h : ∀ j, j < k → dn j = false → elo b ≤ elo j) (hl : dn k = true ∨ elo b ≤ elo k) : ∀ j, j < k + 1 → dn j = false → elo b ≤ elo j := by
  intro j hj hd
  rcases Nat.lt_or_ge j k with e | e
  · exact h j e hd
  · have : j = k := by omega
    subst this
    rcases hl with q | q
    · rw [q] at hd
      exact absurd hd (by decide)
    · exact q
theorem cr_lt_0 {dn : Nat → Bool} {k : Nat} (h : ∀ j, j < k → dn j = true) (hd : dn k = true) : ∀ j, j < k + 1 → dn j = true := by
  intro j hj
  rcases Nat.lt_or_ge j k with e | e
  · exact h j e
  · have : j = k := by omega
    subst this
    exact hd
theorem cr_or4 {P A B C : Prop} (h : (A ∨ B) ↔ C) : (((False ∨ P) ∨ A) ∨ B) ↔ (P ∨ C) := by
  rw [false_or, or_assoc]
  exact or_congr_right h
theorem cr_lp9 {p : Program} {l : Launch} {e : Env} {R : Room} {s : State} {m : MethodId} {args : Array Value} {below : List Frame} {meth : Method} {c : Code} {cells slots : Nat} {Q : State → Prop} {pc : Nat} {st : List Value} {A1 A2 A3 A4 A5 A6 A7 A8 A9 : Type} (μ : A1 → A2 → A3 → A4 → A5 → A6 → A7 → A8 → A9 → Nat) (I : A1 → A2 → A3 → A4 → A5 → A6 → A7 → A8 → A9 → Heap → List Loc → Array Slot → Prop)
    (hs : ∀ (a1 : A1) (a2 : A2) (a3 : A3) (a4 : A4) (a5 : A5) (a6 : A6) (a7 : A7) (a8 : A8) (a9 : A9) (H : Heap) (locs : List Loc) (ls : Array Slot), I a1 a2 a3 a4 a5 a6 a7 a8 a9 H locs ls → (∀ (b1 : A1) (b2 : A2) (b3 : A3) (b4 : A4) (b5 : A5) (b6 : A6) (b7 : A7) (b8 : A8) (b9 : A9) (H1 : Heap) (locs1 : List Loc) (ls1 : Array Slot), I b1 b2 b3 b4 b5 b6 b7 b8 b9 H1 locs1 ls1 → μ b1 b2 b3 b4 b5 b6 b7 b8 b9 < μ a1 a2 a3 a4 a5 a6 a7 a8 a9 → W p l e R s m args below meth c H1 locs1 cells slots Q (F0 m pc ls1 st)) → W p l e R s m args below meth c H locs cells slots Q (F0 m pc ls st))
    (a1 : A1) (a2 : A2) (a3 : A3) (a4 : A4) (a5 : A5) (a6 : A6) (a7 : A7) (a8 : A8) (a9 : A9) {H : Heap} {locs : List Loc} {ls : Array Slot} (h : I a1 a2 a3 a4 a5 a6 a7 a8 a9 H locs ls) : W p l e R s m args below meth c H locs cells slots Q (F0 m pc ls st) := by
  have key : ∀ (n : Nat) (a1 : A1) (a2 : A2) (a3 : A3) (a4 : A4) (a5 : A5) (a6 : A6) (a7 : A7) (a8 : A8) (a9 : A9) (H : Heap) (locs : List Loc) (ls : Array Slot), I a1 a2 a3 a4 a5 a6 a7 a8 a9 H locs ls → μ a1 a2 a3 a4 a5 a6 a7 a8 a9 < n → W p l e R s m args below meth c H locs cells slots Q (F0 m pc ls st) := by
    intro n
    induction n with
    | zero => intro a1 a2 a3 a4 a5 a6 a7 a8 a9 H locs ls _ h; exact absurd h (Nat.not_lt_zero _)
    | succ n ih => intro a1 a2 a3 a4 a5 a6 a7 a8 a9 H locs ls hI hn; exact hs a1 a2 a3 a4 a5 a6 a7 a8 a9 H locs ls hI (fun b1 b2 b3 b4 b5 b6 b7 b8 b9 H1 locs1 ls1 h1 h2 => ih b1 b2 b3 b4 b5 b6 b7 b8 b9 H1 locs1 ls1 h1 (Nat.lt_of_lt_of_le h2 (Nat.le_of_lt_succ hn)))
  exact key _ a1 a2 a3 a4 a5 a6 a7 a8 a9 H locs ls h (Nat.lt_succ_self _)
theorem cr_lp10 {p : Program} {l : Launch} {e : Env} {R : Room} {s : State} {m : MethodId} {args : Array Value} {below : List Frame} {meth : Method} {c : Code} {cells slots : Nat} {Q : State → Prop} {pc : Nat} {st : List Value} {A1 A2 A3 A4 A5 A6 A7 A8 A9 A10 : Type} (μ : A1 → A2 → A3 → A4 → A5 → A6 → A7 → A8 → A9 → A10 → Nat) (I : A1 → A2 → A3 → A4 → A5 → A6 → A7 → A8 → A9 → A10 → Heap → List Loc → Array Slot → Prop)
    (hs : ∀ (a1 : A1) (a2 : A2) (a3 : A3) (a4 : A4) (a5 : A5) (a6 : A6) (a7 : A7) (a8 : A8) (a9 : A9) (a10 : A10) (H : Heap) (locs : List Loc) (ls : Array Slot), I a1 a2 a3 a4 a5 a6 a7 a8 a9 a10 H locs ls → (∀ (b1 : A1) (b2 : A2) (b3 : A3) (b4 : A4) (b5 : A5) (b6 : A6) (b7 : A7) (b8 : A8) (b9 : A9) (b10 : A10) (H1 : Heap) (locs1 : List Loc) (ls1 : Array Slot), I b1 b2 b3 b4 b5 b6 b7 b8 b9 b10 H1 locs1 ls1 → μ b1 b2 b3 b4 b5 b6 b7 b8 b9 b10 < μ a1 a2 a3 a4 a5 a6 a7 a8 a9 a10 → W p l e R s m args below meth c H1 locs1 cells slots Q (F0 m pc ls1 st)) → W p l e R s m args below meth c H locs cells slots Q (F0 m pc ls st))
    (a1 : A1) (a2 : A2) (a3 : A3) (a4 : A4) (a5 : A5) (a6 : A6) (a7 : A7) (a8 : A8) (a9 : A9) (a10 : A10) {H : Heap} {locs : List Loc} {ls : Array Slot} (h : I a1 a2 a3 a4 a5 a6 a7 a8 a9 a10 H locs ls) : W p l e R s m args below meth c H locs cells slots Q (F0 m pc ls st) := by
  have key : ∀ (n : Nat) (a1 : A1) (a2 : A2) (a3 : A3) (a4 : A4) (a5 : A5) (a6 : A6) (a7 : A7) (a8 : A8) (a9 : A9) (a10 : A10) (H : Heap) (locs : List Loc) (ls : Array Slot), I a1 a2 a3 a4 a5 a6 a7 a8 a9 a10 H locs ls → μ a1 a2 a3 a4 a5 a6 a7 a8 a9 a10 < n → W p l e R s m args below meth c H locs cells slots Q (F0 m pc ls st) := by
    intro n
    induction n with
    | zero => intro a1 a2 a3 a4 a5 a6 a7 a8 a9 a10 H locs ls _ h; exact absurd h (Nat.not_lt_zero _)
    | succ n ih => intro a1 a2 a3 a4 a5 a6 a7 a8 a9 a10 H locs ls hI hn; exact hs a1 a2 a3 a4 a5 a6 a7 a8 a9 a10 H locs ls hI (fun b1 b2 b3 b4 b5 b6 b7 b8 b9 b10 H1 locs1 ls1 h1 h2 => ih b1 b2 b3 b4 b5 b6 b7 b8 b9 b10 H1 locs1 ls1 h1 (Nat.lt_of_lt_of_le h2 (Nat.le_of_lt_succ hn)))
  exact key _ a1 a2 a3 a4 a5 a6 a7 a8 a9 a10 H locs ls h (Nat.lt_succ_self _)
/-- roads that come together at J -/
theorem cr_cut1 {p : Program} {l : Launch} {e : Env} {R : Room} {s : State} {m : MethodId} {args : Array Value} {below : List Frame} {meth : Method} {c : Code} {cells slots : Nat} {Q : State → Prop} {pc : Nat} {ls0 : Array Slot} {st0 : List Value} {H0 : Heap} {locs0 : List Loc} (J : Nat) (st : List Value) {A1 : Type} (I : A1 → Heap → List Loc → Array Slot → Prop)
    (k : ∀ (a1 : A1) (H : Heap) (locs : List Loc) (ls : Array Slot), I a1 H locs ls → W p l e R s m args below meth c H locs cells slots Q (F0 m J ls st))
    (body : (∀ (a1 : A1) (H : Heap) (locs : List Loc) (ls : Array Slot), I a1 H locs ls → W p l e R s m args below meth c H locs cells slots Q (F0 m J ls st)) → W p l e R s m args below meth c H0 locs0 cells slots Q (F0 m pc ls0 st0)) : W p l e R s m args below meth c H0 locs0 cells slots Q (F0 m pc ls0 st0) := body k
/-- roads that come together at J -/
theorem cr_cut2 {p : Program} {l : Launch} {e : Env} {R : Room} {s : State} {m : MethodId} {args : Array Value} {below : List Frame} {meth : Method} {c : Code} {cells slots : Nat} {Q : State → Prop} {pc : Nat} {ls0 : Array Slot} {st0 : List Value} {H0 : Heap} {locs0 : List Loc} (J : Nat) (st : List Value) {A1 A2 : Type} (I : A1 → A2 → Heap → List Loc → Array Slot → Prop)
    (k : ∀ (a1 : A1) (a2 : A2) (H : Heap) (locs : List Loc) (ls : Array Slot), I a1 a2 H locs ls → W p l e R s m args below meth c H locs cells slots Q (F0 m J ls st))
    (body : (∀ (a1 : A1) (a2 : A2) (H : Heap) (locs : List Loc) (ls : Array Slot), I a1 a2 H locs ls → W p l e R s m args below meth c H locs cells slots Q (F0 m J ls st)) → W p l e R s m args below meth c H0 locs0 cells slots Q (F0 m pc ls0 st0)) : W p l e R s m args below meth c H0 locs0 cells slots Q (F0 m pc ls0 st0) := body k
/-- roads that come together at J -/
theorem cr_cut3 {p : Program} {l : Launch} {e : Env} {R : Room} {s : State} {m : MethodId} {args : Array Value} {below : List Frame} {meth : Method} {c : Code} {cells slots : Nat} {Q : State → Prop} {pc : Nat} {ls0 : Array Slot} {st0 : List Value} {H0 : Heap} {locs0 : List Loc} (J : Nat) (st : List Value) {A1 A2 A3 : Type} (I : A1 → A2 → A3 → Heap → List Loc → Array Slot → Prop)
    (k : ∀ (a1 : A1) (a2 : A2) (a3 : A3) (H : Heap) (locs : List Loc) (ls : Array Slot), I a1 a2 a3 H locs ls → W p l e R s m args below meth c H locs cells slots Q (F0 m J ls st))
    (body : (∀ (a1 : A1) (a2 : A2) (a3 : A3) (H : Heap) (locs : List Loc) (ls : Array Slot), I a1 a2 a3 H locs ls → W p l e R s m args below meth c H locs cells slots Q (F0 m J ls st)) → W p l e R s m args below meth c H0 locs0 cells slots Q (F0 m pc ls0 st0)) : W p l e R s m args below meth c H0 locs0 cells slots Q (F0 m pc ls0 st0) := body k
/-- roads that come together at J -/
theorem cr_cut4 {p : Program} {l : Launch} {e : Env} {R : Room} {s : State} {m : MethodId} {args : Array Value} {below : List Frame} {meth : Method} {c : Code} {cells slots : Nat} {Q : State → Prop} {pc : Nat} {ls0 : Array Slot} {st0 : List Value} {H0 : Heap} {locs0 : List Loc} (J : Nat) (st : List Value) {A1 A2 A3 A4 : Type} (I : A1 → A2 → A3 → A4 → Heap → List Loc → Array Slot → Prop)
    (k : ∀ (a1 : A1) (a2 : A2) (a3 : A3) (a4 : A4) (H : Heap) (locs : List Loc) (ls : Array Slot), I a1 a2 a3 a4 H locs ls → W p l e R s m args below meth c H locs cells slots Q (F0 m J ls st))
    (body : (∀ (a1 : A1) (a2 : A2) (a3 : A3) (a4 : A4) (H : Heap) (locs : List Loc) (ls : Array Slot), I a1 a2 a3 a4 H locs ls → W p l e R s m args below meth c H locs cells slots Q (F0 m J ls st)) → W p l e R s m args below meth c H0 locs0 cells slots Q (F0 m pc ls0 st0)) : W p l e R s m args below meth c H0 locs0 cells slots Q (F0 m pc ls0 st0) := body k
/-- roads that come together at J -/
theorem cr_cut5 {p : Program} {l : Launch} {e : Env} {R : Room} {s : State} {m : MethodId} {args : Array Value} {below : List Frame} {meth : Method} {c : Code} {cells slots : Nat} {Q : State → Prop} {pc : Nat} {ls0 : Array Slot} {st0 : List Value} {H0 : Heap} {locs0 : List Loc} (J : Nat) (st : List Value) {A1 A2 A3 A4 A5 : Type} (I : A1 → A2 → A3 → A4 → A5 → Heap → List Loc → Array Slot → Prop)
    (k : ∀ (a1 : A1) (a2 : A2) (a3 : A3) (a4 : A4) (a5 : A5) (H : Heap) (locs : List Loc) (ls : Array Slot), I a1 a2 a3 a4 a5 H locs ls → W p l e R s m args below meth c H locs cells slots Q (F0 m J ls st))
    (body : (∀ (a1 : A1) (a2 : A2) (a3 : A3) (a4 : A4) (a5 : A5) (H : Heap) (locs : List Loc) (ls : Array Slot), I a1 a2 a3 a4 a5 H locs ls → W p l e R s m args below meth c H locs cells slots Q (F0 m J ls st)) → W p l e R s m args below meth c H0 locs0 cells slots Q (F0 m pc ls0 st0)) : W p l e R s m args below meth c H0 locs0 cells slots Q (F0 m pc ls0 st0) := body k
/-- roads that come together at J -/
theorem cr_cut6 {p : Program} {l : Launch} {e : Env} {R : Room} {s : State} {m : MethodId} {args : Array Value} {below : List Frame} {meth : Method} {c : Code} {cells slots : Nat} {Q : State → Prop} {pc : Nat} {ls0 : Array Slot} {st0 : List Value} {H0 : Heap} {locs0 : List Loc} (J : Nat) (st : List Value) {A1 A2 A3 A4 A5 A6 : Type} (I : A1 → A2 → A3 → A4 → A5 → A6 → Heap → List Loc → Array Slot → Prop)
    (k : ∀ (a1 : A1) (a2 : A2) (a3 : A3) (a4 : A4) (a5 : A5) (a6 : A6) (H : Heap) (locs : List Loc) (ls : Array Slot), I a1 a2 a3 a4 a5 a6 H locs ls → W p l e R s m args below meth c H locs cells slots Q (F0 m J ls st))
    (body : (∀ (a1 : A1) (a2 : A2) (a3 : A3) (a4 : A4) (a5 : A5) (a6 : A6) (H : Heap) (locs : List Loc) (ls : Array Slot), I a1 a2 a3 a4 a5 a6 H locs ls → W p l e R s m args below meth c H locs cells slots Q (F0 m J ls st)) → W p l e R s m args below meth c H0 locs0 cells slots Q (F0 m pc ls0 st0)) : W p l e R s m args below meth c H0 locs0 cells slots Q (F0 m pc ls0 st0) := body k
theorem cr_fm_lo {n : Nat} {lo hi : Nat → Nat} (hO : cr_Ok n lo hi) {k : Nat} (hk : k < n) : cr_fm hi k ≤ lo k := by
  unfold cr_fm
  split
  · omega
  · have := hO.lt (show k - 1 < k by omega) hk
    omega
theorem cr_keep_s {f g k1 k2 : Nat → Int32} {k : Nat} (h : ∀ j, j < k → k1 j = f j ∧ k2 j = g j) : ∀ j, j < k + 1 → upd k1 k (f k) j = f j ∧ upd k2 k (g k) j = g j := by
  intro j hj
  by_cases e : j = k
  · subst e
    rw [pk_us, pk_us]
    exact ⟨rfl, rfl⟩
  · rw [pk_un e, pk_un e]
    exact h j (by omega)
theorem cr_isin_s {lo hi : Nat → Nat} {x : Int} {k : Nat} (h : ¬ ∃ j, j < k ∧ (lo j : Int) ≤ x ∧ x ≤ hi j) (hk : ¬ ((lo k : Int) ≤ x ∧ x ≤ hi k)) : ¬ ∃ j, j < k + 1 ∧ (lo j : Int) ≤ x ∧ x ≤ hi j := by
  rintro ⟨j, h1, h2⟩
  rcases Nat.lt_or_ge j k with e | e
  · exact h ⟨j, e, h2⟩
  · have : j = k := by omega
    subst this
    exact hk h2
theorem cr_Hs_at {n : Nat} {lo hi : Nat → Nat} {S : Nat → Prop} (hI : ∀ c, cr_In n lo hi c ↔ S c) {x : Int32} (h : cr_Hs S x) : ∃ j, j < n ∧ (lo j : Int) ≤ x.toInt ∧ x.toInt ≤ hi j := by
  obtain ⟨c, hc, rfl, hs⟩ := h
  obtain ⟨j, h1, h2, h3⟩ := (hI c).2 hs
  rw [nI_toInt (by omega)]
  exact ⟨j, h1, by omega, by omega⟩
