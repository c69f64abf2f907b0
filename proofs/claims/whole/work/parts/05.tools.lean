/-! TOOLS: a rewritten top, loops, contracts over one world, calls and what comes back -/
theorem cr_top {p : Program} {l : Launch} {e : Env} {R : Room} {s : State} {m : MethodId} {args : Array Value} {below : List Frame} {meth : Method} {c : Code} {cells slots : Nat} {Q : State → Prop} {H : Heap} {locs : List Loc} {pc : Nat} {ls : Array Slot} {rest : List Value} {x y : Int32} (h : x = y) (k : W p l e R s m args below meth c H locs cells slots Q (F0 m pc ls (.int y :: rest))) : W p l e R s m args below meth c H locs cells slots Q (F0 m pc ls (.int x :: rest)) := by
  rw [h]
  exact k
theorem cr_topl {p : Program} {l : Launch} {e : Env} {R : Room} {s : State} {m : MethodId} {args : Array Value} {below : List Frame} {meth : Method} {c : Code} {cells slots : Nat} {Q : State → Prop} {H : Heap} {locs : List Loc} {pc : Nat} {ls : Array Slot} {rest : List Value} {x y : Int64} (h : x = y) (k : W p l e R s m args below meth c H locs cells slots Q (F0 m pc ls (.long y :: rest))) : W p l e R s m args below meth c H locs cells slots Q (F0 m pc ls (.long x :: rest)) := by
  rw [h]
  exact k
theorem cr_lp1 {p : Program} {l : Launch} {e : Env} {R : Room} {s : State} {m : MethodId} {args : Array Value} {below : List Frame} {meth : Method} {c : Code} {cells slots : Nat} {Q : State → Prop} {pc : Nat} {st : List Value} {A1 : Type} (μ : A1 → Nat) (I : A1 → Heap → List Loc → Array Slot → Prop)
    (hs : ∀ (a1 : A1) (H : Heap) (locs : List Loc) (ls : Array Slot), I a1 H locs ls → (∀ (b1 : A1) (H1 : Heap) (locs1 : List Loc) (ls1 : Array Slot), I b1 H1 locs1 ls1 → μ b1 < μ a1 → W p l e R s m args below meth c H1 locs1 cells slots Q (F0 m pc ls1 st)) → W p l e R s m args below meth c H locs cells slots Q (F0 m pc ls st))
    (a1 : A1) {H : Heap} {locs : List Loc} {ls : Array Slot} (h : I a1 H locs ls) : W p l e R s m args below meth c H locs cells slots Q (F0 m pc ls st) := by
  have key : ∀ (n : Nat) (a1 : A1) (H : Heap) (locs : List Loc) (ls : Array Slot), I a1 H locs ls → μ a1 < n → W p l e R s m args below meth c H locs cells slots Q (F0 m pc ls st) := by
    intro n
    induction n with
    | zero => intro a1 H locs ls _ h; exact absurd h (Nat.not_lt_zero _)
    | succ n ih => intro a1 H locs ls hI hn; exact hs a1 H locs ls hI (fun b1 H1 locs1 ls1 h1 h2 => ih b1 H1 locs1 ls1 h1 (Nat.lt_of_lt_of_le h2 (Nat.le_of_lt_succ hn)))
  exact key _ a1 H locs ls h (Nat.lt_succ_self _)
theorem cr_lp2 {p : Program} {l : Launch} {e : Env} {R : Room} {s : State} {m : MethodId} {args : Array Value} {below : List Frame} {meth : Method} {c : Code} {cells slots : Nat} {Q : State → Prop} {pc : Nat} {st : List Value} {A1 A2 : Type} (μ : A1 → A2 → Nat) (I : A1 → A2 → Heap → List Loc → Array Slot → Prop)
    (hs : ∀ (a1 : A1) (a2 : A2) (H : Heap) (locs : List Loc) (ls : Array Slot), I a1 a2 H locs ls → (∀ (b1 : A1) (b2 : A2) (H1 : Heap) (locs1 : List Loc) (ls1 : Array Slot), I b1 b2 H1 locs1 ls1 → μ b1 b2 < μ a1 a2 → W p l e R s m args below meth c H1 locs1 cells slots Q (F0 m pc ls1 st)) → W p l e R s m args below meth c H locs cells slots Q (F0 m pc ls st))
    (a1 : A1) (a2 : A2) {H : Heap} {locs : List Loc} {ls : Array Slot} (h : I a1 a2 H locs ls) : W p l e R s m args below meth c H locs cells slots Q (F0 m pc ls st) := by
  have key : ∀ (n : Nat) (a1 : A1) (a2 : A2) (H : Heap) (locs : List Loc) (ls : Array Slot), I a1 a2 H locs ls → μ a1 a2 < n → W p l e R s m args below meth c H locs cells slots Q (F0 m pc ls st) := by
    intro n
    induction n with
    | zero => intro a1 a2 H locs ls _ h; exact absurd h (Nat.not_lt_zero _)
    | succ n ih => intro a1 a2 H locs ls hI hn; exact hs a1 a2 H locs ls hI (fun b1 b2 H1 locs1 ls1 h1 h2 => ih b1 b2 H1 locs1 ls1 h1 (Nat.lt_of_lt_of_le h2 (Nat.le_of_lt_succ hn)))
  exact key _ a1 a2 H locs ls h (Nat.lt_succ_self _)
theorem cr_lp3 {p : Program} {l : Launch} {e : Env} {R : Room} {s : State} {m : MethodId} {args : Array Value} {below : List Frame} {meth : Method} {c : Code} {cells slots : Nat} {Q : State → Prop} {pc : Nat} {st : List Value} {A1 A2 A3 : Type} (μ : A1 → A2 → A3 → Nat) (I : A1 → A2 → A3 → Heap → List Loc → Array Slot → Prop)
    (hs : ∀ (a1 : A1) (a2 : A2) (a3 : A3) (H : Heap) (locs : List Loc) (ls : Array Slot), I a1 a2 a3 H locs ls → (∀ (b1 : A1) (b2 : A2) (b3 : A3) (H1 : Heap) (locs1 : List Loc) (ls1 : Array Slot), I b1 b2 b3 H1 locs1 ls1 → μ b1 b2 b3 < μ a1 a2 a3 → W p l e R s m args below meth c H1 locs1 cells slots Q (F0 m pc ls1 st)) → W p l e R s m args below meth c H locs cells slots Q (F0 m pc ls st))
    (a1 : A1) (a2 : A2) (a3 : A3) {H : Heap} {locs : List Loc} {ls : Array Slot} (h : I a1 a2 a3 H locs ls) : W p l e R s m args below meth c H locs cells slots Q (F0 m pc ls st) := by
  have key : ∀ (n : Nat) (a1 : A1) (a2 : A2) (a3 : A3) (H : Heap) (locs : List Loc) (ls : Array Slot), I a1 a2 a3 H locs ls → μ a1 a2 a3 < n → W p l e R s m args below meth c H locs cells slots Q (F0 m pc ls st) := by
    intro n
    induction n with
    | zero => intro a1 a2 a3 H locs ls _ h; exact absurd h (Nat.not_lt_zero _)
    | succ n ih => intro a1 a2 a3 H locs ls hI hn; exact hs a1 a2 a3 H locs ls hI (fun b1 b2 b3 H1 locs1 ls1 h1 h2 => ih b1 b2 b3 H1 locs1 ls1 h1 (Nat.lt_of_lt_of_le h2 (Nat.le_of_lt_succ hn)))
  exact key _ a1 a2 a3 H locs ls h (Nat.lt_succ_self _)
theorem cr_lp4 {p : Program} {l : Launch} {e : Env} {R : Room} {s : State} {m : MethodId} {args : Array Value} {below : List Frame} {meth : Method} {c : Code} {cells slots : Nat} {Q : State → Prop} {pc : Nat} {st : List Value} {A1 A2 A3 A4 : Type} (μ : A1 → A2 → A3 → A4 → Nat) (I : A1 → A2 → A3 → A4 → Heap → List Loc → Array Slot → Prop)
    (hs : ∀ (a1 : A1) (a2 : A2) (a3 : A3) (a4 : A4) (H : Heap) (locs : List Loc) (ls : Array Slot), I a1 a2 a3 a4 H locs ls → (∀ (b1 : A1) (b2 : A2) (b3 : A3) (b4 : A4) (H1 : Heap) (locs1 : List Loc) (ls1 : Array Slot), I b1 b2 b3 b4 H1 locs1 ls1 → μ b1 b2 b3 b4 < μ a1 a2 a3 a4 → W p l e R s m args below meth c H1 locs1 cells slots Q (F0 m pc ls1 st)) → W p l e R s m args below meth c H locs cells slots Q (F0 m pc ls st))
    (a1 : A1) (a2 : A2) (a3 : A3) (a4 : A4) {H : Heap} {locs : List Loc} {ls : Array Slot} (h : I a1 a2 a3 a4 H locs ls) : W p l e R s m args below meth c H locs cells slots Q (F0 m pc ls st) := by
  have key : ∀ (n : Nat) (a1 : A1) (a2 : A2) (a3 : A3) (a4 : A4) (H : Heap) (locs : List Loc) (ls : Array Slot), I a1 a2 a3 a4 H locs ls → μ a1 a2 a3 a4 < n → W p l e R s m args below meth c H locs cells slots Q (F0 m pc ls st) := by
    intro n
    induction n with
    | zero => intro a1 a2 a3 a4 H locs ls _ h; exact absurd h (Nat.not_lt_zero _)
    | succ n ih => intro a1 a2 a3 a4 H locs ls hI hn; exact hs a1 a2 a3 a4 H locs ls hI (fun b1 b2 b3 b4 H1 locs1 ls1 h1 h2 => ih b1 b2 b3 b4 H1 locs1 ls1 h1 (Nat.lt_of_lt_of_le h2 (Nat.le_of_lt_succ hn)))
  exact key _ a1 a2 a3 a4 H locs ls h (Nat.lt_succ_self _)
theorem cr_lp5 {p : Program} {l : Launch} {e : Env} {R : Room} {s : State} {m : MethodId} {args : Array Value} {below : List Frame} {meth : Method} {c : Code} {cells slots : Nat} {Q : State → Prop} {pc : Nat} {st : List Value} {A1 A2 A3 A4 A5 : Type} (μ : A1 → A2 → A3 → A4 → A5 → Nat) (I : A1 → A2 → A3 → A4 → A5 → Heap → List Loc → Array Slot → Prop)
    (hs : ∀ (a1 : A1) (a2 : A2) (a3 : A3) (a4 : A4) (a5 : A5) (H : Heap) (locs : List Loc) (ls : Array Slot), I a1 a2 a3 a4 a5 H locs ls → (∀ (b1 : A1) (b2 : A2) (b3 : A3) (b4 : A4) (b5 : A5) (H1 : Heap) (locs1 : List Loc) (ls1 : Array Slot), I b1 b2 b3 b4 b5 H1 locs1 ls1 → μ b1 b2 b3 b4 b5 < μ a1 a2 a3 a4 a5 → W p l e R s m args below meth c H1 locs1 cells slots Q (F0 m pc ls1 st)) → W p l e R s m args below meth c H locs cells slots Q (F0 m pc ls st))
    (a1 : A1) (a2 : A2) (a3 : A3) (a4 : A4) (a5 : A5) {H : Heap} {locs : List Loc} {ls : Array Slot} (h : I a1 a2 a3 a4 a5 H locs ls) : W p l e R s m args below meth c H locs cells slots Q (F0 m pc ls st) := by
  have key : ∀ (n : Nat) (a1 : A1) (a2 : A2) (a3 : A3) (a4 : A4) (a5 : A5) (H : Heap) (locs : List Loc) (ls : Array Slot), I a1 a2 a3 a4 a5 H locs ls → μ a1 a2 a3 a4 a5 < n → W p l e R s m args below meth c H locs cells slots Q (F0 m pc ls st) := by
    intro n
    induction n with
    | zero => intro a1 a2 a3 a4 a5 H locs ls _ h; exact absurd h (Nat.not_lt_zero _)
    | succ n ih => intro a1 a2 a3 a4 a5 H locs ls hI hn; exact hs a1 a2 a3 a4 a5 H locs ls hI (fun b1 b2 b3 b4 b5 H1 locs1 ls1 h1 h2 => ih b1 b2 b3 b4 b5 H1 locs1 ls1 h1 (Nat.lt_of_lt_of_le h2 (Nat.le_of_lt_succ hn)))
  exact key _ a1 a2 a3 a4 a5 H locs ls h (Nat.lt_succ_self _)
theorem cr_lp6 {p : Program} {l : Launch} {e : Env} {R : Room} {s : State} {m : MethodId} {args : Array Value} {below : List Frame} {meth : Method} {c : Code} {cells slots : Nat} {Q : State → Prop} {pc : Nat} {st : List Value} {A1 A2 A3 A4 A5 A6 : Type} (μ : A1 → A2 → A3 → A4 → A5 → A6 → Nat) (I : A1 → A2 → A3 → A4 → A5 → A6 → Heap → List Loc → Array Slot → Prop)
    (hs : ∀ (a1 : A1) (a2 : A2) (a3 : A3) (a4 : A4) (a5 : A5) (a6 : A6) (H : Heap) (locs : List Loc) (ls : Array Slot), I a1 a2 a3 a4 a5 a6 H locs ls → (∀ (b1 : A1) (b2 : A2) (b3 : A3) (b4 : A4) (b5 : A5) (b6 : A6) (H1 : Heap) (locs1 : List Loc) (ls1 : Array Slot), I b1 b2 b3 b4 b5 b6 H1 locs1 ls1 → μ b1 b2 b3 b4 b5 b6 < μ a1 a2 a3 a4 a5 a6 → W p l e R s m args below meth c H1 locs1 cells slots Q (F0 m pc ls1 st)) → W p l e R s m args below meth c H locs cells slots Q (F0 m pc ls st))
    (a1 : A1) (a2 : A2) (a3 : A3) (a4 : A4) (a5 : A5) (a6 : A6) {H : Heap} {locs : List Loc} {ls : Array Slot} (h : I a1 a2 a3 a4 a5 a6 H locs ls) : W p l e R s m args below meth c H locs cells slots Q (F0 m pc ls st) := by
  have key : ∀ (n : Nat) (a1 : A1) (a2 : A2) (a3 : A3) (a4 : A4) (a5 : A5) (a6 : A6) (H : Heap) (locs : List Loc) (ls : Array Slot), I a1 a2 a3 a4 a5 a6 H locs ls → μ a1 a2 a3 a4 a5 a6 < n → W p l e R s m args below meth c H locs cells slots Q (F0 m pc ls st) := by
    intro n
    induction n with
    | zero => intro a1 a2 a3 a4 a5 a6 H locs ls _ h; exact absurd h (Nat.not_lt_zero _)
    | succ n ih => intro a1 a2 a3 a4 a5 a6 H locs ls hI hn; exact hs a1 a2 a3 a4 a5 a6 H locs ls hI (fun b1 b2 b3 b4 b5 b6 H1 locs1 ls1 h1 h2 => ih b1 b2 b3 b4 b5 b6 H1 locs1 ls1 h1 (Nat.lt_of_lt_of_le h2 (Nat.le_of_lt_succ hn)))
  exact key _ a1 a2 a3 a4 a5 a6 H locs ls h (Nat.lt_succ_self _)
theorem cr_lp7 {p : Program} {l : Launch} {e : Env} {R : Room} {s : State} {m : MethodId} {args : Array Value} {below : List Frame} {meth : Method} {c : Code} {cells slots : Nat} {Q : State → Prop} {pc : Nat} {st : List Value} {A1 A2 A3 A4 A5 A6 A7 : Type} (μ : A1 → A2 → A3 → A4 → A5 → A6 → A7 → Nat) (I : A1 → A2 → A3 → A4 → A5 → A6 → A7 → Heap → List Loc → Array Slot → Prop)
    (hs : ∀ (a1 : A1) (a2 : A2) (a3 : A3) (a4 : A4) (a5 : A5) (a6 : A6) (a7 : A7) (H : Heap) (locs : List Loc) (ls : Array Slot), I a1 a2 a3 a4 a5 a6 a7 H locs ls → (∀ (b1 : A1) (b2 : A2) (b3 : A3) (b4 : A4) (b5 : A5) (b6 : A6) (b7 : A7) (H1 : Heap) (locs1 : List Loc) (ls1 : Array Slot), I b1 b2 b3 b4 b5 b6 b7 H1 locs1 ls1 → μ b1 b2 b3 b4 b5 b6 b7 < μ a1 a2 a3 a4 a5 a6 a7 → W p l e R s m args below meth c H1 locs1 cells slots Q (F0 m pc ls1 st)) → W p l e R s m args below meth c H locs cells slots Q (F0 m pc ls st))
    (a1 : A1) (a2 : A2) (a3 : A3) (a4 : A4) (a5 : A5) (a6 : A6) (a7 : A7) {H : Heap} {locs : List Loc} {ls : Array Slot} (h : I a1 a2 a3 a4 a5 a6 a7 H locs ls) : W p l e R s m args below meth c H locs cells slots Q (F0 m pc ls st) := by
  have key : ∀ (n : Nat) (a1 : A1) (a2 : A2) (a3 : A3) (a4 : A4) (a5 : A5) (a6 : A6) (a7 : A7) (H : Heap) (locs : List Loc) (ls : Array Slot), I a1 a2 a3 a4 a5 a6 a7 H locs ls → μ a1 a2 a3 a4 a5 a6 a7 < n → W p l e R s m args below meth c H locs cells slots Q (F0 m pc ls st) := by
    intro n
    induction n with
    | zero => intro a1 a2 a3 a4 a5 a6 a7 H locs ls _ h; exact absurd h (Nat.not_lt_zero _)
    | succ n ih => intro a1 a2 a3 a4 a5 a6 a7 H locs ls hI hn; exact hs a1 a2 a3 a4 a5 a6 a7 H locs ls hI (fun b1 b2 b3 b4 b5 b6 b7 H1 locs1 ls1 h1 h2 => ih b1 b2 b3 b4 b5 b6 b7 H1 locs1 ls1 h1 (Nat.lt_of_lt_of_le h2 (Nat.le_of_lt_succ hn)))
  exact key _ a1 a2 a3 a4 a5 a6 a7 H locs ls h (Nat.lt_succ_self _)
theorem cr_lp8 {p : Program} {l : Launch} {e : Env} {R : Room} {s : State} {m : MethodId} {args : Array Value} {below : List Frame} {meth : Method} {c : Code} {cells slots : Nat} {Q : State → Prop} {pc : Nat} {st : List Value} {A1 A2 A3 A4 A5 A6 A7 A8 : Type} (μ : A1 → A2 → A3 → A4 → A5 → A6 → A7 → A8 → Nat) (I : A1 → A2 → A3 → A4 → A5 → A6 → A7 → A8 → Heap → List Loc → Array Slot → Prop)
    (hs : ∀ (a1 : A1) (a2 : A2) (a3 : A3) (a4 : A4) (a5 : A5) (a6 : A6) (a7 : A7) (a8 : A8) (H : Heap) (locs : List Loc) (ls : Array Slot), I a1 a2 a3 a4 a5 a6 a7 a8 H locs ls → (∀ (b1 : A1) (b2 : A2) (b3 : A3) (b4 : A4) (b5 : A5) (b6 : A6) (b7 : A7) (b8 : A8) (H1 : Heap) (locs1 : List Loc) (ls1 : Array Slot), I b1 b2 b3 b4 b5 b6 b7 b8 H1 locs1 ls1 → μ b1 b2 b3 b4 b5 b6 b7 b8 < μ a1 a2 a3 a4 a5 a6 a7 a8 → W p l e R s m args below meth c H1 locs1 cells slots Q (F0 m pc ls1 st)) → W p l e R s m args below meth c H locs cells slots Q (F0 m pc ls st))
    (a1 : A1) (a2 : A2) (a3 : A3) (a4 : A4) (a5 : A5) (a6 : A6) (a7 : A7) (a8 : A8) {H : Heap} {locs : List Loc} {ls : Array Slot} (h : I a1 a2 a3 a4 a5 a6 a7 a8 H locs ls) : W p l e R s m args below meth c H locs cells slots Q (F0 m pc ls st) := by
  have key : ∀ (n : Nat) (a1 : A1) (a2 : A2) (a3 : A3) (a4 : A4) (a5 : A5) (a6 : A6) (a7 : A7) (a8 : A8) (H : Heap) (locs : List Loc) (ls : Array Slot), I a1 a2 a3 a4 a5 a6 a7 a8 H locs ls → μ a1 a2 a3 a4 a5 a6 a7 a8 < n → W p l e R s m args below meth c H locs cells slots Q (F0 m pc ls st) := by
    intro n
    induction n with
    | zero => intro a1 a2 a3 a4 a5 a6 a7 a8 H locs ls _ h; exact absurd h (Nat.not_lt_zero _)
    | succ n ih => intro a1 a2 a3 a4 a5 a6 a7 a8 H locs ls hI hn; exact hs a1 a2 a3 a4 a5 a6 a7 a8 H locs ls hI (fun b1 b2 b3 b4 b5 b6 b7 b8 H1 locs1 ls1 h1 h2 => ih b1 b2 b3 b4 b5 b6 b7 b8 H1 locs1 ls1 h1 (Nat.lt_of_lt_of_le h2 (Nat.le_of_lt_succ hn)))
  exact key _ a1 a2 a3 a4 a5 a6 a7 a8 H locs ls h (Nat.lt_succ_self _)
/-- a contract's start: the cells ws, sz cells in all -/
abbrev cr_pre (dC : Nat → ClassId) (dI : Nat → Nat → Nat) (tys : List (ClassId × FieldType)) (ws : va_W) (sz : Nat) (U : State) : Prop := U.heap.size = sz ∧ va_P (dC, dI) crCl ws U.heap ∧ va_K (dC, dI) crCl tys U ∧ va_D (fun _ => True) ws
/-- its end: the cells ws -/
abbrev cr_at (dC : Nat → ClassId) (dI : Nat → Nat → Nat) (tys : List (ClassId × FieldType)) (A : Nat → Prop) (ws : va_W) (t : State) : Prop := va_P (dC, dI) crCl ws t.heap ∧ va_K (dC, dI) crCl tys t ∧ va_D A ws
theorem cr_blind {dC : Nat → ClassId} {dI : Nat → Nat → Nat} {tys : List (ClassId × FieldType)} {ws : va_W} {sz : Nat} {av : List Value} : FrameBlind (va_Pc av (cr_pre dC dI tys ws sz)) := by
  intro a U g mk q
  obtain ⟨q0, q1, qP, qK, qD⟩ := q
  exact ⟨q0, q1, qP, va_K.moved (u := U) (U := U.calling g mk a) (Vm.Alike.refl U.vm) qK, qD⟩
theorem cr_preS {dC : Nat → ClassId} {dI : Nat → Nat → Nat} {tys : List (ClassId × FieldType)} {ws : va_W} {av : List Value} {A : Nat → Prop} {s : State} {H : Heap} (hP : va_P (dC, dI) crCl ws H) (hK : va_K (dC, dI) crCl tys s) (hD : va_D A ws) : PreS s H (va_Pc av (cr_pre dC dI tys ws H.size)) av :=
  ⟨cr_blind, fun U hU hW => ⟨rfl, by rw [hU], by rw [hU]; exact hP, va_K.moved hW.alike hK, hD.weaken (fun _ _ _ _ => trivial)⟩⟩
theorem cr_preV {dC : Nat → ClassId} {dI : Nat → Nat → Nat} {tys : List (ClassId × FieldType)} {ws : va_W} {av : List Value} {A : Nat → Prop} {s : State} {H : Heap} {b ci q0 : Nat} {q : vw_C} {fs : List Value} (hP : va_P (dC, dI) crCl ws H) (hK : va_K (dC, dI) crCl tys s) (hD : va_D A ws) (hc : crCl[ci]? = some q) (he : ws[q0]? = some (b, .inr (ci, fs))) : PreV s H q.1 b (va_Pc (Value.ref b :: av) (cr_pre dC dI tys ws H.size)) av :=
  ⟨cr_blind, va_recv hK hP hc he, fun U hU hW => ⟨rfl, by rw [hU], by rw [hU]; exact hP, va_K.moved hW.alike hK, hD.weaken (fun _ _ _ _ => trivial)⟩⟩
theorem cr_back {dC : Nat → ClassId} {dI : Nat → Nat → Nat} {tys : List (ClassId × FieldType)} {A0 : Nat → Prop} {ws wc wr w1 : va_W} {H H1 : Heap} {t : State} (hP : va_P (dC, dI) crCl ws H) (hD : va_D A0 ws) (isC isR : List Nat) (hC : isC.map (fun i => ws[i]?) = wc.map some) (hR : isR.map (fun i => ws[i]?) = wr.map some) (hn : va_nd isR = true) (hdis : ∀ i ∈ isR, i ∉ isC)
    (hk : ∀ q : Nat, q < H.size → ¬ va_A wc H.size q → H1[q]? = H[q]?) (hF : ∀ q, va_A wc H.size q → A0 q) (hB : cr_at dC dI tys (va_A wc H.size) w1 t) (ht : t.heap = H1) : va_P (dC, dI) crCl (wr ++ w1) H1 ∧ va_D A0 (wr ++ w1) := by
  obtain ⟨hP1, _, hD1⟩ := hB
  rw [ht] at hP1
  exact va_join hP hD isC isR hC hR hn hdis hk hF hP1 hD1
/-- the links to members of the nest mate -/
def cr_nw : List Cond := [.fieldLinkNest RX1 47 "CharRows$Ranges" "lows" "[I" "CharRows", .fieldLinkNest RX1 51 "CharRows$Ranges" "highs" "[I" "CharRows", .fieldLinkNest RX1 34 "CharRows$Ranges" "count" "I" "CharRows", .methodLinkNest RX1 9 yX0_init "CharRows", .methodLinkNest RX1 38 yX0_empty "CharRows", .methodLinkNest RX1 54 yX0_become "CharRows", .methodLinkNest RX1 58 yX0_put "CharRows", .methodLinkNest RX1 62 yX0_holds "CharRows", .methodLinkNest RX1 81 yX0_endAround "CharRows"]
theorem nw_47 : Cond.fieldLinkNest RX1 47 "CharRows$Ranges" "lows" "[I" "CharRows" ∈ cr_nw := List.mem_of_getElem? (i := 0) rfl
theorem nw_51 : Cond.fieldLinkNest RX1 51 "CharRows$Ranges" "highs" "[I" "CharRows" ∈ cr_nw := List.mem_of_getElem? (i := 1) rfl
theorem nw_34 : Cond.fieldLinkNest RX1 34 "CharRows$Ranges" "count" "I" "CharRows" ∈ cr_nw := List.mem_of_getElem? (i := 2) rfl
theorem nw_9 : Cond.methodLinkNest RX1 9 yX0_init "CharRows" ∈ cr_nw := List.mem_of_getElem? (i := 3) rfl
theorem nw_38 : Cond.methodLinkNest RX1 38 yX0_empty "CharRows" ∈ cr_nw := List.mem_of_getElem? (i := 4) rfl
theorem nw_54 : Cond.methodLinkNest RX1 54 yX0_become "CharRows" ∈ cr_nw := List.mem_of_getElem? (i := 5) rfl
theorem nw_58 : Cond.methodLinkNest RX1 58 yX0_put "CharRows" ∈ cr_nw := List.mem_of_getElem? (i := 6) rfl
theorem nw_62 : Cond.methodLinkNest RX1 62 yX0_holds "CharRows" ∈ cr_nw := List.mem_of_getElem? (i := 7) rfl
theorem nw_81 : Cond.methodLinkNest RX1 81 yX0_endAround "CharRows" ∈ cr_nw := List.mem_of_getElem? (i := 8) rfl
def cr_NW (U : State) : Prop := ∀ w ∈ cr_nw, va_Nw w U
theorem cr_NW.warm {s U : State} (hW : s.WarmedH U.vm) (h : cr_NW s) : cr_NW U := by
  intro w hw
  have hs := h w hw
  simp only [cr_nw, List.mem_cons, List.not_mem_nil, or_false] at hw
  rcases hw with e | e | e | e | e | e | e | e | e <;> subst e <;> first | exact va_Nw.warmF hW hs | exact va_Nw.warmM hW hs
theorem cr_NW.same {u U : State} (hv : u.vm = U.vm) (h : cr_NW u) : cr_NW U := by
  intro w hw
  have hs := h w hw
  simp only [cr_nw, List.mem_cons, List.not_mem_nil, or_false] at hw
  rcases hw with e | e | e | e | e | e | e | e | e <;> subst e <;> exact va_Nw.same rfl hv hs
abbrev cr_preN (dC : Nat → ClassId) (dI : Nat → Nat → Nat) (tys : List (ClassId × FieldType)) (ws : va_W) (sz : Nat) (U : State) : Prop := cr_pre dC dI tys ws sz U ∧ cr_NW U
theorem cr_blindN {dC : Nat → ClassId} {dI : Nat → Nat → Nat} {tys : List (ClassId × FieldType)} {ws : va_W} {sz : Nat} {av : List Value} : FrameBlind (va_Pc av (cr_preN dC dI tys ws sz)) := by
  intro a U g mk q
  obtain ⟨q0, q1, qN⟩ := q
  exact ⟨q0, (cr_blind a U g mk ⟨q0, q1⟩).2, cr_NW.same (u := U) rfl qN⟩
theorem cr_preSN {dC : Nat → ClassId} {dI : Nat → Nat → Nat} {tys : List (ClassId × FieldType)} {ws : va_W} {av : List Value} {A : Nat → Prop} {s : State} {H : Heap} (hN : cr_NW s) (hP : va_P (dC, dI) crCl ws H) (hK : va_K (dC, dI) crCl tys s) (hD : va_D A ws) : PreS s H (va_Pc av (cr_preN dC dI tys ws H.size)) av :=
  ⟨cr_blindN, fun U hU hW => ⟨rfl, ((cr_preS (av := av) hP hK hD).2 U hU hW).2, hN.warm hW⟩⟩
theorem cr_preVN {dC : Nat → ClassId} {dI : Nat → Nat → Nat} {tys : List (ClassId × FieldType)} {ws : va_W} {av : List Value} {A : Nat → Prop} {s : State} {H : Heap} {b ci q0 : Nat} {q : vw_C} {fs : List Value} (hN : cr_NW s) (hP : va_P (dC, dI) crCl ws H) (hK : va_K (dC, dI) crCl tys s) (hD : va_D A ws) (hc : crCl[ci]? = some q) (he : ws[q0]? = some (b, .inr (ci, fs))) : PreV s H q.1 b (va_Pc (Value.ref b :: av) (cr_preN dC dI tys ws H.size)) av :=
  ⟨cr_blindN, va_recv hK hP hc he, fun U hU hW => ⟨rfl, ((cr_preV (av := av) hP hK hD hc he).2.2 U hU hW).2, hN.warm hW⟩⟩
