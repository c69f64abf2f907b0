/-! TABLES: the class's two static arrays -/
def cr_ltv (j : Nat) : Nat := [97, 122, 32, 224, 246, 32, 248, 254, 32, 945, 969, 32, 1072, 1103, 32, 1104, 1119, 80].getD j 0
def cr_ptv (j : Nat) : Nat := [962, 963, 107, 8490, 115, 383, 229, 8491, 181, 956].getD j 0
def cr_TB (tL tP : Nat) (A : Nat → Prop) (U : State) (H : Heap) : Prop := va_Z "CharRows" "LETTERS" "[I" (.ref tL) A U H ∧ va_T .int tL 18 (fun j => .int (nI (cr_ltv j))) A U H ∧ va_Z "CharRows" "PAIRS" "[I" (.ref tP) A U H ∧ va_T .int tP 10 (fun j => .int (nI (cr_ptv j))) A U H
theorem cr_TB.moved {tL tP : Nat} {A : Nat → Prop} {u U : State} {H : Heap} (hvm : u.vm.Alike U.vm) (h : cr_TB tL tP A u H) : cr_TB tL tP A U H := ⟨va_Z.moved hvm h.1, va_T.moved hvm h.2.1, va_Z.moved hvm h.2.2.1, va_T.moved hvm h.2.2.2⟩
theorem cr_TB.kept {tL tP : Nat} {A : Nat → Prop} {U : State} {H H1 : Heap} (h : cr_TB tL tP A U H) (hq : ∀ a : Nat, a < H.size → ¬ A a → H1[a]? = H[a]?) : cr_TB tL tP A U H1 := ⟨h.1.kept hq, h.2.1.kept hq, h.2.2.1.kept hq, h.2.2.2.kept hq⟩
theorem cr_TB.narrow {tL tP : Nat} {A B : Nat → Prop} {U : State} {H : Heap} (h : cr_TB tL tP A U H) (hAB : ∀ q, B q → A q) : cr_TB tL tP B U H := ⟨h.1.narrow hAB, h.2.1.narrow hAB, h.2.2.1.narrow hAB, h.2.2.2.narrow hAB⟩
abbrev cr_preT (tL tP : Nat) (dC : Nat → ClassId) (dI : Nat → Nat → Nat) (tys : List (ClassId × FieldType)) (ws : va_W) (sz : Nat) (U : State) : Prop := cr_preN dC dI tys ws sz U ∧ cr_TB tL tP (va_A ws sz) U U.heap
theorem cr_blindT {tL tP : Nat} {dC : Nat → ClassId} {dI : Nat → Nat → Nat} {tys : List (ClassId × FieldType)} {ws : va_W} {sz : Nat} {av : List Value} : FrameBlind (va_Pc av (cr_preT tL tP dC dI tys ws sz)) := by
  intro a U g mk q
  obtain ⟨q0, q1, qT⟩ := q
  exact ⟨q0, (cr_blindN a U g mk ⟨q0, q1⟩).2, cr_TB.moved (u := U) (U := U.calling g mk a) (Vm.Alike.refl U.vm) qT⟩
theorem cr_preVT {tL tP : Nat} {dC : Nat → ClassId} {dI : Nat → Nat → Nat} {tys : List (ClassId × FieldType)} {ws : va_W} {av : List Value} {A A0 : Nat → Prop} {s : State} {H : Heap} {locs : List Loc} {b ci q0 : Nat} {q : vw_C} {fs : List Value} (hT : cr_TB tL tP A0 s s.heap) (hS : va_S A0 s.heap H locs) (hF : ∀ q, va_A ws H.size q → A0 q) (hN : cr_NW s) (hP : va_P (dC, dI) crCl ws H) (hK : va_K (dC, dI) crCl tys s) (hD : va_D A ws) (hc : crCl[ci]? = some q) (he : ws[q0]? = some (b, .inr (ci, fs))) : PreV s H q.1 b (va_Pc (Value.ref b :: av) (cr_preT tL tP dC dI tys ws H.size)) av :=
  ⟨cr_blindT, va_recv hK hP hc he, fun U hU hW => ⟨rfl, ((cr_preVN (av := av) hN hP hK hD hc he).2.2 U hU hW).2, by rw [hU]; exact ((hT.kept hS.2.1).narrow hF).moved hW.alike⟩⟩
theorem cr_lp_not {x : Nat} (h : ¬ cr_isL x) : cr_lp x = x := by
  unfold cr_isL at h
  unfold cr_lp cr_sl
  rw [if_neg (by omega), if_neg (by omega), if_neg (by omega), if_neg (by omega)]
theorem cr_pp_not {x : Nat} (h : ¬ cr_isL x) : cr_pp x = x := by
  unfold cr_isL at h
  unfold cr_pp
  rw [if_neg (by omega), if_neg (by omega), if_neg (by omega), if_neg (by omega), if_neg (by omega), if_neg (by omega), if_neg (by omega), if_neg (by omega), if_neg (by omega), if_neg (by omega)]
theorem cr_Bd_L {P : List Nat} {S : Nat → Prop} (h : cr_Bd P S) (hF : ∀ c, c ∈ cr_F → c ∈ P) (k : Nat) : cr_Bd P (fun x => S x ∨ (cr_sl x < k ∧ S (cr_lp x))) := h.letters hF (fun x hx => by
  rw [cr_lp_not hx]
  exact ⟨fun q => q.elim id (fun r => r.2), Or.inl⟩)
theorem cr_Bd_Lw {P : List Nat} {S : Nat → Prop} (h : cr_Bd P S) (hF : ∀ c, c ∈ cr_F → c ∈ P) : cr_Bd P (cr_L S) := h.letters hF (fun x hx => by
  unfold cr_L
  rw [cr_lp_not hx]
  exact ⟨fun q => q.elim id id, Or.inl⟩)
theorem cr_Bd_Q {P : List Nat} {S : Nat → Prop} (h : cr_Bd P S) (hF : ∀ c, c ∈ cr_F → c ∈ P) (k : Nat) : cr_Bd P (fun x => S x ∨ (cr_pk x < k ∧ S (cr_pp x))) := h.letters hF (fun x hx => by
  rw [cr_pp_not hx]
  exact ⟨fun q => q.elim id (fun r => r.2), Or.inl⟩)
theorem cr_Bd_Qw {P : List Nat} {S : Nat → Prop} (h : cr_Bd P S) (hF : ∀ c, c ∈ cr_F → c ∈ P) : cr_Bd P (cr_Q S) := h.letters hF (fun x hx => by
  unfold cr_Q
  rw [cr_pp_not hx]
  exact ⟨fun q => q.elim id id, Or.inl⟩)
theorem cr_Bd_fold {P : List Nat} {S : Nat → Prop} (h : cr_Bd P S) (hF : ∀ c, c ∈ cr_F → c ∈ P) : cr_Bd P (cr_fold S) := h.letters hF (fun _ hx => cr_fold_not hx)
/-- a row of letters: c and c less x -/
theorem cr_row32 {c : Nat} (h : (97 ≤ c ∧ c ≤ 122) ∨ (224 ≤ c ∧ c ≤ 246) ∨ (248 ≤ c ∧ c ≤ 254) ∨ (945 ≤ c ∧ c ≤ 969) ∨ (1072 ≤ c ∧ c ≤ 1103)) : cr_lp c = c - 32 ∧ cr_lp (c - 32) = c ∧ cr_sl c = c ∧ cr_sl (c - 32) = c ∧ ∀ x, cr_sl x = c → x = c ∨ x = c - 32 := by
  refine ⟨?_, ?_, ?_, ?_, fun x hx => ?_⟩
  · unfold cr_lp
    rw [if_pos h]
  · unfold cr_lp cr_sl
    rw [if_neg (by omega), if_neg (by omega), if_pos (by omega)]
    omega
  · unfold cr_sl
    rw [if_neg (by omega), if_neg (by omega)]
  · unfold cr_sl
    rw [if_pos (by omega)]
    omega
  · have := cr_sl_in x
    omega
theorem cr_row80 {c : Nat} (h : 1104 ≤ c ∧ c ≤ 1119) : cr_lp c = c - 80 ∧ cr_lp (c - 80) = c ∧ cr_sl c = c ∧ cr_sl (c - 80) = c ∧ ∀ x, cr_sl x = c → x = c ∨ x = c - 80 := by
  refine ⟨?_, ?_, ?_, ?_, fun x hx => ?_⟩
  · unfold cr_lp
    rw [if_neg (by omega), if_pos h]
  · unfold cr_lp cr_sl
    rw [if_neg (by omega), if_neg (by omega), if_neg (by omega), if_pos (by omega)]
    omega
  · unfold cr_sl
    rw [if_neg (by omega), if_neg (by omega)]
  · unfold cr_sl
    rw [if_neg (by omega), if_pos (by omega)]
    omega
  · have := cr_sl_in x
    omega
/-- between the rows -/
theorem cr_hole {x : Nat} (h : cr_sl x < 97 ∨ (123 ≤ cr_sl x ∧ cr_sl x < 224) ∨ (247 ≤ cr_sl x ∧ cr_sl x < 248) ∨ (255 ≤ cr_sl x ∧ cr_sl x < 945) ∨ (970 ≤ cr_sl x ∧ cr_sl x < 1072) ∨ 1120 ≤ cr_sl x) : cr_lp x = x := by
  have a := cr_sl_in x
  have e : cr_sl x = x := by omega
  unfold cr_lp
  rw [if_neg (by omega), if_neg (by omega)]
  exact e
theorem cr_L_end {S T : Nat → Prop} (hT : ∀ x, T x ↔ (S x ∨ (cr_sl x < 1120 ∧ S (cr_lp x)))) (x : Nat) : T x ↔ cr_L S x := by
  rw [hT x]
  unfold cr_L
  constructor
  · rintro (h | h)
    · exact Or.inl h
    · exact Or.inr h.2
  · rintro (h | h)
    · exact Or.inl h
    · rcases Nat.lt_or_ge (cr_sl x) 1120 with q | q
      · exact Or.inr ⟨q, h⟩
      · rw [cr_hole (by omega)] at h
        exact Or.inl h
theorem cr_Q_step {S T : Nat → Prop} {k c b : Nat} (hT : ∀ x, T x ↔ (S x ∨ (cr_pk x < k ∧ S (cr_pp x)))) (h1 : cr_pp c = b) (h2 : cr_pp b = c) (h3 : cr_pk c = k) (h4 : cr_pk b = k) (h5 : ∀ x, cr_pk x = k → x = c ∨ x = b) (x : Nat) :
    (T x ∨ ((x = c ∨ x = b) ∧ (T c ∨ T b))) ↔ (S x ∨ (cr_pk x < k + 1 ∧ S (cr_pp x))) := by
  have tc := hT c
  have tb := hT b
  have tx := hT x
  rw [h3] at tc
  rw [h4] at tb
  have tc' : T c ↔ S c := by rw [tc]; constructor; exact fun h => h.elim id (fun q => absurd q.1 (by omega)); exact Or.inl
  have tb' : T b ↔ S b := by rw [tb]; constructor; exact fun h => h.elim id (fun q => absurd q.1 (by omega)); exact Or.inl
  rw [tc', tb', tx]
  by_cases e : cr_pk x = k
  · rcases h5 x e with q | q
    · subst q
      rw [h1]
      constructor
      · rintro ((h | h) | h)
        · exact Or.inl h
        · exact absurd h.1 (by omega)
        · rcases h.2 with q | q
          · exact Or.inl q
          · exact Or.inr ⟨by omega, q⟩
      · rintro (h | h)
        · exact Or.inl (Or.inl h)
        · exact Or.inr ⟨Or.inl rfl, Or.inr h.2⟩
    · subst q
      rw [h2]
      constructor
      · rintro ((h | h) | h)
        · exact Or.inl h
        · exact absurd h.1 (by omega)
        · rcases h.2 with q | q
          · exact Or.inr ⟨by omega, q⟩
          · exact Or.inl q
      · rintro (h | h)
        · exact Or.inl (Or.inl h)
        · exact Or.inr ⟨Or.inr rfl, Or.inl h.2⟩
  · have n1 : x ≠ c := fun q => e (by rw [q]; exact h3)
    have n2 : x ≠ b := fun q => e (by rw [q]; exact h4)
    constructor
    · rintro ((h | h) | h)
      · exact Or.inl h
      · exact Or.inr ⟨by omega, h.2⟩
      · exact absurd h.1 (by omega)
    · rintro (h | h)
      · exact Or.inl (Or.inl h)
      · exact Or.inl (Or.inr ⟨by omega, h.2⟩)
theorem cr_pk_in (x : Nat) : (cr_pk x = 0 ∧ (x = 962 ∨ x = 963)) ∨ (cr_pk x = 1 ∧ (x = 107 ∨ x = 8490)) ∨ (cr_pk x = 2 ∧ (x = 115 ∨ x = 383)) ∨ (cr_pk x = 3 ∧ (x = 229 ∨ x = 8491)) ∨ (cr_pk x = 4 ∧ (x = 181 ∨ x = 956)) ∨ (cr_pk x = 5 ∧ cr_pp x = x) := by
  unfold cr_pk
  split
  · exact Or.inl ⟨rfl, by assumption⟩
  · split
    · exact Or.inr (Or.inl ⟨rfl, by assumption⟩)
    · split
      · exact Or.inr (Or.inr (Or.inl ⟨rfl, by assumption⟩))
      · split
        · exact Or.inr (Or.inr (Or.inr (Or.inl ⟨rfl, by assumption⟩)))
        · split
          · exact Or.inr (Or.inr (Or.inr (Or.inr (Or.inl ⟨rfl, by assumption⟩))))
          · refine Or.inr (Or.inr (Or.inr (Or.inr (Or.inr ⟨rfl, ?_⟩))))
            unfold cr_pp
            rw [if_neg (by omega), if_neg (by omega), if_neg (by omega), if_neg (by omega), if_neg (by omega), if_neg (by omega), if_neg (by omega), if_neg (by omega), if_neg (by omega), if_neg (by omega)]
theorem cr_Q_zero {S : Nat → Prop} (x : Nat) : S x ↔ (S x ∨ (cr_pk x < 0 ∧ S (cr_pp x))) := ⟨Or.inl, fun h => h.elim id (fun q => absurd q.1 (Nat.not_lt_zero _))⟩
theorem cr_L_zero {S : Nat → Prop} (x : Nat) : S x ↔ (S x ∨ (cr_sl x < 97 ∧ S (cr_lp x))) := ⟨Or.inl, fun h => h.elim id (fun q => by
  have r := q.2
  rw [cr_hole (Or.inl q.1)] at r
  exact r)⟩
theorem cr_Q_end {S T : Nat → Prop} (hT : ∀ x, T x ↔ (S x ∨ (cr_pk x < 5 ∧ S (cr_pp x)))) (x : Nat) : T x ↔ cr_Q S x := by
  rw [hT x]
  unfold cr_Q
  constructor
  · rintro (h | h)
    · exact Or.inl h
    · exact Or.inr h.2
  · rintro (h | h)
    · exact Or.inl h
    · rcases Nat.lt_or_ge (cr_pk x) 5 with q | q
      · exact Or.inr ⟨q, h⟩
      · have := cr_pk_in x
        have e : cr_pp x = x := by
          rcases this with r | r | r | r | r | r
          · omega
          · omega
          · omega
          · omega
          · omega
          · exact r.2
        rw [e] at h
        exact Or.inl h
