/-! PURE: what is alike -/
def cr_sl (c : Nat) : Nat := if (65 ≤ c ∧ c ≤ 90) ∨ (192 ≤ c ∧ c ≤ 222 ∧ c ≠ 215) ∨ (913 ≤ c ∧ c ≤ 937) ∨ (1040 ≤ c ∧ c ≤ 1071) then c + 32 else if 1024 ≤ c ∧ c ≤ 1039 then c + 80 else c
def cr_sw (v : Nat) : Nat := if v = 8490 then 107 else if v = 383 then 115 else if v = 8491 then 229 else if v = 181 then 956 else if v = 962 then 963 else v
/-- which one of the alike ones stands for c -/
def cr_sf (c : Nat) : Nat := cr_sw (cr_sl c)
/-- the other letter -/
def cr_lp (x : Nat) : Nat := if (97 ≤ x ∧ x ≤ 122) ∨ (224 ≤ x ∧ x ≤ 246) ∨ (248 ≤ x ∧ x ≤ 254) ∨ (945 ≤ x ∧ x ≤ 969) ∨ (1072 ≤ x ∧ x ≤ 1103) then x - 32 else if 1104 ≤ x ∧ x ≤ 1119 then x - 80 else cr_sl x
/-- the other one of a pair -/
def cr_pp (x : Nat) : Nat := if x = 962 then 963 else if x = 963 then 962 else if x = 107 then 8490 else if x = 8490 then 107 else if x = 115 then 383 else if x = 383 then 115 else if x = 229 then 8491 else if x = 8491 then 229 else if x = 181 then 956 else if x = 956 then 181 else x
/-- which pair, 5: none -/
def cr_pk (x : Nat) : Nat := if x = 962 ∨ x = 963 then 0 else if x = 107 ∨ x = 8490 then 1 else if x = 115 ∨ x = 383 then 2 else if x = 229 ∨ x = 8491 then 3 else if x = 181 ∨ x = 956 then 4 else 5
def cr_fold (S : Nat → Prop) (c : Nat) : Prop := ∃ d, S d ∧ cr_sf d = cr_sf c
def cr_six (x : Nat) : List Nat := [x, cr_lp x, cr_pp x, cr_lp (cr_pp x), cr_pp (cr_lp x), cr_lp (cr_pp (cr_lp x))]
def cr_cand (v : Nat) : List Nat := [v, v - 32, v - 80, 8490, 8491, 383, 181, 962, 930]
theorem cr_sl_in (c : Nat) : (cr_sl c = c + 32 ∧ ((65 ≤ c ∧ c ≤ 90) ∨ (192 ≤ c ∧ c ≤ 222 ∧ c ≠ 215) ∨ (913 ≤ c ∧ c ≤ 937) ∨ (1040 ≤ c ∧ c ≤ 1071))) ∨ (cr_sl c = c + 80 ∧ 1024 ≤ c ∧ c ≤ 1039) ∨ (cr_sl c = c ∧ ¬ ((65 ≤ c ∧ c ≤ 90) ∨ (192 ≤ c ∧ c ≤ 222 ∧ c ≠ 215) ∨ (913 ≤ c ∧ c ≤ 937) ∨ (1040 ≤ c ∧ c ≤ 1071)) ∧ ¬ (1024 ≤ c ∧ c ≤ 1039)) := by
  unfold cr_sl
  split
  · exact Or.inl ⟨rfl, by assumption⟩
  · split
    · exact Or.inr (Or.inl ⟨rfl, by assumption⟩)
    · exact Or.inr (Or.inr ⟨rfl, by assumption, by assumption⟩)
theorem cr_sw_in (v : Nat) : (v = 8490 ∧ cr_sw v = 107) ∨ (v = 383 ∧ cr_sw v = 115) ∨ (v = 8491 ∧ cr_sw v = 229) ∨ (v = 181 ∧ cr_sw v = 956) ∨ (v = 962 ∧ cr_sw v = 963) ∨ (cr_sw v = v ∧ v ≠ 8490 ∧ v ≠ 383 ∧ v ≠ 8491 ∧ v ≠ 181 ∧ v ≠ 962) := by
  unfold cr_sw
  split
  · omega
  · split
    · omega
    · split
      · omega
      · split
        · omega
        · split <;> omega
theorem cr_cand_of (d : Nat) : d ∈ cr_cand (cr_sf d) := by
  have a := cr_sl_in d
  have b := cr_sw_in (cr_sl d)
  unfold cr_cand cr_sf
  simp only [List.mem_cons, List.not_mem_nil, or_false]
  omega
theorem cr_six_ok : ∀ x, x < 1120 → ∀ d ∈ cr_six x, cr_sf d = cr_sf x := by decide +kernel
theorem cr_six_all : ∀ x, x < 1120 → ∀ d ∈ cr_cand (cr_sf x), cr_sf d = cr_sf x → d ∈ cr_six x := by decide +kernel
theorem cr_six_k : (∀ d ∈ cr_six 8490, cr_sf d = cr_sf 8490) ∧ ∀ d ∈ cr_cand (cr_sf 8490), cr_sf d = cr_sf 8490 → d ∈ cr_six 8490 := by decide +kernel
theorem cr_six_a : (∀ d ∈ cr_six 8491, cr_sf d = cr_sf 8491) ∧ ∀ d ∈ cr_cand (cr_sf 8491), cr_sf d = cr_sf 8491 → d ∈ cr_six 8491 := by decide +kernel
theorem cr_lp_big {x : Nat} (h : 1120 ≤ x) : cr_lp x = x := by
  unfold cr_lp cr_sl
  rw [if_neg (by omega), if_neg (by omega), if_neg (by omega), if_neg (by omega)]
theorem cr_pp_big {x : Nat} (h : 1120 ≤ x) (h1 : x ≠ 8490) (h2 : x ≠ 8491) : cr_pp x = x := by
  unfold cr_pp
  rw [if_neg (by omega), if_neg (by omega), if_neg (by omega), if_neg h1, if_neg (by omega), if_neg (by omega), if_neg (by omega), if_neg h2, if_neg (by omega), if_neg (by omega)]
theorem cr_sf_big {x : Nat} (h : 1120 ≤ x) (h1 : x ≠ 8490) (h2 : x ≠ 8491) : cr_sf x = x ∧ ∀ d, cr_sf d = x → d = x := by
  have key : ∀ d, cr_sf d = x → d = x := fun d hd => by
    have a := cr_sl_in d
    have b := cr_sw_in (cr_sl d)
    unfold cr_sf at hd
    omega
  have a := cr_sl_in x
  have b := cr_sw_in (cr_sl x)
  exact ⟨by unfold cr_sf; omega, key⟩
/-- what is alike to x is one of six -/
theorem cr_fold_six (S : Nat → Prop) (x : Nat) : cr_fold S x ↔ ∃ d ∈ cr_six x, S d := by
  by_cases hx : x < 1120
  · constructor
    · rintro ⟨d, hd, e⟩
      exact ⟨d, cr_six_all x hx d (by rw [← e]; exact cr_cand_of d) e, hd⟩
    · rintro ⟨d, hd, e⟩
      exact ⟨d, e, cr_six_ok x hx d hd⟩
  · by_cases h1 : x = 8490
    · subst h1
      constructor
      · rintro ⟨d, hd, e⟩
        exact ⟨d, cr_six_k.2 d (by rw [← e]; exact cr_cand_of d) e, hd⟩
      · rintro ⟨d, hd, e⟩
        exact ⟨d, e, cr_six_k.1 d hd⟩
    · by_cases h2 : x = 8491
      · subst h2
        constructor
        · rintro ⟨d, hd, e⟩
          exact ⟨d, cr_six_a.2 d (by rw [← e]; exact cr_cand_of d) e, hd⟩
        · rintro ⟨d, hd, e⟩
          exact ⟨d, e, cr_six_a.1 d hd⟩
      · have hb := cr_sf_big (x := x) (by omega) h1 h2
        have h3 : cr_six x = [x, x, x, x, x, x] := by
          unfold cr_six
          rw [cr_lp_big (by omega), cr_pp_big (by omega) h1 h2, cr_lp_big (by omega)]
        rw [h3]
        constructor
        · rintro ⟨d, hd, e⟩
          rw [hb.1] at e
          exact ⟨x, List.mem_cons_self, by rw [← hb.2 d e]; exact hd⟩
        · rintro ⟨d, hd, e⟩
          refine ⟨d, e, ?_⟩
          simp only [List.mem_cons, List.not_mem_nil, or_false, or_self] at hd
          rw [hd]
/-- the class's three turns -/
def cr_L (S : Nat → Prop) (x : Nat) : Prop := S x ∨ S (cr_lp x)
def cr_Q (S : Nat → Prop) (x : Nat) : Prop := S x ∨ S (cr_pp x)
theorem cr_lp_lp : ∀ x, cr_lp (cr_lp x) = x := by
  intro x
  by_cases hx : x < 1120
  · have : ∀ x, x < 1120 → cr_lp (cr_lp x) = x := by decide +kernel
    exact this x hx
  · rw [cr_lp_big (x := x) (by omega), cr_lp_big (by omega)]
theorem cr_LQL (S : Nat → Prop) (x : Nat) : cr_L (cr_Q (cr_L S)) x ↔ cr_fold S x := by
  rw [cr_fold_six]
  simp only [cr_L, cr_Q, cr_six, cr_lp_lp, List.mem_cons, List.not_mem_nil, or_false, exists_eq_or_imp, exists_eq_left]
  constructor
  · rintro (((h | h) | (h | h)) | ((h | h) | (h | h)))
    all_goals simp [h]
  · rintro (h | h | h | h | h | h)
    all_goals simp [h]
/-- a step of the letters' turn -/
theorem cr_L_step {S T : Nat → Prop} {c b : Nat} (hT : ∀ x, T x ↔ (S x ∨ (cr_sl x < c ∧ S (cr_lp x)))) (h1 : cr_lp c = b) (h2 : cr_lp b = c) (h3 : cr_sl c = c) (h4 : cr_sl b = c) (h5 : ∀ x, cr_sl x = c → x = c ∨ x = b) (x : Nat) :
    (T x ∨ ((x = c ∨ x = b) ∧ (T c ∨ T b))) ↔ (S x ∨ (cr_sl x < c + 1 ∧ S (cr_lp x))) := by
  have tc := hT c
  have tb := hT b
  have tx := hT x
  rw [h3] at tc
  rw [h4] at tb
  have tc' : T c ↔ S c := by rw [tc]; constructor; exact fun h => h.elim id (fun q => absurd q.1 (by omega)); exact Or.inl
  have tb' : T b ↔ S b := by rw [tb]; constructor; exact fun h => h.elim id (fun q => absurd q.1 (by omega)); exact Or.inl
  rw [tc', tb', tx]
  by_cases e : cr_sl x = c
  · rcases h5 x e with q | q
    · subst q
      rw [h1]
      constructor
      · rintro ((h | h) | h)
        · exact Or.inl h
        · exact absurd h.1 (by omega)
        · rcases h.2 with q | q
          · exact Or.inl q
          · exact Or.inr ⟨by omega, q⟩
      · rintro (h | h)
        · exact Or.inl (Or.inl h)
        · exact Or.inr ⟨Or.inl rfl, Or.inr h.2⟩
    · subst q
      rw [h2]
      constructor
      · rintro ((h | h) | h)
        · exact Or.inl h
        · exact absurd h.1 (by omega)
        · rcases h.2 with q | q
          · exact Or.inr ⟨by omega, q⟩
          · exact Or.inl q
      · rintro (h | h)
        · exact Or.inl (Or.inl h)
        · exact Or.inr ⟨Or.inr rfl, Or.inl h.2⟩
  · have n1 : x ≠ c := fun q => e (by rw [q]; exact h3)
    have n2 : x ≠ b := fun q => e (by rw [q]; exact h4)
    constructor
    · rintro ((h | h) | h)
      · exact Or.inl h
      · exact Or.inr ⟨by omega, h.2⟩
      · exact absurd h.1 (by omega)
    · rintro (h | h)
      · exact Or.inl (Or.inl h)
      · exact Or.inl (Or.inr ⟨by omega, h.2⟩)
/-- between two rows of letters nothing has another letter -/
theorem cr_L_hole {S T : Nat → Prop} {c c' : Nat} (hcc : c ≤ c') (hT : ∀ x, T x ↔ (S x ∨ (cr_sl x < c ∧ S (cr_lp x)))) (hh : ∀ x, c ≤ cr_sl x → cr_sl x < c' → cr_lp x = x) (x : Nat) : T x ↔ (S x ∨ (cr_sl x < c' ∧ S (cr_lp x))) := by
  rw [hT x]
  constructor
  · rintro (h | h)
    · exact Or.inl h
    · exact Or.inr ⟨by omega, h.2⟩
  · rintro (h | h)
    · exact Or.inl h
    · by_cases e : cr_sl x < c
      · exact Or.inr ⟨e, h.2⟩
      · have q := hh x (by omega) h.1
        rw [q] at h
        exact Or.inl h.2
/-- letters and what they are alike to -/
def cr_isL (x : Nat) : Prop := (65 ≤ x ∧ x ≤ 90) ∨ (97 ≤ x ∧ x ≤ 122) ∨ x = 181 ∨ (192 ≤ x ∧ x ≤ 214) ∨ (216 ≤ x ∧ x ≤ 222) ∨ (224 ≤ x ∧ x ≤ 246) ∨ (248 ≤ x ∧ x ≤ 254) ∨ x = 383 ∨ (913 ≤ x ∧ x ≤ 937) ∨ (945 ≤ x ∧ x ≤ 969) ∨ (1024 ≤ x ∧ x ≤ 1119) ∨ x = 8490 ∨ x = 8491
def cr_seg (a k : Nat) : List Nat := (List.range k).map (fun i => a + i)
theorem cr_seg_mem {a k x : Nat} : x ∈ cr_seg a k ↔ a ≤ x ∧ x < a + k := by
  unfold cr_seg
  rw [List.mem_map]
  constructor
  · rintro ⟨i, hi, rfl⟩
    rw [List.mem_range] at hi
    omega
  · intro h
    exact ⟨x - a, by rw [List.mem_range]; omega, by omega⟩
def cr_F : List Nat := cr_seg 65 27 ++ (cr_seg 97 27 ++ (cr_seg 181 2 ++ (cr_seg 192 24 ++ (cr_seg 216 8 ++ (cr_seg 224 24 ++ (cr_seg 248 8 ++ (cr_seg 383 2 ++ (cr_seg 913 26 ++ (cr_seg 945 26 ++ (cr_seg 1024 97 ++ cr_seg 8490 3))))))))))
theorem cr_F_len : cr_F.length = 274 := by decide +kernel
theorem cr_F_not {c : Nat} (h : c + 1 ∉ cr_F) : ¬ cr_isL c ∧ ¬ cr_isL (c + 1) := by
  unfold cr_F at h
  simp only [List.mem_append, cr_seg_mem] at h
  unfold cr_isL
  omega
/-- a set that differs from S in letters alone begins and ends where S does, or at a letter -/
theorem cr_Bd.letters {P : List Nat} {S T : Nat → Prop} (h : cr_Bd P S) (hF : ∀ c, c ∈ cr_F → c ∈ P) (hT : ∀ x, ¬ cr_isL x → (T x ↔ S x)) : cr_Bd P T := by
  refine ⟨h.1, fun c hc => ?_⟩
  have a := cr_F_not (c := c) (fun q => hc (hF _ q))
  rw [hT c a.1, hT (c + 1) a.2]
  exact h.2 c hc
theorem cr_sf_not {x : Nat} (h : ¬ cr_isL x) : cr_sf x = x ∧ ∀ d, cr_sf d = x → d = x := by
  unfold cr_isL at h
  refine ⟨?_, fun d hd => ?_⟩
  · have a := cr_sl_in x
    have b := cr_sw_in (cr_sl x)
    unfold cr_sf
    omega
  · have a := cr_sl_in d
    have b := cr_sw_in (cr_sl d)
    unfold cr_sf at hd
    omega
theorem cr_fold_not {S : Nat → Prop} {x : Nat} (h : ¬ cr_isL x) : cr_fold S x ↔ S x := by
  have a := cr_sf_not h
  constructor
  · rintro ⟨d, hd, e⟩
    rw [a.1] at e
    rw [← a.2 d e]
    exact hd
  · intro q
    exact ⟨x, q, rfl⟩
