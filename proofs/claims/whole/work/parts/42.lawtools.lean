/-! TOOLS of the law -/
theorem cr_zb_det {r r' : Int32} {P : Prop} (h : cr_zb r P) (h' : cr_zb r' P) : r = r' := by
  rcases h with ⟨a, b⟩ | ⟨a, b⟩ <;> rcases h' with ⟨a', b'⟩ | ⟨a', b'⟩
  · rw [a, a']
  · exact absurd b b'
  · exact absurd b' b
  · rw [a, a']
theorem cr_rng_eq {n : Nat} {f g f' g' : Nat → Int32} {S : Nat → Prop} (h : cr_Set n f g S) (h' : cr_Set n f' g' S) (hn : n < 2 ^ 31) (k w : Int32) : cr_rng n f g k w = cr_rng n f' g' k w := by
  obtain ⟨-, hu⟩ := h.uniq h'
  unfold cr_rng
  by_cases c : k < 0 ∨ nI n ≤ k
  · rw [if_pos c, if_pos c]
  · rw [if_neg c, if_neg c]
    have c1 : ¬ k < 0 := fun q => c (Or.inl q)
    have c2 : ¬ nI n ≤ k := fun q => c (Or.inr q)
    obtain ⟨j, hj, rfl⟩ := nI_of c1
    have hjn : j < n := by
      rcases Nat.lt_or_ge j n with q | q
      · exact q
      · exact absurd (nI_le q hj) c2
    rw [nI_clamp hj, (hu j hjn).1, (hu j hjn).2]
theorem cr_two {n : Nat} {f g f' g' : Nat → Int32} {S : Nat → Prop} (h : cr_Set n f g S) (h' : cr_Set n f' g' S) : ∃ lo hi : Nat → Nat, cr_Rp n lo hi f g ∧ cr_Rp n lo hi f' g' ∧ cr_Ok n lo hi := by
  obtain ⟨-, hu⟩ := h.uniq h'
  obtain ⟨lo, hi, h1, h2, -⟩ := h
  exact ⟨lo, hi, h1, fun j hj => ⟨by rw [← (hu j hj).1]; exact (h1 j hj).1, by rw [← (hu j hj).2]; exact (h1 j hj).2⟩, h2⟩
theorem cr_Set.cop {n : Nat} {f g f' g' : Nat → Int32} {S : Nat → Prop} (h : cr_Set n f g S) (e : ∀ j, j < n → f' j = f j ∧ g' j = g j) : cr_Set n f' g' S := by
  obtain ⟨lo, hi, h1, h2, h3⟩ := h
  exact ⟨lo, hi, fun j hj => ⟨by rw [(e j hj).1]; exact (h1 j hj).1, by rw [(e j hj).2]; exact (h1 j hj).2⟩, h2, h3⟩
theorem cr_valid (y z : Int32) : (∃ p0 q0 : Nat, y = nI p0 ∧ z = nI q0 ∧ p0 ≤ q0 ∧ q0 ≤ 1114111) ∨ (y < 0 ∨ z < y ∨ nI 1114111 < z) := by
  by_cases c1 : y < 0
  · exact Or.inr (Or.inl c1)
  by_cases c2 : z < y
  · exact Or.inr (Or.inr (Or.inl c2))
  by_cases c3 : nI 1114111 < z
  · exact Or.inr (Or.inr (Or.inr c3))
  obtain ⟨p0, hp, rfl⟩ := nI_of c1
  have c4 : ¬ z < 0 := fun q => c2 (Int32.lt_of_lt_of_le q (nI_pos' hp))
  obtain ⟨q0, hq, rfl⟩ := nI_of c4
  rw [nI_ltI hq hp] at c2
  rw [nI_ltI (by omega) hq] at c3
  exact Or.inl ⟨p0, q0, rfl, rfl, by omega, by omega⟩
theorem cr_sub4 {L : Nat} (hL : L ≤ 2048) : (nI L - nI 4).toInt = (L : Int) - 4 := by
  rw [Int32.toInt_sub, nI_toInt (by omega), nI_toInt (by omega)]
  rw [Int.bmod_eq_of_le (by omega) (by omega)]
  rfl
theorem cr_guard {i L : Nat} (hi : i ≤ 4096) (hL : L ≤ 2048) : nI L - nI 4 < nI i ↔ L < i + 4 := by
  rw [Int32.lt_iff_toInt_lt, cr_sub4 hL, nI_toInt (by omega)]
  omega
theorem cr_Bd.add {P : List Nat} {S : Nat → Prop} (h : cr_Bd P S) (hp : ∀ c, c ∈ cr_base → c ∈ P) (p0 q0 : Nat) : cr_Bd (p0 :: (q0 + 1) :: P) (fun c => S c ∨ (p0 ≤ c ∧ c ≤ q0 ∧ cr_ch c)) := by
  have m : ∀ c, c ∈ P → c ∈ p0 :: (q0 + 1) :: P := fun c hc => List.mem_cons_of_mem _ (List.mem_cons_of_mem _ hc)
  have a := h.more m
  have b := cr_Bd.seg (P := p0 :: (q0 + 1) :: P) (a := p0) (b := q0) (m 0 h.1) List.mem_cons_self (List.mem_cons_of_mem _ List.mem_cons_self)
  have d := cr_Bd.ch (P := p0 :: (q0 + 1) :: P) (fun c hc => m c (hp c hc))
  exact (a.or1 (b.and1 d)).iff (fun c => or_congr_right (and_assoc))
theorem cr_Bd.none {P : List Nat} (h0 : 0 ∈ P) : cr_Bd P (fun _ => False) := ⟨h0, fun _ _ => Iff.rfl⟩
theorem cr_swl (v : Int32) : (v.toInt < 0 ∨ 11 < v.toInt) ∨ v = nI 0 ∨ v = nI 1 ∨ v = nI 2 ∨ v = nI 3 ∨ v = nI 4 ∨ v = nI 5 ∨ v = nI 6 ∨ v = nI 7 ∨ v = nI 8 ∨ v = nI 9 ∨ v = nI 10 ∨ v = nI 11 := by
  by_cases c : v.toInt < 0 ∨ 11 < v.toInt
  · exact Or.inl c
  have c1 : ¬ v < 0 := fun q => c (Or.inl (by have := Int32.lt_iff_toInt_lt.mp q; rw [Int32.toInt_zero] at this; exact this))
  obtain ⟨j, hj, rfl⟩ := nI_of c1
  rw [nI_toInt hj] at c
  have : j = 0 ∨ j = 1 ∨ j = 2 ∨ j = 3 ∨ j = 4 ∨ j = 5 ∨ j = 6 ∨ j = 7 ∨ j = 8 ∨ j = 9 ∨ j = 10 ∨ j = 11 := by omega
  rcases this with rfl | rfl | rfl | rfl | rfl | rfl | rfl | rfl | rfl | rfl | rfl | rfl <;> simp
theorem cr_lenB : (cr_base ++ cr_F).length = 278 := by decide +kernel
theorem gT_of {ws : List Cond} (h : GoodIn wsL_law ws) : GoodIn lw_tbl ws := fun w hw => ⟨wsL_law_in w (h w hw).1, (h w hw).2⟩
/-! WORDS of the reference, out of the law's tables -/
set_option maxRecDepth 20000 in
theorem gT_00 : ∀ w ∈ wsM00, w ∈ lw_tbl := by decide +kernel
set_option maxRecDepth 20000 in
theorem gT_r0 : ∀ w ∈ wsM_r0, w ∈ lw_tbl := List.forall_mem_cons.mpr ⟨List.mem_of_getElem? (i := 24) rfl, List.forall_mem_cons.mpr ⟨List.mem_of_getElem? (i := 295) rfl, List.forall_mem_cons.mpr ⟨List.mem_of_getElem? (i := 296) rfl, List.forall_mem_cons.mpr ⟨List.mem_of_getElem? (i := 297) rfl, List.forall_mem_cons.mpr ⟨List.mem_of_getElem? (i := 298) rfl, List.forall_mem_cons.mpr ⟨List.mem_of_getElem? (i := 299) rfl, List.forall_mem_cons.mpr ⟨List.mem_of_getElem? (i := 300) rfl, List.forall_mem_cons.mpr ⟨List.mem_of_getElem? (i := 301) rfl, List.forall_mem_cons.mpr ⟨List.mem_of_getElem? (i := 302) rfl, List.forall_mem_cons.mpr ⟨List.mem_of_getElem? (i := 303) rfl, List.forall_mem_cons.mpr ⟨List.mem_of_getElem? (i := 304) rfl, List.forall_mem_cons.mpr ⟨List.mem_of_getElem? (i := 305) rfl, List.forall_mem_cons.mpr ⟨List.mem_of_getElem? (i := 306) rfl, List.forall_mem_cons.mpr ⟨List.mem_of_getElem? (i := 307) rfl, List.forall_mem_cons.mpr ⟨List.mem_of_getElem? (i := 308) rfl, List.forall_mem_cons.mpr ⟨List.mem_of_getElem? (i := 309) rfl, List.forall_mem_cons.mpr ⟨List.mem_of_getElem? (i := 310) rfl, List.forall_mem_cons.mpr ⟨List.mem_of_getElem? (i := 311) rfl, List.forall_mem_cons.mpr ⟨List.mem_of_getElem? (i := 312) rfl, List.forall_mem_cons.mpr ⟨List.mem_of_getElem? (i := 346) rfl, List.forall_mem_cons.mpr ⟨List.mem_of_getElem? (i := 347) rfl, List.forall_mem_cons.mpr ⟨List.mem_of_getElem? (i := 348) rfl, List.forall_mem_cons.mpr ⟨List.mem_of_getElem? (i := 350) rfl, List.forall_mem_cons.mpr ⟨List.mem_of_getElem? (i := 351) rfl, fun _ h => absurd h List.not_mem_nil⟩⟩⟩⟩⟩⟩⟩⟩⟩⟩⟩⟩⟩⟩⟩⟩⟩⟩⟩⟩⟩⟩⟩⟩
set_option maxRecDepth 20000 in
theorem gT_r1 : ∀ w ∈ wsM_r1, w ∈ lw_tbl := List.forall_mem_cons.mpr ⟨List.mem_of_getElem? (i := 352) rfl, List.forall_mem_cons.mpr ⟨List.mem_of_getElem? (i := 353) rfl, List.forall_mem_cons.mpr ⟨List.mem_of_getElem? (i := 354) rfl, List.forall_mem_cons.mpr ⟨List.mem_of_getElem? (i := 356) rfl, List.forall_mem_cons.mpr ⟨List.mem_of_getElem? (i := 357) rfl, List.forall_mem_cons.mpr ⟨List.mem_of_getElem? (i := 358) rfl, List.forall_mem_cons.mpr ⟨List.mem_of_getElem? (i := 360) rfl, List.forall_mem_cons.mpr ⟨List.mem_of_getElem? (i := 361) rfl, List.forall_mem_cons.mpr ⟨List.mem_of_getElem? (i := 362) rfl, List.forall_mem_cons.mpr ⟨List.mem_of_getElem? (i := 363) rfl, List.forall_mem_cons.mpr ⟨List.mem_of_getElem? (i := 364) rfl, List.forall_mem_cons.mpr ⟨List.mem_of_getElem? (i := 365) rfl, List.forall_mem_cons.mpr ⟨List.mem_of_getElem? (i := 367) rfl, List.forall_mem_cons.mpr ⟨List.mem_of_getElem? (i := 368) rfl, List.forall_mem_cons.mpr ⟨List.mem_of_getElem? (i := 370) rfl, List.forall_mem_cons.mpr ⟨List.mem_of_getElem? (i := 371) rfl, List.forall_mem_cons.mpr ⟨List.mem_of_getElem? (i := 372) rfl, List.forall_mem_cons.mpr ⟨List.mem_of_getElem? (i := 374) rfl, List.forall_mem_cons.mpr ⟨List.mem_of_getElem? (i := 375) rfl, List.forall_mem_cons.mpr ⟨List.mem_of_getElem? (i := 376) rfl, List.forall_mem_cons.mpr ⟨List.mem_of_getElem? (i := 378) rfl, List.forall_mem_cons.mpr ⟨List.mem_of_getElem? (i := 379) rfl, List.forall_mem_cons.mpr ⟨List.mem_of_getElem? (i := 380) rfl, List.forall_mem_cons.mpr ⟨List.mem_of_getElem? (i := 382) rfl, fun _ h => absurd h List.not_mem_nil⟩⟩⟩⟩⟩⟩⟩⟩⟩⟩⟩⟩⟩⟩⟩⟩⟩⟩⟩⟩⟩⟩⟩⟩
set_option maxRecDepth 20000 in
theorem gT_r2 : ∀ w ∈ wsM_r2, w ∈ lw_tbl := List.forall_mem_cons.mpr ⟨List.mem_of_getElem? (i := 383) rfl, List.forall_mem_cons.mpr ⟨List.mem_of_getElem? (i := 384) rfl, List.forall_mem_cons.mpr ⟨List.mem_of_getElem? (i := 386) rfl, List.forall_mem_cons.mpr ⟨List.mem_of_getElem? (i := 387) rfl, List.forall_mem_cons.mpr ⟨List.mem_of_getElem? (i := 388) rfl, List.forall_mem_cons.mpr ⟨List.mem_of_getElem? (i := 389) rfl, List.forall_mem_cons.mpr ⟨List.mem_of_getElem? (i := 390) rfl, List.forall_mem_cons.mpr ⟨List.mem_of_getElem? (i := 391) rfl, List.forall_mem_cons.mpr ⟨List.mem_of_getElem? (i := 392) rfl, List.forall_mem_cons.mpr ⟨List.mem_of_getElem? (i := 394) rfl, List.forall_mem_cons.mpr ⟨List.mem_of_getElem? (i := 395) rfl, List.forall_mem_cons.mpr ⟨List.mem_of_getElem? (i := 397) rfl, List.forall_mem_cons.mpr ⟨List.mem_of_getElem? (i := 398) rfl, List.forall_mem_cons.mpr ⟨List.mem_of_getElem? (i := 399) rfl, List.forall_mem_cons.mpr ⟨List.mem_of_getElem? (i := 401) rfl, List.forall_mem_cons.mpr ⟨List.mem_of_getElem? (i := 402) rfl, List.forall_mem_cons.mpr ⟨List.mem_of_getElem? (i := 403) rfl, List.forall_mem_cons.mpr ⟨List.mem_of_getElem? (i := 405) rfl, List.forall_mem_cons.mpr ⟨List.mem_of_getElem? (i := 406) rfl, List.forall_mem_cons.mpr ⟨List.mem_of_getElem? (i := 407) rfl, List.forall_mem_cons.mpr ⟨List.mem_of_getElem? (i := 409) rfl, List.forall_mem_cons.mpr ⟨List.mem_of_getElem? (i := 410) rfl, List.forall_mem_cons.mpr ⟨List.mem_of_getElem? (i := 411) rfl, List.forall_mem_cons.mpr ⟨List.mem_of_getElem? (i := 412) rfl, fun _ h => absurd h List.not_mem_nil⟩⟩⟩⟩⟩⟩⟩⟩⟩⟩⟩⟩⟩⟩⟩⟩⟩⟩⟩⟩⟩⟩⟩⟩
set_option maxRecDepth 20000 in
theorem gT_r3 : ∀ w ∈ wsM_r3, w ∈ lw_tbl := List.forall_mem_cons.mpr ⟨List.mem_of_getElem? (i := 414) rfl, List.forall_mem_cons.mpr ⟨List.mem_of_getElem? (i := 415) rfl, List.forall_mem_cons.mpr ⟨List.mem_of_getElem? (i := 416) rfl, List.forall_mem_cons.mpr ⟨List.mem_of_getElem? (i := 418) rfl, List.forall_mem_cons.mpr ⟨List.mem_of_getElem? (i := 419) rfl, List.forall_mem_cons.mpr ⟨List.mem_of_getElem? (i := 420) rfl, List.forall_mem_cons.mpr ⟨List.mem_of_getElem? (i := 422) rfl, List.forall_mem_cons.mpr ⟨List.mem_of_getElem? (i := 423) rfl, List.forall_mem_cons.mpr ⟨List.mem_of_getElem? (i := 424) rfl, List.forall_mem_cons.mpr ⟨List.mem_of_getElem? (i := 425) rfl, List.forall_mem_cons.mpr ⟨List.mem_of_getElem? (i := 426) rfl, List.forall_mem_cons.mpr ⟨List.mem_of_getElem? (i := 427) rfl, List.forall_mem_cons.mpr ⟨List.mem_of_getElem? (i := 428) rfl, List.forall_mem_cons.mpr ⟨List.mem_of_getElem? (i := 429) rfl, List.forall_mem_cons.mpr ⟨List.mem_of_getElem? (i := 430) rfl, List.forall_mem_cons.mpr ⟨List.mem_of_getElem? (i := 431) rfl, List.forall_mem_cons.mpr ⟨List.mem_of_getElem? (i := 433) rfl, List.forall_mem_cons.mpr ⟨List.mem_of_getElem? (i := 434) rfl, List.forall_mem_cons.mpr ⟨List.mem_of_getElem? (i := 435) rfl, List.forall_mem_cons.mpr ⟨List.mem_of_getElem? (i := 437) rfl, List.forall_mem_cons.mpr ⟨List.mem_of_getElem? (i := 438) rfl, List.forall_mem_cons.mpr ⟨List.mem_of_getElem? (i := 439) rfl, List.forall_mem_cons.mpr ⟨List.mem_of_getElem? (i := 14) rfl, List.forall_mem_cons.mpr ⟨List.mem_of_getElem? (i := 15) rfl, fun _ h => absurd h List.not_mem_nil⟩⟩⟩⟩⟩⟩⟩⟩⟩⟩⟩⟩⟩⟩⟩⟩⟩⟩⟩⟩⟩⟩⟩⟩
set_option maxRecDepth 20000 in
theorem gT_r4 : ∀ w ∈ wsM_r4, w ∈ lw_tbl := List.forall_mem_cons.mpr ⟨List.mem_of_getElem? (i := 16) rfl, List.forall_mem_cons.mpr ⟨List.mem_of_getElem? (i := 17) rfl, List.forall_mem_cons.mpr ⟨List.mem_of_getElem? (i := 18) rfl, List.forall_mem_cons.mpr ⟨List.mem_of_getElem? (i := 19) rfl, List.forall_mem_cons.mpr ⟨List.mem_of_getElem? (i := 20) rfl, List.forall_mem_cons.mpr ⟨List.mem_of_getElem? (i := 37) rfl, List.forall_mem_cons.mpr ⟨List.mem_of_getElem? (i := 38) rfl, List.forall_mem_cons.mpr ⟨List.mem_of_getElem? (i := 58) rfl, List.forall_mem_cons.mpr ⟨List.mem_of_getElem? (i := 344) rfl, fun _ h => absurd h List.not_mem_nil⟩⟩⟩⟩⟩⟩⟩⟩⟩
theorem gT_in : ∀ w ∈ wsM, w ∈ lw_tbl := List.forall_mem_append.mpr ⟨List.forall_mem_append.mpr ⟨List.forall_mem_append.mpr ⟨List.forall_mem_append.mpr ⟨List.forall_mem_append.mpr ⟨gT_00, gT_r0⟩, gT_r1⟩, gT_r2⟩, gT_r3⟩, gT_r4⟩
theorem gT_M : GoodIn lw_tbl wsM := goodIn_sub gT_in wsM_good
theorem gT_Mc {c : Cond} (h : c ∈ wsM) : GoodIn lw_tbl (c :: wsM) := fun w hw => (List.mem_cons.mp hw).elim (fun e => by rw [e]; exact gT_M c h) (gT_M w)
set_option maxRecDepth 20000 in
theorem gT_c_add : GoodIn lw_tbl wsM_add := gT_Mc (by decide +kernel)
set_option maxRecDepth 20000 in
theorem gT_c_thrown : GoodIn lw_tbl wsM_thrown := gT_Mc (by decide +kernel)
set_option maxRecDepth 20000 in
theorem gT_c_clear : GoodIn lw_tbl wsM_clear := gT_Mc (by decide +kernel)
set_option maxRecDepth 20000 in
theorem gT_c_fold : GoodIn lw_tbl wsM_fold := gT_Mc (by decide +kernel)
set_option maxRecDepth 20000 in
theorem gT_c_turn : GoodIn lw_tbl wsM_turn := gT_Mc (by decide +kernel)
set_option maxRecDepth 20000 in
theorem gT_c_keep : GoodIn lw_tbl wsM_keep := gT_Mc (by decide +kernel)
set_option maxRecDepth 20000 in
theorem gT_c_join : GoodIn lw_tbl wsM_join := gT_Mc (by decide +kernel)
set_option maxRecDepth 20000 in
theorem gT_c_has : GoodIn lw_tbl wsM_has := gT_Mc (by decide +kernel)
set_option maxRecDepth 20000 in
theorem gT_c_ranges : GoodIn lw_tbl wsM_ranges := gT_Mc (by decide +kernel)
set_option maxRecDepth 20000 in
theorem gT_c_range : GoodIn lw_tbl wsM_range := gT_Mc (by decide +kernel)
set_option maxRecDepth 20000 in
theorem gT_c_rows : GoodIn lw_tbl wsM_rows := gT_Mc (by decide +kernel)
set_option maxRecDepth 20000 in
theorem gT_c_row : GoodIn lw_tbl wsM_row := gT_Mc (by decide +kernel)
set_option maxRecDepth 20000 in
theorem gT_c_takes : GoodIn lw_tbl wsM_takes := gT_Mc (by decide +kernel)
set_option maxRecDepth 20000 in
theorem gT_c_init : GoodIn lw_tbl wsM_init := gT_Mc (by decide +kernel)
set_option maxRecDepth 20000 in
theorem gT_law_M_add : GoodIn lw_tbl (wsV RL 24 RX2 yM_add wsM_add) := goodIn_app (goodIn_sub (List.forall_mem_cons.mpr ⟨List.mem_of_getElem? (i := 349) rfl, List.forall_mem_cons.mpr ⟨List.mem_of_getElem? (i := 350) rfl, List.forall_mem_cons.mpr ⟨List.mem_of_getElem? (i := 351) rfl, List.forall_mem_cons.mpr ⟨List.mem_of_getElem? (i := 24) rfl, fun _ h => absurd h List.not_mem_nil⟩⟩⟩⟩) (by decide +kernel)) gT_c_add
set_option maxRecDepth 20000 in
theorem gT_law_M_thrown : GoodIn lw_tbl (wsV RL 25 RX2 yM_thrown wsM_thrown) := goodIn_app (goodIn_sub (List.forall_mem_cons.mpr ⟨List.mem_of_getElem? (i := 345) rfl, List.forall_mem_cons.mpr ⟨List.mem_of_getElem? (i := 346) rfl, List.forall_mem_cons.mpr ⟨List.mem_of_getElem? (i := 347) rfl, List.forall_mem_cons.mpr ⟨List.mem_of_getElem? (i := 24) rfl, fun _ h => absurd h List.not_mem_nil⟩⟩⟩⟩) (by decide +kernel)) gT_c_thrown
set_option maxRecDepth 20000 in
theorem gT_law_M_clear : GoodIn lw_tbl (wsV RL 32 RX2 yM_clear wsM_clear) := goodIn_app (goodIn_sub (List.forall_mem_cons.mpr ⟨List.mem_of_getElem? (i := 369) rfl, List.forall_mem_cons.mpr ⟨List.mem_of_getElem? (i := 370) rfl, List.forall_mem_cons.mpr ⟨List.mem_of_getElem? (i := 371) rfl, List.forall_mem_cons.mpr ⟨List.mem_of_getElem? (i := 24) rfl, fun _ h => absurd h List.not_mem_nil⟩⟩⟩⟩) (by decide +kernel)) gT_c_clear
set_option maxRecDepth 20000 in
theorem gT_law_M_fold : GoodIn lw_tbl (wsV RL 36 RX2 yM_fold wsM_fold) := goodIn_app (goodIn_sub (List.forall_mem_cons.mpr ⟨List.mem_of_getElem? (i := 385) rfl, List.forall_mem_cons.mpr ⟨List.mem_of_getElem? (i := 386) rfl, List.forall_mem_cons.mpr ⟨List.mem_of_getElem? (i := 387) rfl, List.forall_mem_cons.mpr ⟨List.mem_of_getElem? (i := 24) rfl, fun _ h => absurd h List.not_mem_nil⟩⟩⟩⟩) (by decide +kernel)) gT_c_fold
set_option maxRecDepth 20000 in
theorem gT_law_M_turn : GoodIn lw_tbl (wsV RL 40 RX2 yM_turn wsM_turn) := goodIn_app (goodIn_sub (List.forall_mem_cons.mpr ⟨List.mem_of_getElem? (i := 373) rfl, List.forall_mem_cons.mpr ⟨List.mem_of_getElem? (i := 374) rfl, List.forall_mem_cons.mpr ⟨List.mem_of_getElem? (i := 375) rfl, List.forall_mem_cons.mpr ⟨List.mem_of_getElem? (i := 24) rfl, fun _ h => absurd h List.not_mem_nil⟩⟩⟩⟩) (by decide +kernel)) gT_c_turn
set_option maxRecDepth 20000 in
theorem gT_law_M_keep : GoodIn lw_tbl (wsV RL 44 RX2 yM_keep wsM_keep) := goodIn_app (goodIn_sub (List.forall_mem_cons.mpr ⟨List.mem_of_getElem? (i := 377) rfl, List.forall_mem_cons.mpr ⟨List.mem_of_getElem? (i := 378) rfl, List.forall_mem_cons.mpr ⟨List.mem_of_getElem? (i := 379) rfl, List.forall_mem_cons.mpr ⟨List.mem_of_getElem? (i := 24) rfl, fun _ h => absurd h List.not_mem_nil⟩⟩⟩⟩) (by decide +kernel)) gT_c_keep
set_option maxRecDepth 20000 in
theorem gT_law_M_join : GoodIn lw_tbl (wsV RL 48 RX2 yM_join wsM_join) := goodIn_app (goodIn_sub (List.forall_mem_cons.mpr ⟨List.mem_of_getElem? (i := 381) rfl, List.forall_mem_cons.mpr ⟨List.mem_of_getElem? (i := 382) rfl, List.forall_mem_cons.mpr ⟨List.mem_of_getElem? (i := 383) rfl, List.forall_mem_cons.mpr ⟨List.mem_of_getElem? (i := 24) rfl, fun _ h => absurd h List.not_mem_nil⟩⟩⟩⟩) (by decide +kernel)) gT_c_join
set_option maxRecDepth 20000 in
theorem gT_law_M_has : GoodIn lw_tbl (wsV RL 53 RX2 yM_has wsM_has) := goodIn_app (goodIn_sub (List.forall_mem_cons.mpr ⟨List.mem_of_getElem? (i := 396) rfl, List.forall_mem_cons.mpr ⟨List.mem_of_getElem? (i := 397) rfl, List.forall_mem_cons.mpr ⟨List.mem_of_getElem? (i := 398) rfl, List.forall_mem_cons.mpr ⟨List.mem_of_getElem? (i := 24) rfl, fun _ h => absurd h List.not_mem_nil⟩⟩⟩⟩) (by decide +kernel)) gT_c_has
set_option maxRecDepth 20000 in
theorem gT_law_M_ranges : GoodIn lw_tbl (wsV RL 57 RX2 yM_ranges wsM_ranges) := goodIn_app (goodIn_sub (List.forall_mem_cons.mpr ⟨List.mem_of_getElem? (i := 400) rfl, List.forall_mem_cons.mpr ⟨List.mem_of_getElem? (i := 401) rfl, List.forall_mem_cons.mpr ⟨List.mem_of_getElem? (i := 402) rfl, List.forall_mem_cons.mpr ⟨List.mem_of_getElem? (i := 24) rfl, fun _ h => absurd h List.not_mem_nil⟩⟩⟩⟩) (by decide +kernel)) gT_c_ranges
set_option maxRecDepth 20000 in
theorem gT_law_M_range : GoodIn lw_tbl (wsV RL 61 RX2 yM_range wsM_range) := goodIn_app (goodIn_sub (List.forall_mem_cons.mpr ⟨List.mem_of_getElem? (i := 404) rfl, List.forall_mem_cons.mpr ⟨List.mem_of_getElem? (i := 405) rfl, List.forall_mem_cons.mpr ⟨List.mem_of_getElem? (i := 406) rfl, List.forall_mem_cons.mpr ⟨List.mem_of_getElem? (i := 24) rfl, fun _ h => absurd h List.not_mem_nil⟩⟩⟩⟩) (by decide +kernel)) gT_c_range
set_option maxRecDepth 20000 in
theorem gT_law_M_rows : GoodIn lw_tbl (wsV RL 65 RX2 yM_rows wsM_rows) := goodIn_app (goodIn_sub (List.forall_mem_cons.mpr ⟨List.mem_of_getElem? (i := 408) rfl, List.forall_mem_cons.mpr ⟨List.mem_of_getElem? (i := 409) rfl, List.forall_mem_cons.mpr ⟨List.mem_of_getElem? (i := 410) rfl, List.forall_mem_cons.mpr ⟨List.mem_of_getElem? (i := 24) rfl, fun _ h => absurd h List.not_mem_nil⟩⟩⟩⟩) (by decide +kernel)) gT_c_rows
set_option maxRecDepth 20000 in
theorem gT_law_M_row : GoodIn lw_tbl (wsV RL 70 RX2 yM_row wsM_row) := goodIn_app (goodIn_sub (List.forall_mem_cons.mpr ⟨List.mem_of_getElem? (i := 432) rfl, List.forall_mem_cons.mpr ⟨List.mem_of_getElem? (i := 433) rfl, List.forall_mem_cons.mpr ⟨List.mem_of_getElem? (i := 434) rfl, List.forall_mem_cons.mpr ⟨List.mem_of_getElem? (i := 24) rfl, fun _ h => absurd h List.not_mem_nil⟩⟩⟩⟩) (by decide +kernel)) gT_c_row
set_option maxRecDepth 20000 in
theorem gT_law_M_takes : GoodIn lw_tbl (wsV RL 75 RX2 yM_takes wsM_takes) := goodIn_app (goodIn_sub (List.forall_mem_cons.mpr ⟨List.mem_of_getElem? (i := 436) rfl, List.forall_mem_cons.mpr ⟨List.mem_of_getElem? (i := 437) rfl, List.forall_mem_cons.mpr ⟨List.mem_of_getElem? (i := 438) rfl, List.forall_mem_cons.mpr ⟨List.mem_of_getElem? (i := 24) rfl, fun _ h => absurd h List.not_mem_nil⟩⟩⟩⟩) (by decide +kernel)) gT_c_takes
