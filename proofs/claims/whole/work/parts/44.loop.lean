/-! THE CLAIM OUT OF ONE WALK OF THE LAW'S BODY. Your part is whole_start (and what it stands on); all else here is the same for every law, but numbers. -/
def R_law : String := "CharRowsLaw"
def lw_P (b : Addr) (xs : List Int32) (args : Array Value) (s : State) : Prop := args = #[.ref b] ∧ s.IntsAt b xs ∧ xs.length ≤ 2048 ∧ (Jvm.Cond.and given_1 narrow_1).before args s = true
def lw_Q (_ : Array Value) (s : State) (o : Outcome) (t : State) : Prop := o = .returned (some (.int 1)) ∧ Framed s o t [] 1046 33162
def lw_Z (below : List Frame) (a : Array Value) (s : State) : State → Prop := fun t => ∃ o, t.status = .running ∧ Ended t below o ∧ lw_Q a s o t
/-- the law's own end, with 1 on the stack, nothing written that was there before, its room as the claim has it -/
theorem lw_ret {p : Program} {l : Launch} {e : Env} {s : State} {m : MethodId} {below : List Frame} {meth : Method} {c : Code} {b : Nat} (hx : p.tables.exec = Jvm.exec) (hb : c.code = code) (hr : meth.sig.returnType = ret) (hlocks : meth.locks = false) {pc : Nat} {H : Heap} {ls : Array Slot} (hdg : decode code pc = .ok (.ireturn, 1)) : W p l e room_1 s m #[Value.ref b] below meth c H [] 1046 33162 (lw_Z below #[Value.ref b] s) (F0 m pc ls [.int 1]) := by
  intro T hT X
  obtain ⟨fs, hret, hrun, hended, hW, hframe⟩ := X.leave (v := some (.int 1)) (hlocks := hlocks) (fun h => by rw [hr] at h; cases h)
  have hmeth' : T.vm.method? m = some meth := X.method'
  refine ⟨T.setFrames fs, ?_, .returned (some (.int 1)), hrun, hended, rfl, ⟨_, rfl⟩, hW, hframe⟩
  jvm_step X.here [X.here.top, hx, hb, hdg, hmeth', hr, ret, narrow_b1]
  (try refine ⟨rfl, ?_⟩); (try refine ⟨rfl, ?_⟩)
  first | (intro acts; rw [hret _ acts rfl rfl rfl]) | rw [hret _ _ rfl rfl rfl]
  exact Steps.refl _
/-- what holds at the law's entry: the machine, the code, the tables' words (any of lw_tbl by 'hts w (by decide +kernel)'), the script of L ints xs at the cell b, what the Statement gives of the start (any of its parts by flat_of_before) -/
def lw_At (p : Program) (s : State) (m : MethodId) (meth : Method) (c : Code) (b L : Nat) (xs : Nat → Int32) : Prop :=
  p.tables.exec = Jvm.exec ∧ c.code = code ∧ meth.sig.returnType = ret ∧ c.maxLocals = 7 ∧ s.vm.findClass R_law = some m.cls ∧ (∀ w ∈ lw_tbl, w.before #[Value.ref b] s = true) ∧ va_X b L xs s s.heap ∧ b < s.heap.size ∧ meth.locks = false ∧ (Jvm.Cond.and given_1 narrow_1).before #[Value.ref b] s = true
set_option maxHeartbeats 4000000 in
set_option maxRecDepth 100000 in
theorem lw_next {p : Program} {l : Launch} {e : Env} {s : State} {A : Nat → Prop} {m : MethodId} {below : List Frame} {meth : Method} {c : Code} {dC : Nat → ClassId} {dI : Nat → Nat → Nat} {b L i NP tL tP sa cells slots : Nat} {xs : Nat → Int32} {Q : State → Prop} {H : Heap} {locs : List Loc} {ls : Array Slot} (C0 : cr_LC l p s A m meth c b L xs tL tP sa) (hI : cr_LI s A dC dI b i NP H locs ls) (kk : ∀ (ls : Array Slot), cr_LI s A dC dI b (i + 4) NP H locs ls → W p l e room_1 s m #[Value.ref b] below meth c H locs cells slots Q (F0 m 23 ls [])) : W p l e room_1 s m #[Value.ref b] below meth c H locs cells slots Q (F0 m 403 ls []) := by
  obtain ⟨hlt, hx, hb, hml, hown, hts, hX, hbl, hA, hbA, hN, hT, hTX⟩ := C0
  refine hI _ ?_
  intro x r r2 r3 a1 b1 a2 b2 a3 b3 mo l1 l2 l3 l4 l5 l6 l7 l8 l9 out cI cZ cJ n k s2 th by0 fd f g f2 g2 f3 g3 mf mg kf kg ef eg mt fr tt lo S K P hfacts hK hP hD hS hl
  refine lv_iinc (v := nI (i + 4)) (lv' := [(4, .int (nI (i + 4))), (0, .ref b), (1, .ref x), (2, .ref mo), (3, .ref out)]) hx hb dL_law_403 hl (k := 4) rfl (nI_add i 4) (by decide) rfl (fun ls hl => ?_)
  refine lv_goto (tgt := 23) hx hb dL_law_406 (by decide) ?_
  exact kk _ (fun C k9 => k9 x r r2 r3 a1 b1 a2 b2 a3 b3 mo l1 l2 l3 l4 l5 l6 l7 l8 l9 out cI cZ cJ n k s2 th by0 fd f g f2 g2 f3 g3 mf mg kf kg ef eg mt fr tt lo S K P hfacts hK hP hD hS (lv_sub hl [1, 2, 3, 4, 0] rfl))
set_option maxHeartbeats 4000000 in
set_option maxRecDepth 100000 in
theorem lw_step {p : Program} {l : Launch} {e : Env} {s : State} {A : Nat → Prop} {m : MethodId} {below : List Frame} {meth : Method} {c : Code} {dC : Nat → ClassId} {dI : Nat → Nat → Nat} {b L i NP tL tP sa cells slots : Nat} {xs : Nat → Int32} {Q : State → Prop} {H : Heap} {locs : List Loc} {ls : Array Slot} (C0 : cr_LC l p s A m meth c b L xs tL tP sa) (hi : i + 4 ≤ L) (hL : L ≤ 2048) (hNP : NP ≤ 1300) (hc : cells + 2 ≤ room_1.cells) (hs : slots + 16 ≤ room_1.slots) (hI : cr_LI s A dC dI b i NP H locs ls) (kk : ∀ (H : Heap) (locs : List Loc) (ls : Array Slot), cr_LI s A dC dI b (i + 4) (NP + 2) H locs ls → W p l e room_1 s m #[Value.ref b] below meth c H locs (cells + 2) (slots + 16) Q (F0 m 23 ls [])) : W p l e room_1 s m #[Value.ref b] below meth c H locs cells slots Q (F0 m 32 ls []) := by
  have nx : ∀ (H : Heap) (locs : List Loc) (ls : Array Slot), cr_LI s A dC dI b i (NP + 2) H locs ls → W p l e room_1 s m #[Value.ref b] below meth c H locs (cells + 2) (slots + 16) Q (F0 m 403 ls []) := fun H locs ls h => lw_next C0 h (fun ls h => kk H locs ls h)
  obtain ⟨hlt, hx, hb, hml, hown, hts, hX, hbl, hA, hbA, hN, hT, hTX⟩ := id C0
  refine hI _ ?_
  intro x r r2 r3 a1 b1 a2 b2 a3 b3 mo l1 l2 l3 l4 l5 l6 l7 l8 l9 out cI cZ cJ n k s2 th by0 fd f g f2 g2 f3 g3 mf mg kf kg ef eg mt fr tt lo S K P hfacts hK hP hD hS hl
  refine lv_aload_n hx hb dL_law_32 rfl (lv_at hl 0 rfl) ?_
  refine lv_iload hx hb dL_law_33 (lv_at hl 4 rfl) ?_
  refine va_sld hx hb hX hbl hbA hS (vp_in_nI (by omega) (by omega)) dL_law_35 ?_
  refine lv_bipush (v := nI 15) hx hb dL_law_36 (by decide) ?_
  refine lv_iand hx hb dL_law_38 ?_
  generalize xs (nI i).toNatClampNeg &&& nI 15 = v
  rcases cr_swl v with h | rfl | rfl | rfl | rfl | rfl | rfl | rfl | rfl | rfl | rfl | rfl | rfl
  · refine lv_tableOut (tgt := 403) hx hb dL_law_39 h (by decide) ?_
    refine W.widen (k := cells + 2) (n := slots + 16) (by omega) (by omega) ?_
    obtain ⟨y1, y2, y3, y4, y5, y6, y7, y8, y9⟩ := hfacts
    exact nx _ _ _ (fun C k9 => k9 x r r2 r3 a1 b1 a2 b2 a3 b3 mo l1 l2 l3 l4 l5 l6 l7 l8 l9 out cI cZ cJ n k s2 th by0 fd f g f2 g2 f3 g3 mf mg kf kg ef eg mt fr tt lo S K P ⟨y1, y2, y3, y4, y5, y6, y7, y8, by omega⟩ hK hP hD hS hl)
  · refine lv_tableIn (off := 61) (tgt := 100) hx hb dL_law_39 (by decide) (by decide) (by decide) (by decide) ?_
    rcases cr_valid (xs (i + 1)) (xs (i + 2)) with ⟨p0, q0, hy1, hy2, hpq, hq⟩ | hxy
    · exact lw_add C0 hi hL hNP hc hs hI hy1 hy2 hpq hq nx
    · exact lw_addx C0 hi hL hNP hc hs hI hxy nx
  · refine lv_tableIn (off := 129) (tgt := 168) hx hb dL_law_39 (by decide) (by decide) (by decide) (by decide) ?_
    exact lw_clear C0 hi hL hNP hc hs hI nx
  · refine lv_tableIn (off := 140) (tgt := 179) hx hb dL_law_39 (by decide) (by decide) (by decide) (by decide) ?_
    exact lw_fold C0 hi hL hNP hc hs hI nx
  · refine lv_tableIn (off := 153) (tgt := 192) hx hb dL_law_39 (by decide) (by decide) (by decide) (by decide) ?_
    exact lw_turn C0 hi hL hNP hc hs hI nx
  · refine lv_tableIn (off := 166) (tgt := 205) hx hb dL_law_39 (by decide) (by decide) (by decide) (by decide) ?_
    exact lw_keep C0 hi hL hNP hc hs hI nx
  · refine lv_tableIn (off := 177) (tgt := 216) hx hb dL_law_39 (by decide) (by decide) (by decide) (by decide) ?_
    exact lw_join C0 hi hL hNP hc hs hI nx
  · refine lv_tableIn (off := 190) (tgt := 229) hx hb dL_law_39 (by decide) (by decide) (by decide) (by decide) ?_
    exact lw_has C0 hi hL hNP hc hs hI nx
  · refine lv_tableIn (off := 215) (tgt := 254) hx hb dL_law_39 (by decide) (by decide) (by decide) (by decide) ?_
    exact lw_ranges C0 hi hL hNP hc hs hI nx
  · refine lv_tableIn (off := 228) (tgt := 267) hx hb dL_law_39 (by decide) (by decide) (by decide) (by decide) ?_
    exact lw_range C0 hi hL hNP hc hs hI nx
  · refine lv_tableIn (off := 265) (tgt := 304) hx hb dL_law_39 (by decide) (by decide) (by decide) (by decide) ?_
    exact lw_rows C0 hi hL hNP hc hs hI nx
  · refine lv_tableIn (off := 278) (tgt := 317) hx hb dL_law_39 (by decide) (by decide) (by decide) (by decide) ?_
    exact lw_row C0 hi hL hNP hc hs hI nx
  · refine lv_tableIn (off := 327) (tgt := 366) hx hb dL_law_39 (by decide) (by decide) (by decide) (by decide) ?_
    exact lw_takes C0 hi hL hNP hc hs hI nx
set_option maxHeartbeats 4000000 in
set_option maxRecDepth 100000 in
theorem lw_loop {p : Program} {l : Launch} {e : Env} {s : State} {A : Nat → Prop} {m : MethodId} {below : List Frame} {meth : Method} {c : Code} {dC : Nat → ClassId} {dI : Nat → Nat → Nat} {b L tL tP sa : Nat} {xs : Nat → Int32} (hr : meth.sig.returnType = ret) (hlocks : meth.locks = false) (hAl : ∀ q : Nat, A q → s.heap.size ≤ q) (C0 : cr_LC l p s A m meth c b L xs tL tP sa) (hL : L ≤ 2048) : ∀ (N j : Nat), 4 * j ≤ L → L + 4 ≤ 4 * j + 4 * N → ∀ (H : Heap) (locs : List Loc) (ls : Array Slot), cr_LI s A dC dI b (4 * j) (278 + 2 * j) H locs ls → W p l e room_1 s m #[Value.ref b] below meth c H locs (22 + 2 * j) (24970 + 16 * j) (lw_Z below #[Value.ref b] s) (F0 m 23 ls []) := by
  intro N
  induction N with
  | zero =>
    intro j h1 h2
    exact absurd h2 (by omega)
  | succ N ih =>
    intro j h1 h2 H locs ls hI
    obtain ⟨hlt, hx, hb, hml, hown, hts, hX, hbl, hA, hbA, hN, hT, hTX⟩ := id C0
    refine hI _ ?_
    intro x r r2 r3 a1 b1 a2 b2 a3 b3 mo l1 l2 l3 l4 l5 l6 l7 l8 l9 out cI cZ cJ n k s2 th by0 fd f g f2 g2 f3 g3 mf mg kf kg ef eg mt fr tt lo S K P hfacts hK hP hD hS hl
    refine lv_iload hx hb dL_law_23 (lv_at hl 4 rfl) ?_
    refine lv_aload_n hx hb dL_law_25 rfl (lv_at hl 0 rfl) ?_
    refine va_slen hx hb hX hbl hbA hS dL_law_26 ?_
    refine lv_iconst (v := nI 4) hx hb dL_law_27 (by decide) ?_
    refine lv_isub hx hb dL_law_28 ?_
    refine lv_icmp_gt (tgt := 409) hx hb dL_law_29 (by decide) (fun c_29 => ?_) (fun c_29 => ?_)
    · refine lv_iconst (v := 1) hx hb dL_law_409 (by decide) ?_
      refine va_forget (fun q hq => hAl _ (hS.2.2 q hq)) ?_
      refine W.widen (k := 1046) (n := 33162) (by omega) (by omega) ?_
      exact lw_ret hx hb hr hlocks dL_law_410
    · have h3 : 4 * j + 4 ≤ L := Nat.not_lt.mp (fun q => c_29 ((cr_guard (by omega) hL).2 q))
      exact lw_step C0 h3 hL (by omega) (show 22 + 2 * j + 2 ≤ 1046 by omega) (show 24970 + 16 * j + 16 ≤ 33162 by omega) hI (fun H locs ls h => ih (j + 1) (by omega) (by omega) H locs ls h)
