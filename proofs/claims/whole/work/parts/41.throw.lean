/-! THE THROW of add, and the law's own add -/
abbrev cr_IAE : String := "java/lang/IllegalArgumentException"
abbrev cr_nms : List String := ["java/lang/RuntimeException", "java/lang/Exception"]
def cr_xw : List Cond := [.castable "java/lang/IllegalArgumentException" "java/lang/IllegalArgumentException", .declares ⟨"java/lang/RuntimeException", "<init>", "(Ljava/lang/String;)V"⟩, .declares ⟨"java/lang/Exception", "<init>", "(Ljava/lang/String;)V"⟩, .declares ⟨"java/lang/Throwable", "<init>", "(Ljava/lang/String;)V"⟩]
def cr_XW (U : State) : Prop := va_Nw (.castable "java/lang/IllegalArgumentException" "java/lang/IllegalArgumentException") U ∧ va_Nw (.declares ⟨"java/lang/RuntimeException", "<init>", "(Ljava/lang/String;)V"⟩) U ∧ va_Nw (.declares ⟨"java/lang/Exception", "<init>", "(Ljava/lang/String;)V"⟩) U ∧ va_Nw (.declares ⟨"java/lang/Throwable", "<init>", "(Ljava/lang/String;)V"⟩) U
theorem cr_XW.use {U : State} {args : Array Value} (h : cr_XW U) : ∀ w ∈ cr_xw, w.before args U = true := vx_c (h.1.use rfl) (vx_c (h.2.1.use rfl) (vx_c (h.2.2.1.use rfl) (vx_c (h.2.2.2.use rfl) vx_n)))
/-- what the throw wants of the state: the text, Throwable's two statics (they lie outside A), four words of the tables -/
def cr_TX (sa : Nat) (A : Nat → Prop) (U : State) (H : Heap) : Prop := vk_R RX1 25 "not a range of 0 .. 1114111" sa U ∧ vx_Zq Bundle.tN "UNASSIGNED_STACK" Bundle.steD A U H ∧ vx_Zq Bundle.tN "SUPPRESSED_SENTINEL" Bundle.listD A U H ∧ cr_XW U
theorem cr_TX.warm {sa : Nat} {A : Nat → Prop} {s U : State} {H : Heap} (hW : s.WarmedH U.vm) (h : cr_TX sa A s H) : cr_TX sa A U H := ⟨vk_R.warm hW h.1, h.2.1.moved hW.alike, h.2.2.1.moved hW.alike, va_Nw.warmC hW h.2.2.2.1, va_Nw.warmD hW h.2.2.2.2.1, va_Nw.warmD hW h.2.2.2.2.2.1, va_Nw.warmD hW h.2.2.2.2.2.2⟩
theorem cr_TX.same {sa : Nat} {A : Nat → Prop} {u U : State} {H : Heap} (hv : U.vm = u.vm) (h : cr_TX sa A u H) : cr_TX sa A U H := ⟨vk_R.same hv h.1, h.2.1.moved (by rw [hv]; exact Vm.Alike.refl _), h.2.2.1.moved (by rw [hv]; exact Vm.Alike.refl _), h.2.2.2.1.same rfl hv.symm, h.2.2.2.2.1.same rfl hv.symm, h.2.2.2.2.2.1.same rfl hv.symm, h.2.2.2.2.2.2.same rfl hv.symm⟩
theorem cr_TX.kept {sa : Nat} {A : Nat → Prop} {U : State} {H H1 : Heap} (h : cr_TX sa A U H) (hq : ∀ a : Nat, a < H.size → ¬ A a → H1[a]? = H[a]?) : cr_TX sa A U H1 := ⟨h.1, h.2.1.kept hq, h.2.2.1.kept hq, h.2.2.2⟩
theorem cr_TX.narrow {sa : Nat} {A B : Nat → Prop} {U : State} {H : Heap} (h : cr_TX sa A U H) (hAB : ∀ q, B q → A q) : cr_TX sa B U H := ⟨h.1, h.2.1.narrow hAB, h.2.2.1.narrow hAB, h.2.2.2⟩
theorem cr_atS_rest : ∀ w ∈ (vx_atS RX1 27 "java/lang/IllegalArgumentException" ["java/lang/RuntimeException", "java/lang/Exception"]).filter (fun w => !goodWord w), w ∈ cr_xw := by decide +kernel
theorem cr_atS_ot : ∀ w ∈ Cond.classLink RX1 23 "java/lang/IllegalArgumentException" :: Cond.initialized "java/lang/IllegalArgumentException" :: vx_atS RX1 27 "java/lang/IllegalArgumentException" ["java/lang/RuntimeException", "java/lang/Exception"], vx_ot w = true := by decide +kernel
theorem cr_atS_in : ∀ w ∈ (vx_atS RX1 27 "java/lang/IllegalArgumentException" ["java/lang/RuntimeException", "java/lang/Exception"]).filter goodWord, w ∈ wsX1_add := fun _ h => List.mem_cons_of_mem _ (List.mem_append_right _ h)
theorem cr_fit : ∀ n ∈ ["java/lang/RuntimeException", "java/lang/Exception"], Bundle.fit n = true := by decide +kernel
set_option maxHeartbeats 4000000 in
set_option maxRecDepth 100000 in
/-- add, its numbers no range: it throws, nothing that was there has changed -/
theorem c_addx (l : Launch) (hlt : l.stackTraces = false) (sa x : Nat) (y z : Int32) (hxy : y < 0 ∨ z < y ∨ nI 1114111 < z) :
    vx_Met l yX1_add wsX1_add ({ frames := 6, cells := 1, slots := 6, locals := 82 }) (va_Pc [.ref x, .int y, .int z] (fun U => cr_TX sa (fun _ => False) U U.heap)) (va_Qi (fun (_ : Int32) (_ : va_W) => False) (fun _ _ => False) (fun _ => False)) (vx_X (fun _ : Unit => True) (fun E _ _ => E = "java/lang/IllegalArgumentException") (fun _ => False)) 1 6 (fun _ => False) := by
  refine vx_ofW (cc := cX1_add) (maxL := 3) (ret := (some .int)) (by decide) rfl ?_
  intro p e s m args below meth c s₁ B hml hex hv
  obtain ⟨rfl, hT⟩ := hv
  have hx := B.exec
  have hb := B.bytes
  have hts := atoms_spec (ws := wsX1_add) B.pre
  have hown : s.vm.findClass RX1 = some m.cls := findClass_of_methodNamed B.named
  have hlocks := B.notSynchronized
  have hS : va_S (fun _ => False) s.heap s.heap [] := va_S.rf
  have hl := lv_entry ([.ref x, .int y, .int z]) (n := 3) (Nat.le_of_ble_eq_true rfl)
  rw [lg_entry_eq]
  generalize (lg_sl ([.ref x, .int y, .int z]) ++ List.replicate (3 - (lg_sl ([.ref x, .int y, .int z])).length) Slot.unset).toArray = ls at hl ⊢
  have hl : lv_has ls 3 [(0, .ref x), (1, .int y), (2, .int z)] := hl
  have hthrow : W p l e (headSpec wsX1_add ({ frames := 6, cells := 1, slots := 6, locals := 82 })).room s m ([.ref x, .int y, .int z] : List Value).toArray below meth c s.heap [] 0 0 (vx_MQ below (va_Qi (fun (_ : Int32) (_ : va_W) => False) (fun _ _ => False) (fun _ => False)) (vx_X (fun _ : Unit => True) (fun E _ _ => E = "java/lang/IllegalArgumentException") (fun _ => False)) ([.ref x, .int y, .int z] : List Value).toArray s 1 6 (fun _ => False)) (F0 m 15 ls []) :=
    vx_throwS (names := ["java/lang/RuntimeException", "java/lang/Exception"]) (A := fun _ => False) hx hb hlt hown (by decide +kernel) cr_fit (hts (.classLink RX1 23 "java/lang/IllegalArgumentException") (by decide +kernel)) (hts (.initialized "java/lang/IllegalArgumentException") (by decide +kernel)) hT.1
      (vx_hat (fun w hw => hts w (cr_atS_in w hw)) cr_atS_rest (hT.2.2.2.use)) cr_atS_ot hT.2.1 hT.2.2.1 hS (hl.1.trans hml.symm) dX1_add_15 dX1_add_18 dX1_add_19 dX1_add_21 dX1_add_24 (fun x hx => (hex x hx).elim) (by decide) (by decide) (Nat.le_refl _) (Nat.le_refl _) hlocks
      (fun t _ hz hk => ⟨(), trivial, rfl, hz, fun q hq _ => hk q hq⟩) (fun _ h => nomatch h) (Nat.le_refl _) (Nat.le_refl _)
  refine lv_iload_n hx hb dX1_add_0 rfl (lv_at hl 1 rfl) ?_
  refine lv_if_lt (tgt := 15) hx hb dX1_add_1 (by decide) (fun c_1 => ?_) (fun c_1 => ?_)
  · exact hthrow
  · refine lv_iload_n hx hb dX1_add_4 rfl (lv_at hl 2 rfl) ?_
    refine lv_iload_n hx hb dX1_add_5 rfl (lv_at hl 1 rfl) ?_
    refine lv_icmp_lt (tgt := 15) hx hb dX1_add_6 (by decide) (fun c_6 => ?_) (fun c_6 => ?_)
    · exact hthrow
    · refine lv_iload_n hx hb dX1_add_9 rfl (lv_at hl 2 rfl) ?_
      refine lv_ldc (v := nI 1114111) hx hb hown (hts (.constant RX1 22 (nI 1114111)) (by decide +kernel)) dX1_add_10 ?_
      refine lv_icmp_le (tgt := 25) hx hb dX1_add_12 (by decide) (fun c_12 => ?_) (fun c_12 => ?_)
      · rcases hxy with h | h | h
        · exact absurd h c_1
        · exact absurd h c_6
        · exact absurd c_12 (Int32.not_le.mpr h)
      · exact hthrow
set_option maxHeartbeats 4000000 in
set_option maxRecDepth 100000 in
/-- the law's add, its numbers a range -/
theorem c_ladd (l : Launch) (dC : Nat → ClassId) (dI : Nat → Nat → Nat) (sz : Nat) (x r r2 r3 a b out : Nat) (cI cJ : ClassId) (n : Nat) (f g : Nat → Int32) (lo : Nat → Int64) (S : Nat → Prop) (hSet : cr_Set n f g S) (hn : n + 1 < 768) (p0 q0 : Nat) (hpq : p0 ≤ q0) (hq : q0 ≤ 1114111) : Met l yL_add wsL_add ({ frames := 7, cells := 0, slots := 0, locals := 250 }) (va_Pc [.ref x, .int (nI p0), .int (nI q0), .ref out] (cr_preN dC dI [(cI, .int), (cJ, .long)] [(x, .inr (1, [.ref r, .ref r2, .ref r3])), (r, .inr (0, [.ref a, .ref b, .int (nI n)])), (a, .inl (cI, 768, .inl f)), (b, .inl (cI, 768, .inl g)), (out, .inl (cJ, 1, .inr (.inl lo)))] sz)) (va_Qi (fun (rr : Int32) (u : va_W) => ∃ (n' : Nat) (f' g' : Nat → Int32) (lo' : Nat → Int64), rr = nI 0 ∧ u = [(x, .inr (1, [.ref r, .ref r2, .ref r3])), (r, .inr (0, [.ref a, .ref b, .int (nI n')])), (a, .inl (cI, 768, .inl f')), (b, .inl (cI, 768, .inl g')), (out, .inl (cJ, 1, .inr (.inl lo')))] ∧ n' ≤ 768 ∧ lo' 0 = (nI n').toInt64 ∧ cr_Set n' f' g' (fun c => (S c ∨ (p0 ≤ c ∧ c ≤ q0 ∧ cr_ch c)))) (cr_at dC dI [(cI, .int), (cJ, .long)] (va_A [(x, .inr (1, [.ref r, .ref r2, .ref r3])), (r, .inr (0, [.ref a, .ref b, .int (nI n)])), (a, .inl (cI, 768, .inl f)), (b, .inl (cI, 768, .inl g)), (out, .inl (cJ, 1, .inr (.inl lo)))] sz)) (va_A [(x, .inr (1, [.ref r, .ref r2, .ref r3])), (r, .inr (0, [.ref a, .ref b, .int (nI n)])), (a, .inl (cI, 768, .inl f)), (b, .inl (cI, 768, .inl g)), (out, .inl (cJ, 1, .inr (.inl lo)))] sz)) 0 0 (va_A [(x, .inr (1, [.ref r, .ref r2, .ref r3])), (r, .inr (0, [.ref a, .ref b, .int (nI n)])), (a, .inl (cI, 768, .inl f)), (b, .inl (cI, 768, .inl g)), (out, .inl (cJ, 1, .inr (.inl lo)))] sz) := by
  refine va_MetW (cc := cL_add) (maxL := 5) (ret := (some .int)) (by decide) rfl ?_
  intro p e s m args below meth c s₁ B hml hv
  obtain ⟨rfl, ⟨hsz, hP, hK, hD0⟩, hN⟩ := hv
  have hx := B.exec
  have hb := B.bytes
  have hr := B.returns
  have hts := atoms_spec (ws := wsL_add) B.pre
  have hown : s.vm.findClass RL = some m.cls := findClass_of_methodNamed B.named
  have hlocks := B.notSynchronized
  subst hsz
  have hD := hD0.self (sz := s.heap.size)
  generalize hAe : va_A [(x, .inr (1, [.ref r, .ref r2, .ref r3])), (r, .inr (0, [.ref a, .ref b, .int (nI n)])), (a, .inl (cI, 768, .inl f)), (b, .inl (cI, 768, .inl g)), (out, .inl (cJ, 1, .inr (.inl lo)))] s.heap.size = A at hD ⊢
  have hA : ∀ q : Nat, s.heap.size ≤ q → A q := fun q h => by rw [← hAe]; exact Or.inr h
  have hS : va_S A s.heap s.heap [] := va_S.rf
  have hP : va_P (dC, dI) crCl [(x, .inr (1, [.ref r, .ref r2, .ref r3])), (r, .inr (0, [.ref a, .ref b, .int (nI n)])), (a, .inl (cI, 768, .inl f)), (b, .inl (cI, 768, .inl g)), (out, .inl (cJ, 1, .inr (.inl lo)))] s.heap := hP
  have hl := lv_entry ([.ref x, .int (nI p0), .int (nI q0), .ref out]) (n := 5) (Nat.le_of_ble_eq_true rfl)
  rw [lg_entry_eq]
  generalize (lg_sl ([.ref x, .int (nI p0), .int (nI q0), .ref out]) ++ List.replicate (5 - (lg_sl ([.ref x, .int (nI p0), .int (nI q0), .ref out])).length) Slot.unset).toArray = ls at hl ⊢
  have hl : lv_has ls 5 [(0, .ref x), (1, .int (nI p0)), (2, .int (nI q0)), (3, .ref out)] := hl
  refine lv_aload_n hx hb dL_add_0 rfl (lv_at hl 3 rfl) ?_
  refine lv_iconst (v := nI 0) hx hb dL_add_1 (by decide) ?_
  refine lv_aload_n hx hb dL_add_2 rfl (lv_at hl 0 rfl) ?_
  refine lv_iload_n hx hb dL_add_3 rfl (lv_at hl 1 rfl) ?_
  refine lv_iload_n hx hb dL_add_4 rfl (lv_at hl 2 rfl) ?_
  have hPc := hP.sub (ws' := [(x, .inr (1, [.ref r, .ref r2, .ref r3])), (r, .inr (0, [.ref a, .ref b, .int (nI n)])), (a, .inl (cI, 768, .inl f)), (b, .inl (cI, 768, .inl g))]) [0, 1, 2, 3] rfl
  have hDc := hD.sub (ws' := [(x, .inr (1, [.ref r, .ref r2, .ref r3])), (r, .inr (0, [.ref a, .ref b, .int (nI n)])), (a, .inl (cI, 768, .inl f)), (b, .inl (cI, 768, .inl g))]) [0, 1, 2, 3] (by decide) rfl
  have hFc := va_free (wc := [(x, .inr (1, [.ref r, .ref r2, .ref r3])), (r, .inr (0, [.ref a, .ref b, .int (nI n)])), (a, .inl (cI, 768, .inl f)), (b, .inl (cI, 768, .inl g))]) hD hS hA [0, 1, 2, 3] rfl
  refine va_calli (va_runV (As := [.int (nI p0), .int (nI q0)]) (rest := [.int (nI 0), .ref out]) ⟨hx, hb, hml, hown, hts⟩ (c_add l dC dI _ x r r2 r3 a b cI n f g S hSet hn p0 q0 hpq hq) (cwV 2 hts gL_add_X1_add rfl rfl rfl (by decide +kernel) ⟨Nat.le_of_ble_eq_true rfl, Nat.le_of_ble_eq_true rfl⟩) (cr_preVN hN hPc (hK.sub (tys' := [(cI, .int)]) [0] rfl) hDc (ci := 1) (q0 := 0) rfl rfl) rfl rfl hl.1 rfl (lv_room (Nat.le_of_ble_eq_true rfl)) dL_add_5 ⟨Nat.zero_le _, Nat.zero_le _⟩) hS (fun q _ h => hFc q h) hFc (fun r_5 u_5 t_5 H_5 locs ht_5 hvm_5 hw_5 hB_5 hz_5 hk_5 hS => ?_)
  obtain ⟨n1, f1, g1, rfl, rfl, hn1, hSet1⟩ := hw_5
  obtain ⟨hP, hD⟩ := cr_back (wr := [(out, .inl (cJ, 1, .inr (.inl lo)))]) (w1 := [(x, .inr (1, [.ref r, .ref r2, .ref r3])), (r, .inr (0, [.ref a, .ref b, .int (nI n1)])), (a, .inl (cI, 768, .inl f1)), (b, .inl (cI, 768, .inl g1))]) hP hD [0, 1, 2, 3] [4] rfl rfl (by decide) (by decide) hk_5 hFc hB_5 ht_5
  clear hPc hDc hFc
  generalize H_5 = H at hP hS ⊢
  have hP := hP.sub (ws' := [(x, .inr (1, [.ref r, .ref r2, .ref r3])), (r, .inr (0, [.ref a, .ref b, .int (nI n1)])), (a, .inl (cI, 768, .inl f1)), (b, .inl (cI, 768, .inl g1)), (out, .inl (cJ, 1, .inr (.inl lo)))]) [1, 2, 3, 4, 0] rfl
  have hD := hD.sub (ws' := [(x, .inr (1, [.ref r, .ref r2, .ref r3])), (r, .inr (0, [.ref a, .ref b, .int (nI n1)])), (a, .inl (cI, 768, .inl f1)), (b, .inl (cI, 768, .inl g1)), (out, .inl (cJ, 1, .inr (.inl lo)))]) [1, 2, 3, 4, 0] (by decide) rfl
  refine lv_i2l (v := (nI n1).toInt64) hx hb dL_add_8 rfl ?_
  refine va_last hx hb hK hP hD hS 4 1 rfl rfl (vp_in_nI (by omega) (by omega)) dL_add_9 (fun H locs hP hD hS => ?_)
  have hP : va_P (dC, dI) crCl [(x, .inr (1, [.ref r, .ref r2, .ref r3])), (r, .inr (0, [.ref a, .ref b, .int (nI n1)])), (a, .inl (cI, 768, .inl f1)), (b, .inl (cI, 768, .inl g1)), (out, .inl (cJ, 1, .inr (.inl (vp_updL lo (nI 0).toNatClampNeg (nI n1).toInt64))))] H := hP
  have hD : va_D A [(x, .inr (1, [.ref r, .ref r2, .ref r3])), (r, .inr (0, [.ref a, .ref b, .int (nI n1)])), (a, .inl (cI, 768, .inl f1)), (b, .inl (cI, 768, .inl g1)), (out, .inl (cJ, 1, .inr (.inl (vp_updL lo (nI 0).toNatClampNeg (nI n1).toInt64))))] := hD
  refine lv_goto (tgt := 17) hx hb dL_add_10 (by decide) ?_
  refine lv_iconst (v := nI 0) hx hb dL_add_17 (by decide) ?_
  exact W.iret (v := nI 0) hx hb hr (fun t9 ht9 hW9 => ⟨⟨nI 0, [(x, .inr (1, [.ref r, .ref r2, .ref r3])), (r, .inr (0, [.ref a, .ref b, .int (nI n1)])), (a, .inl (cI, 768, .inl f1)), (b, .inl (cI, 768, .inl g1)), (out, .inl (cJ, 1, .inr (.inl (vp_updL lo (nI 0).toNatClampNeg (nI n1).toInt64))))], rfl, ⟨n1, f1, g1, _, rfl, rfl, hn1, by rw [nI_clamp (by omega)]; simp [vp_updL], hSet1⟩, by rw [ht9]; exact hP, va_K.moved hW9.alike hK, hD⟩, hS.F ht9⟩) hS.2.2 dL_add_18
abbrev cr_preX (sa : Nat) (dC : Nat → ClassId) (dI : Nat → Nat → Nat) (tys : List (ClassId × FieldType)) (ws : va_W) (sz : Nat) (U : State) : Prop := cr_pre dC dI tys ws sz U ∧ cr_TX sa (fun _ => False) U U.heap
theorem cr_blindX {sa : Nat} {dC : Nat → ClassId} {dI : Nat → Nat → Nat} {tys : List (ClassId × FieldType)} {ws : va_W} {sz : Nat} {av : List Value} : FrameBlind (va_Pc av (cr_preX sa dC dI tys ws sz)) := by
  intro a U g mk q
  obtain ⟨q0, q1, qT⟩ := q
  exact ⟨q0, (cr_blind a U g mk ⟨q0, q1⟩).2, cr_TX.same (u := U) (U := U.calling g mk a) rfl qT⟩
theorem cr_preSX {sa : Nat} {dC : Nat → ClassId} {dI : Nat → Nat → Nat} {tys : List (ClassId × FieldType)} {ws : va_W} {av : List Value} {A A0 : Nat → Prop} {s : State} {H : Heap} {locs : List Loc} (hT : cr_TX sa A0 s s.heap) (hS : va_S A0 s.heap H locs) (hP : va_P (dC, dI) crCl ws H) (hK : va_K (dC, dI) crCl tys s) (hD : va_D A ws) : PreS s H (va_Pc av (cr_preX sa dC dI tys ws H.size)) av :=
  ⟨cr_blindX, fun U hU hW => ⟨rfl, ((cr_preS (av := av) hP hK hD).2 U hU hW).2, by rw [hU]; exact ((hT.kept hS.2.1).narrow (fun _ h => h.elim)).warm hW⟩⟩
set_option maxHeartbeats 4000000 in
set_option maxRecDepth 100000 in
/-- the law's add, its numbers no range -/
theorem c_laddx (l : Launch) (hlt : l.stackTraces = false) (dC : Nat → ClassId) (dI : Nat → Nat → Nat) (sz : Nat) (sa x r r2 r3 out : Nat) (y z : Int32) (hxy : y < 0 ∨ z < y ∨ nI 1114111 < z) : Met l yL_add wsL_add ({ frames := 7, cells := 1, slots := 6, locals := 110 }) (va_Pc [.ref x, .int y, .int z, .ref out] (cr_preX sa dC dI [] [(x, .inr (1, [.ref r, .ref r2, .ref r3]))] sz)) (va_Qi (fun (rr : Int32) (u : va_W) => rr = nI 1 ∧ u = [(x, .inr (1, [.ref r, .ref r2, .ref r3]))]) (cr_at dC dI [] (va_A [(x, .inr (1, [.ref r, .ref r2, .ref r3]))] sz)) (va_A [(x, .inr (1, [.ref r, .ref r2, .ref r3]))] sz)) 1 6 (va_A [(x, .inr (1, [.ref r, .ref r2, .ref r3]))] sz) := by
  refine va_MetW (cc := cL_add) (maxL := 5) (ret := (some .int)) (by decide) rfl ?_
  intro p e s m args below meth c s₁ B hml hv
  obtain ⟨rfl, ⟨hsz, hP, hK, hD0⟩, hT⟩ := hv
  have hx := B.exec
  have hb := B.bytes
  have hr := B.returns
  have hts := atoms_spec (ws := wsL_add) B.pre
  have hown : s.vm.findClass RL = some m.cls := findClass_of_methodNamed B.named
  have hlocks := B.notSynchronized
  have htab := vx_table (x := yL_add) B (hts (.codeWith yL_add cL_add 5 (some .int) [(0, 10, 13, 13)]) (by decide +kernel))
  subst hsz
  have hD := hD0.self (sz := s.heap.size)
  generalize hAe : va_A [(x, .inr (1, [.ref r, .ref r2, .ref r3]))] s.heap.size = A at hD ⊢
  have hA : ∀ q : Nat, s.heap.size ≤ q → A q := fun q h => by rw [← hAe]; exact Or.inr h
  have hS : va_S A s.heap s.heap [] := va_S.rf
  have hP : va_P (dC, dI) crCl [(x, .inr (1, [.ref r, .ref r2, .ref r3]))] s.heap := hP
  have hl := lv_entry ([.ref x, .int y, .int z, .ref out]) (n := 5) (Nat.le_of_ble_eq_true rfl)
  rw [lg_entry_eq]
  generalize (lg_sl ([.ref x, .int y, .int z, .ref out]) ++ List.replicate (5 - (lg_sl ([.ref x, .int y, .int z, .ref out])).length) Slot.unset).toArray = ls at hl ⊢
  have hl : lv_has ls 5 [(0, .ref x), (1, .int y), (2, .int z), (3, .ref out)] := hl
  refine lv_aload_n hx hb dL_add_0 rfl (lv_at hl 3 rfl) ?_
  refine lv_iconst (v := nI 0) hx hb dL_add_1 (by decide) ?_
  refine lv_aload_n hx hb dL_add_2 rfl (lv_at hl 0 rfl) ?_
  refine lv_iload_n hx hb dL_add_3 rfl (lv_at hl 1 rfl) ?_
  refine lv_iload_n hx hb dL_add_4 rfl (lv_at hl 2 rfl) ?_
  refine vx_calli (vx_runV (As := [.int y, .int z]) (rest := [.int (nI 0), .ref out]) ⟨hx, hb, hml, hown, hts⟩ (c_addx l hlt sa x y z hxy) (cwV 2 hts gL_add_X1_add rfl rfl rfl (by decide +kernel) ⟨Nat.le_of_ble_eq_true rfl, Nat.le_of_ble_eq_true rfl⟩) ⟨fun a U g mk q => ⟨q.1, cr_TX.same (u := U) (U := U.calling g mk a) rfl q.2⟩, va_recv hK hP (ci := 1) (q0 := 0) rfl rfl, fun U hU hW => ⟨rfl, by show cr_TX sa (fun _ => False) U U.heap; rw [hU]; exact hT.warm hW⟩⟩ rfl rfl hl.1 rfl (lv_room (Nat.le_of_ble_eq_true rfl)) dL_add_5 ⟨Nat.le_of_ble_eq_true rfl, Nat.le_of_ble_eq_true rfl⟩) hS (fun _ _ h => h.elim) (fun _ h => h.elim) (fun _ _ h => h.elim) (fun E ce q9 u t H1 locs ht hvm hp hE hz hk hS hcell hcv hcl => ?_) (fun r_5 u_5 t_5 H_5 locs ht_5 hvm_5 hw_5 hB_5 hz_5 hk_5 hS => hw_5.elim)
  have hE : E = "java/lang/IllegalArgumentException" := hE
  subst hE
  have hP := hP.kept (fun k q hq => hk q.1 (hP k q hq).lt (fun h => h))
  refine vx_catch (own := RL) (name := "java/lang/IllegalArgumentException") hown [] _ [] htab (fun z h => nomatch h) (by decide +kernel) (by decide) (hts (.classLink RL 13 "java/lang/IllegalArgumentException") (by decide +kernel)) (hT.2.2.2.1.use rfl) hcell hcv hcl ?_
  refine lv_astore (lv' := [(4, .ref q9), (0, .ref x), (1, .int y), (2, .int z), (3, .ref out)]) hx hb dL_add_13 hl (by decide) rfl (fun ls hl => ?_)
  refine lv_iconst (v := nI 1) hx hb dL_add_15 (by decide) ?_
  exact W.iret (v := nI 1) hx hb hr (fun t9 ht9 hW9 => ⟨⟨nI 1, [(x, .inr (1, [.ref r, .ref r2, .ref r3]))], rfl, ⟨rfl, rfl⟩, by rw [ht9]; exact hP, va_K.moved hW9.alike hK, hD⟩, hS.F ht9⟩) hS.2.2 dL_add_16
