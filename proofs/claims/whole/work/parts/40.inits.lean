theorem cr_sameA {D : va_G} {cl : List vw_C} {tys : List (ClassId × FieldType)} {U : State} {a b : ClassId} (h : va_K D cl tys U) (i j : Nat) (hi : tys[i]? = some (a, .int)) (hj : tys[j]? = some (b, .int)) : a = b := Option.some.inj (((h.2 i _ hi).2 : U.vm.findClass ("[" ++ FieldType.int.toString) = some a).symm.trans (h.2 j _ hj).2)
theorem cr_preI {dC : Nat → ClassId} {dI : Nat → Nat → Nat} {tys : List (ClassId × FieldType)} {ws : va_W} {av : List Value} {A : Nat → Prop} {s : State} {H : Heap} (hP : va_P (dC, dI) crCl ws H) (hK : va_K (dC, dI) crCl tys s) (hD : va_D A ws) : PreS s H (va_Pc av (cr_pre dC dI tys ws H.size)) av := cr_preS hP hK hD
theorem cr_preIN {dC : Nat → ClassId} {dI : Nat → Nat → Nat} {tys : List (ClassId × FieldType)} {ws : va_W} {av : List Value} {A : Nat → Prop} {s : State} {H : Heap} (hN : cr_NW s) (hP : va_P (dC, dI) crCl ws H) (hK : va_K (dC, dI) crCl tys s) (hD : va_D A ws) : PreS s H (va_Pc av (cr_preN dC dI tys ws H.size)) av := cr_preSN hN hP hK hD
set_option maxHeartbeats 4000000 in
set_option maxRecDepth 100000 in
theorem c_rinit (l : Launch) (dC : Nat → ClassId) (dI : Nat → Nat → Nat) (sz : Nat) (r : Nat) : Met l yX0_init wsX0_init ({ frames := 2, cells := 2, slots := 1536, locals := 60 }) (va_Pc [.ref r] (cr_pre dC dI [] [(r, .inr (0, [.null, .null, .int 0]))] sz)) (va_Qv (fun _ : Nat × Nat × ClassId => True) (fun u t => cr_at dC dI [(u.2.2, .int)] (va_A [(r, .inr (0, [.null, .null, .int 0]))] sz) [(r, .inr (0, [.ref u.1, .ref u.2.1, .int (nI 0)])), (u.1, .inl (u.2.2, 768, .inl (fun _ => 0))), (u.2.1, .inl (u.2.2, 768, .inl (fun _ => 0)))] t) (va_A [(r, .inr (0, [.null, .null, .int 0]))] sz)) 2 1536 (va_A [(r, .inr (0, [.null, .null, .int 0]))] sz) := by
  refine Met.ofW (cc := cX0_init) (maxL := 1) (ret := none) (by decide) rfl ?_
  intro p e s m args below meth c s₁ B hml hv
  obtain ⟨rfl, hsz, hP, hK, hD0⟩ := hv
  have hx := B.exec
  have hb := B.bytes
  have hr := B.returns
  have hts := atoms_spec (ws := wsX0_init) B.pre
  have hown : s.vm.findClass RX0 = some m.cls := findClass_of_methodNamed B.named
  have hlocks := B.notSynchronized
  have hin : meth.name = "<init>" := (name_of_methodNamed B.named B.method).1
  subst hsz
  have hD := hD0.self (sz := s.heap.size)
  generalize hAe : va_A [(r, .inr (0, [.null, .null, .int 0]))] s.heap.size = A at hD ⊢
  have hA : ∀ q : Nat, s.heap.size ≤ q → A q := fun q h => by rw [← hAe]; exact Or.inr h
  have hS : va_S A s.heap s.heap [] := va_S.rf
  have hP : va_P (dC, dI) crCl [(r, .inr (0, [.null, .null, .int 0]))] s.heap := hP
  have hl := lv_entry ([.ref r]) (n := 1) (Nat.le_of_ble_eq_true rfl)
  rw [lg_entry_eq]
  generalize (lg_sl ([.ref r]) ++ List.replicate (1 - (lg_sl ([.ref r])).length) Slot.unset).toArray = ls at hl ⊢
  have hl : lv_has ls 1 [(0, .ref r)] := hl
  refine lv_aload_n hx hb dX0_init_0 rfl (lv_at hl 0 rfl) ?_
  refine W.objInit hx hb hown (hts (.methodLink RX0 1 objectInit) (by decide +kernel)) (hts (.instanceMethod objectInit) (by decide +kernel)) (hts (.code objectInit ⟨#[0xb1]⟩ 1 none) (by decide +kernel)) rfl (by rw [hml]; exact hl.1) rfl dX0_init_1 (Nat.le_of_ble_eq_true rfl) (Nat.le_of_ble_eq_true rfl) ?_
  refine W.eq (g2 := F0 m 4 ls []) rfl ?_
  refine lv_aload_n hx hb dX0_init_4 rfl (lv_at hl 0 rfl) ?_
  refine lv_sipush (v := nI 768) hx hb dX0_init_5 (by decide) ?_
  refine va_newa (atype := .int) (ty := .int) (a0 := (768, .inl (fun _ => 0))) (N' := 768) hx hb (hts (.arrayClass .int) (by decide +kernel)) rfl hK hP hD hS hA (fun _ => rfl) (nI_pos (by omega)) (nI_clamp (by omega)) (by decide) (Nat.le_of_ble_eq_true rfl) (Nat.le_of_ble_eq_true rfl) dX0_init_8 (fun q1 cA1 H hK hP hD hS => ?_)
  have hP : va_P (dC, dI) crCl [(r, .inr (0, [.null, .null, .int 0])), (q1, .inl (cA1, 768, .inl (fun _ => 0)))] H := hP
  have hD : va_D A [(r, .inr (0, [.null, .null, .int 0])), (q1, .inl (cA1, 768, .inl (fun _ => 0)))] := hD
  have hK : va_K (dC, dI) crCl [(cA1, .int)] s := hK
  refine va_putF (D := (dC, dI)) (ci := 0) (v := .ref q1) (ty := (.array .int)) (C := RX0) (T := TX0) (N := 3) hx hb hts (by decide +kernel) tyX0 tyX0_ok nmX0 hown hK hP hD hS 0 rfl rfl 0 (by decide) (hts (.fieldLink RX0 9 "CharRows$Ranges" "lows" "[I") (by decide +kernel)) (fun _ h9 => h9) rfl hin rfl (by decide +kernel) rfl rfl (Nat.le_of_ble_eq_true rfl) dX0_init_10 (fun H locs hP hD hS => ?_)
  have hP : va_P (dC, dI) crCl [(r, .inr (0, [.ref q1, .null, .int 0])), (q1, .inl (cA1, 768, .inl (fun _ => 0)))] H := hP
  have hD : va_D A [(r, .inr (0, [.ref q1, .null, .int 0])), (q1, .inl (cA1, 768, .inl (fun _ => 0)))] := hD
  refine lv_aload_n hx hb dX0_init_13 rfl (lv_at hl 0 rfl) ?_
  refine lv_sipush (v := nI 768) hx hb dX0_init_14 (by decide) ?_
  refine va_newa (atype := .int) (ty := .int) (a0 := (768, .inl (fun _ => 0))) (N' := 768) hx hb (hts (.arrayClass .int) (by decide +kernel)) rfl hK hP hD hS hA (fun _ => rfl) (nI_pos (by omega)) (nI_clamp (by omega)) (by decide) (Nat.le_of_ble_eq_true rfl) (Nat.le_of_ble_eq_true rfl) dX0_init_17 (fun q2 cA2 H hK hP hD hS => ?_)
  have hP : va_P (dC, dI) crCl [(r, .inr (0, [.ref q1, .null, .int 0])), (q1, .inl (cA1, 768, .inl (fun _ => 0))), (q2, .inl (cA2, 768, .inl (fun _ => 0)))] H := hP
  have hD : va_D A [(r, .inr (0, [.ref q1, .null, .int 0])), (q1, .inl (cA1, 768, .inl (fun _ => 0))), (q2, .inl (cA2, 768, .inl (fun _ => 0)))] := hD
  have hK : va_K (dC, dI) crCl [(cA1, .int), (cA2, .int)] s := hK
  obtain rfl : cA1 = cA2 := cr_sameA hK 0 1 rfl rfl
  refine va_putF (D := (dC, dI)) (ci := 0) (v := .ref q2) (ty := (.array .int)) (C := RX0) (T := TX0) (N := 3) hx hb hts (by decide +kernel) tyX0 tyX0_ok nmX0 hown hK hP hD hS 0 rfl rfl 1 (by decide) (hts (.fieldLink RX0 13 "CharRows$Ranges" "highs" "[I") (by decide +kernel)) (fun _ h9 => h9) rfl hin rfl (by decide +kernel) rfl rfl (Nat.le_of_ble_eq_true rfl) dX0_init_19 (fun H locs hP hD hS => ?_)
  have hP : va_P (dC, dI) crCl [(r, .inr (0, [.ref q1, .ref q2, .int 0])), (q1, .inl (cA1, 768, .inl (fun _ => 0))), (q2, .inl (cA1, 768, .inl (fun _ => 0)))] H := hP
  have hD : va_D A [(r, .inr (0, [.ref q1, .ref q2, .int 0])), (q1, .inl (cA1, 768, .inl (fun _ => 0))), (q2, .inl (cA1, 768, .inl (fun _ => 0)))] := hD
  refine lv_aload_n hx hb dX0_init_22 rfl (lv_at hl 0 rfl) ?_
  refine lv_iconst (v := nI 0) hx hb dX0_init_23 (by decide) ?_
  refine va_put (D := (dC, dI)) (ci := 0) (v := .int (nI 0)) (ty := .int) (C := RX0) (T := TX0) (N := 3) hx hb hts (by decide +kernel) tyX0 tyX0_ok nmX0 hown hK hP hD hS 0 rfl rfl 2 (by decide) (hts (.fieldLink RX0 16 "CharRows$Ranges" "count" "I") (by decide +kernel)) (fun _ h9 => h9) rfl (by decide +kernel) rfl rfl (Nat.le_of_ble_eq_true rfl) dX0_init_24 (fun H locs hP hD hS => ?_)
  have hP : va_P (dC, dI) crCl [(r, .inr (0, [.ref q1, .ref q2, .int (nI 0)])), (q1, .inl (cA1, 768, .inl (fun _ => 0))), (q2, .inl (cA1, 768, .inl (fun _ => 0)))] H := hP
  have hD : va_D A [(r, .inr (0, [.ref q1, .ref q2, .int (nI 0)])), (q1, .inl (cA1, 768, .inl (fun _ => 0))), (q2, .inl (cA1, 768, .inl (fun _ => 0)))] := hD
  exact W.vret hx hb hr (fun t9 ht9 hW9 => ⟨⟨(q1, q2, cA1), rfl, trivial, by rw [ht9]; exact hP, va_K.moved hW9.alike (hK.sub (tys' := [(cA1, .int)]) [0] rfl), hD⟩, hS.F ht9⟩) hS.2.2 dX0_init_27
set_option maxHeartbeats 4000000 in
set_option maxRecDepth 100000 in
theorem m_init (l : Launch) (dC : Nat → ClassId) (dI : Nat → Nat → Nat) (sz : Nat) (r : Nat) : Met l yM_init wsM_init ({ frames := 2, cells := 9, slots := 20328, locals := 60 }) (va_Pc [.ref r] (cr_pre dC dI [] [(r, .inr (2, [.int 0, .null, .null, .int 0, .null, .null, .int 0, .null, .null, .int 0, .null, .null, .null, .int 0, .int 0]))] sz)) (va_Qv (fun _ : (Nat → Nat) × ClassId × ClassId => True) (fun u t => cr_at dC dI [(u.2.1, .int), (u.2.2, .boolean)] (va_A [(r, .inr (2, [.int 0, .null, .null, .int 0, .null, .null, .int 0, .null, .null, .int 0, .null, .null, .null, .int 0, .int 0]))] sz) [(r, .inr (2, [.int 0, .ref (u.1 0), .ref (u.1 1), .int 0, .ref (u.1 2), .ref (u.1 3), .int 0, .ref (u.1 4), .ref (u.1 5), .int 0, .ref (u.1 6), .ref (u.1 7), .ref (u.1 8), .int 0, .int 0])), ((u.1 0), .inl (u.2.1, 2400, .inl (fun _ => 0))), ((u.1 1), .inl (u.2.1, 2400, .inl (fun _ => 0))), ((u.1 2), .inl (u.2.1, 2400, .inl (fun _ => 0))), ((u.1 3), .inl (u.2.1, 2400, .inl (fun _ => 0))), ((u.1 4), .inl (u.2.1, 4800, .inl (fun _ => 0))), ((u.1 5), .inl (u.2.1, 4800, .inl (fun _ => 0))), ((u.1 6), .inl (u.2.2, 1120, .inl (fun _ => 0))), ((u.1 7), .inl (u.2.1, 4, .inl (fun _ => 0))), ((u.1 8), .inl (u.2.1, 4, .inl (fun _ => 0)))] t) (va_A [(r, .inr (2, [.int 0, .null, .null, .int 0, .null, .null, .int 0, .null, .null, .int 0, .null, .null, .null, .int 0, .int 0]))] sz)) 9 20328 (va_A [(r, .inr (2, [.int 0, .null, .null, .int 0, .null, .null, .int 0, .null, .null, .int 0, .null, .null, .null, .int 0, .int 0]))] sz) := by
  refine Met.ofW (cc := cM_init) (maxL := 1) (ret := none) (by decide) rfl ?_
  intro p e s m args below meth c s₁ B hml hv
  obtain ⟨rfl, hsz, hP, hK, hD0⟩ := hv
  have hx := B.exec
  have hb := B.bytes
  have hr := B.returns
  have hts := atoms_spec (ws := wsM_init) B.pre
  have hown : s.vm.findClass RX2 = some m.cls := findClass_of_methodNamed B.named
  have hlocks := B.notSynchronized
  have hin : meth.name = "<init>" := (name_of_methodNamed B.named B.method).1
  subst hsz
  have hD := hD0.self (sz := s.heap.size)
  generalize hAe : va_A [(r, .inr (2, [.int 0, .null, .null, .int 0, .null, .null, .int 0, .null, .null, .int 0, .null, .null, .null, .int 0, .int 0]))] s.heap.size = A at hD ⊢
  have hA : ∀ q : Nat, s.heap.size ≤ q → A q := fun q h => by rw [← hAe]; exact Or.inr h
  have hS : va_S A s.heap s.heap [] := va_S.rf
  have hP : va_P (dC, dI) crCl [(r, .inr (2, [.int 0, .null, .null, .int 0, .null, .null, .int 0, .null, .null, .int 0, .null, .null, .null, .int 0, .int 0]))] s.heap := hP
  have hl := lv_entry ([.ref r]) (n := 1) (Nat.le_of_ble_eq_true rfl)
  rw [lg_entry_eq]
  generalize (lg_sl ([.ref r]) ++ List.replicate (1 - (lg_sl ([.ref r])).length) Slot.unset).toArray = ls at hl ⊢
  have hl : lv_has ls 1 [(0, .ref r)] := hl
  refine lv_aload_n hx hb dM_init_0 rfl (lv_at hl 0 rfl) ?_
  refine W.objInit hx hb hown (hts (.methodLink RX2 1 objectInit) (by decide +kernel)) (hts (.instanceMethod objectInit) (by decide +kernel)) (hts (.code objectInit ⟨#[0xb1]⟩ 1 none) (by decide +kernel)) rfl (by rw [hml]; exact hl.1) rfl dM_init_1 (Nat.le_of_ble_eq_true rfl) (Nat.le_of_ble_eq_true rfl) ?_
  refine W.eq (g2 := F0 m 4 ls []) rfl ?_
  refine lv_aload_n hx hb dM_init_4 rfl (lv_at hl 0 rfl) ?_
  refine lv_sipush (v := nI 2400) hx hb dM_init_5 (by decide) ?_
  refine va_newa (atype := .int) (ty := .int) (a0 := (2400, .inl (fun _ => 0))) (N' := 2400) hx hb (hts (.arrayClass .int) (by decide +kernel)) rfl hK hP hD hS hA (fun _ => rfl) (nI_pos (by omega)) (nI_clamp (by omega)) (by decide) (Nat.le_of_ble_eq_true rfl) (Nat.le_of_ble_eq_true rfl) dM_init_8 (fun l1 cA1 H hK hP hD hS => ?_)
  have hP : va_P (dC, dI) crCl [(r, .inr (2, [.int 0, .null, .null, .int 0, .null, .null, .int 0, .null, .null, .int 0, .null, .null, .null, .int 0, .int 0])), (l1, .inl (cA1, 2400, .inl (fun _ => 0)))] H := hP
  have hD : va_D A [(r, .inr (2, [.int 0, .null, .null, .int 0, .null, .null, .int 0, .null, .null, .int 0, .null, .null, .null, .int 0, .int 0])), (l1, .inl (cA1, 2400, .inl (fun _ => 0)))] := hD
  have hK : va_K (dC, dI) crCl [(cA1, .int)] s := hK
  refine va_putF (D := (dC, dI)) (ci := 2) (v := .ref l1) (ty := (.array .int)) (C := RX2) (T := TM) (N := 15) hx hb hts (by decide +kernel) tyM tyM_ok nmM hown hK hP hD hS 0 rfl rfl 1 (by decide) (hts (.fieldLink RX2 7 "CharRowsModel" "low" "[I") (by decide +kernel)) (fun _ h9 => h9) rfl hin rfl (by decide +kernel) rfl rfl (Nat.le_of_ble_eq_true rfl) dM_init_10 (fun H locs hP hD hS => ?_)
  have hP : va_P (dC, dI) crCl [(r, .inr (2, [.int 0, .ref l1, .null, .int 0, .null, .null, .int 0, .null, .null, .int 0, .null, .null, .null, .int 0, .int 0])), (l1, .inl (cA1, 2400, .inl (fun _ => 0)))] H := hP
  have hD : va_D A [(r, .inr (2, [.int 0, .ref l1, .null, .int 0, .null, .null, .int 0, .null, .null, .int 0, .null, .null, .null, .int 0, .int 0])), (l1, .inl (cA1, 2400, .inl (fun _ => 0)))] := hD
  refine lv_aload_n hx hb dM_init_13 rfl (lv_at hl 0 rfl) ?_
  refine lv_sipush (v := nI 2400) hx hb dM_init_14 (by decide) ?_
  refine va_newa (atype := .int) (ty := .int) (a0 := (2400, .inl (fun _ => 0))) (N' := 2400) hx hb (hts (.arrayClass .int) (by decide +kernel)) rfl hK hP hD hS hA (fun _ => rfl) (nI_pos (by omega)) (nI_clamp (by omega)) (by decide) (Nat.le_of_ble_eq_true rfl) (Nat.le_of_ble_eq_true rfl) dM_init_17 (fun l2 cA2 H hK hP hD hS => ?_)
  have hP : va_P (dC, dI) crCl [(r, .inr (2, [.int 0, .ref l1, .null, .int 0, .null, .null, .int 0, .null, .null, .int 0, .null, .null, .null, .int 0, .int 0])), (l1, .inl (cA1, 2400, .inl (fun _ => 0))), (l2, .inl (cA2, 2400, .inl (fun _ => 0)))] H := hP
  have hD : va_D A [(r, .inr (2, [.int 0, .ref l1, .null, .int 0, .null, .null, .int 0, .null, .null, .int 0, .null, .null, .null, .int 0, .int 0])), (l1, .inl (cA1, 2400, .inl (fun _ => 0))), (l2, .inl (cA2, 2400, .inl (fun _ => 0)))] := hD
  have hK : va_K (dC, dI) crCl [(cA1, .int), (cA2, .int)] s := hK
  obtain rfl : cA1 = cA2 := cr_sameA hK 0 1 rfl rfl
  refine va_putF (D := (dC, dI)) (ci := 2) (v := .ref l2) (ty := (.array .int)) (C := RX2) (T := TM) (N := 15) hx hb hts (by decide +kernel) tyM tyM_ok nmM hown hK hP hD hS 0 rfl rfl 2 (by decide) (hts (.fieldLink RX2 13 "CharRowsModel" "high" "[I") (by decide +kernel)) (fun _ h9 => h9) rfl hin rfl (by decide +kernel) rfl rfl (Nat.le_of_ble_eq_true rfl) dM_init_19 (fun H locs hP hD hS => ?_)
  have hP : va_P (dC, dI) crCl [(r, .inr (2, [.int 0, .ref l1, .ref l2, .int 0, .null, .null, .int 0, .null, .null, .int 0, .null, .null, .null, .int 0, .int 0])), (l1, .inl (cA1, 2400, .inl (fun _ => 0))), (l2, .inl (cA1, 2400, .inl (fun _ => 0)))] H := hP
  have hD : va_D A [(r, .inr (2, [.int 0, .ref l1, .ref l2, .int 0, .null, .null, .int 0, .null, .null, .int 0, .null, .null, .null, .int 0, .int 0])), (l1, .inl (cA1, 2400, .inl (fun _ => 0))), (l2, .inl (cA1, 2400, .inl (fun _ => 0)))] := hD
  refine lv_aload_n hx hb dM_init_22 rfl (lv_at hl 0 rfl) ?_
  refine lv_sipush (v := nI 2400) hx hb dM_init_23 (by decide) ?_
  refine va_newa (atype := .int) (ty := .int) (a0 := (2400, .inl (fun _ => 0))) (N' := 2400) hx hb (hts (.arrayClass .int) (by decide +kernel)) rfl hK hP hD hS hA (fun _ => rfl) (nI_pos (by omega)) (nI_clamp (by omega)) (by decide) (Nat.le_of_ble_eq_true rfl) (Nat.le_of_ble_eq_true rfl) dM_init_26 (fun l3 cA3 H hK hP hD hS => ?_)
  have hP : va_P (dC, dI) crCl [(r, .inr (2, [.int 0, .ref l1, .ref l2, .int 0, .null, .null, .int 0, .null, .null, .int 0, .null, .null, .null, .int 0, .int 0])), (l1, .inl (cA1, 2400, .inl (fun _ => 0))), (l2, .inl (cA1, 2400, .inl (fun _ => 0))), (l3, .inl (cA3, 2400, .inl (fun _ => 0)))] H := hP
  have hD : va_D A [(r, .inr (2, [.int 0, .ref l1, .ref l2, .int 0, .null, .null, .int 0, .null, .null, .int 0, .null, .null, .null, .int 0, .int 0])), (l1, .inl (cA1, 2400, .inl (fun _ => 0))), (l2, .inl (cA1, 2400, .inl (fun _ => 0))), (l3, .inl (cA3, 2400, .inl (fun _ => 0)))] := hD
  have hK : va_K (dC, dI) crCl [(cA1, .int), (cA1, .int), (cA3, .int)] s := hK
  obtain rfl : cA1 = cA3 := cr_sameA hK 0 2 rfl rfl
  refine va_putF (D := (dC, dI)) (ci := 2) (v := .ref l3) (ty := (.array .int)) (C := RX2) (T := TM) (N := 15) hx hb hts (by decide +kernel) tyM tyM_ok nmM hown hK hP hD hS 0 rfl rfl 4 (by decide) (hts (.fieldLink RX2 16 "CharRowsModel" "keptLow" "[I") (by decide +kernel)) (fun _ h9 => h9) rfl hin rfl (by decide +kernel) rfl rfl (Nat.le_of_ble_eq_true rfl) dM_init_28 (fun H locs hP hD hS => ?_)
  have hP : va_P (dC, dI) crCl [(r, .inr (2, [.int 0, .ref l1, .ref l2, .int 0, .ref l3, .null, .int 0, .null, .null, .int 0, .null, .null, .null, .int 0, .int 0])), (l1, .inl (cA1, 2400, .inl (fun _ => 0))), (l2, .inl (cA1, 2400, .inl (fun _ => 0))), (l3, .inl (cA1, 2400, .inl (fun _ => 0)))] H := hP
  have hD : va_D A [(r, .inr (2, [.int 0, .ref l1, .ref l2, .int 0, .ref l3, .null, .int 0, .null, .null, .int 0, .null, .null, .null, .int 0, .int 0])), (l1, .inl (cA1, 2400, .inl (fun _ => 0))), (l2, .inl (cA1, 2400, .inl (fun _ => 0))), (l3, .inl (cA1, 2400, .inl (fun _ => 0)))] := hD
  refine lv_aload_n hx hb dM_init_31 rfl (lv_at hl 0 rfl) ?_
  refine lv_sipush (v := nI 2400) hx hb dM_init_32 (by decide) ?_
  refine va_newa (atype := .int) (ty := .int) (a0 := (2400, .inl (fun _ => 0))) (N' := 2400) hx hb (hts (.arrayClass .int) (by decide +kernel)) rfl hK hP hD hS hA (fun _ => rfl) (nI_pos (by omega)) (nI_clamp (by omega)) (by decide) (Nat.le_of_ble_eq_true rfl) (Nat.le_of_ble_eq_true rfl) dM_init_35 (fun l4 cA4 H hK hP hD hS => ?_)
  have hP : va_P (dC, dI) crCl [(r, .inr (2, [.int 0, .ref l1, .ref l2, .int 0, .ref l3, .null, .int 0, .null, .null, .int 0, .null, .null, .null, .int 0, .int 0])), (l1, .inl (cA1, 2400, .inl (fun _ => 0))), (l2, .inl (cA1, 2400, .inl (fun _ => 0))), (l3, .inl (cA1, 2400, .inl (fun _ => 0))), (l4, .inl (cA4, 2400, .inl (fun _ => 0)))] H := hP
  have hD : va_D A [(r, .inr (2, [.int 0, .ref l1, .ref l2, .int 0, .ref l3, .null, .int 0, .null, .null, .int 0, .null, .null, .null, .int 0, .int 0])), (l1, .inl (cA1, 2400, .inl (fun _ => 0))), (l2, .inl (cA1, 2400, .inl (fun _ => 0))), (l3, .inl (cA1, 2400, .inl (fun _ => 0))), (l4, .inl (cA4, 2400, .inl (fun _ => 0)))] := hD
  have hK : va_K (dC, dI) crCl [(cA1, .int), (cA1, .int), (cA1, .int), (cA4, .int)] s := hK
  obtain rfl : cA1 = cA4 := cr_sameA hK 0 3 rfl rfl
  refine va_putF (D := (dC, dI)) (ci := 2) (v := .ref l4) (ty := (.array .int)) (C := RX2) (T := TM) (N := 15) hx hb hts (by decide +kernel) tyM tyM_ok nmM hown hK hP hD hS 0 rfl rfl 5 (by decide) (hts (.fieldLink RX2 19 "CharRowsModel" "keptHigh" "[I") (by decide +kernel)) (fun _ h9 => h9) rfl hin rfl (by decide +kernel) rfl rfl (Nat.le_of_ble_eq_true rfl) dM_init_37 (fun H locs hP hD hS => ?_)
  have hP : va_P (dC, dI) crCl [(r, .inr (2, [.int 0, .ref l1, .ref l2, .int 0, .ref l3, .ref l4, .int 0, .null, .null, .int 0, .null, .null, .null, .int 0, .int 0])), (l1, .inl (cA1, 2400, .inl (fun _ => 0))), (l2, .inl (cA1, 2400, .inl (fun _ => 0))), (l3, .inl (cA1, 2400, .inl (fun _ => 0))), (l4, .inl (cA1, 2400, .inl (fun _ => 0)))] H := hP
  have hD : va_D A [(r, .inr (2, [.int 0, .ref l1, .ref l2, .int 0, .ref l3, .ref l4, .int 0, .null, .null, .int 0, .null, .null, .null, .int 0, .int 0])), (l1, .inl (cA1, 2400, .inl (fun _ => 0))), (l2, .inl (cA1, 2400, .inl (fun _ => 0))), (l3, .inl (cA1, 2400, .inl (fun _ => 0))), (l4, .inl (cA1, 2400, .inl (fun _ => 0)))] := hD
  refine lv_aload_n hx hb dM_init_40 rfl (lv_at hl 0 rfl) ?_
  refine lv_sipush (v := nI 4800) hx hb dM_init_41 (by decide) ?_
  refine va_newa (atype := .int) (ty := .int) (a0 := (4800, .inl (fun _ => 0))) (N' := 4800) hx hb (hts (.arrayClass .int) (by decide +kernel)) rfl hK hP hD hS hA (fun _ => rfl) (nI_pos (by omega)) (nI_clamp (by omega)) (by decide) (Nat.le_of_ble_eq_true rfl) (Nat.le_of_ble_eq_true rfl) dM_init_44 (fun l5 cA5 H hK hP hD hS => ?_)
  have hP : va_P (dC, dI) crCl [(r, .inr (2, [.int 0, .ref l1, .ref l2, .int 0, .ref l3, .ref l4, .int 0, .null, .null, .int 0, .null, .null, .null, .int 0, .int 0])), (l1, .inl (cA1, 2400, .inl (fun _ => 0))), (l2, .inl (cA1, 2400, .inl (fun _ => 0))), (l3, .inl (cA1, 2400, .inl (fun _ => 0))), (l4, .inl (cA1, 2400, .inl (fun _ => 0))), (l5, .inl (cA5, 4800, .inl (fun _ => 0)))] H := hP
  have hD : va_D A [(r, .inr (2, [.int 0, .ref l1, .ref l2, .int 0, .ref l3, .ref l4, .int 0, .null, .null, .int 0, .null, .null, .null, .int 0, .int 0])), (l1, .inl (cA1, 2400, .inl (fun _ => 0))), (l2, .inl (cA1, 2400, .inl (fun _ => 0))), (l3, .inl (cA1, 2400, .inl (fun _ => 0))), (l4, .inl (cA1, 2400, .inl (fun _ => 0))), (l5, .inl (cA5, 4800, .inl (fun _ => 0)))] := hD
  have hK : va_K (dC, dI) crCl [(cA1, .int), (cA1, .int), (cA1, .int), (cA1, .int), (cA5, .int)] s := hK
  obtain rfl : cA1 = cA5 := cr_sameA hK 0 4 rfl rfl
  refine va_putF (D := (dC, dI)) (ci := 2) (v := .ref l5) (ty := (.array .int)) (C := RX2) (T := TM) (N := 15) hx hb hts (by decide +kernel) tyM tyM_ok nmM hown hK hP hD hS 0 rfl rfl 7 (by decide) (hts (.fieldLink RX2 22 "CharRowsModel" "newLow" "[I") (by decide +kernel)) (fun _ h9 => h9) rfl hin rfl (by decide +kernel) rfl rfl (Nat.le_of_ble_eq_true rfl) dM_init_46 (fun H locs hP hD hS => ?_)
  have hP : va_P (dC, dI) crCl [(r, .inr (2, [.int 0, .ref l1, .ref l2, .int 0, .ref l3, .ref l4, .int 0, .ref l5, .null, .int 0, .null, .null, .null, .int 0, .int 0])), (l1, .inl (cA1, 2400, .inl (fun _ => 0))), (l2, .inl (cA1, 2400, .inl (fun _ => 0))), (l3, .inl (cA1, 2400, .inl (fun _ => 0))), (l4, .inl (cA1, 2400, .inl (fun _ => 0))), (l5, .inl (cA1, 4800, .inl (fun _ => 0)))] H := hP
  have hD : va_D A [(r, .inr (2, [.int 0, .ref l1, .ref l2, .int 0, .ref l3, .ref l4, .int 0, .ref l5, .null, .int 0, .null, .null, .null, .int 0, .int 0])), (l1, .inl (cA1, 2400, .inl (fun _ => 0))), (l2, .inl (cA1, 2400, .inl (fun _ => 0))), (l3, .inl (cA1, 2400, .inl (fun _ => 0))), (l4, .inl (cA1, 2400, .inl (fun _ => 0))), (l5, .inl (cA1, 4800, .inl (fun _ => 0)))] := hD
  refine lv_aload_n hx hb dM_init_49 rfl (lv_at hl 0 rfl) ?_
  refine lv_sipush (v := nI 4800) hx hb dM_init_50 (by decide) ?_
  refine va_newa (atype := .int) (ty := .int) (a0 := (4800, .inl (fun _ => 0))) (N' := 4800) hx hb (hts (.arrayClass .int) (by decide +kernel)) rfl hK hP hD hS hA (fun _ => rfl) (nI_pos (by omega)) (nI_clamp (by omega)) (by decide) (Nat.le_of_ble_eq_true rfl) (Nat.le_of_ble_eq_true rfl) dM_init_53 (fun l6 cA6 H hK hP hD hS => ?_)
  have hP : va_P (dC, dI) crCl [(r, .inr (2, [.int 0, .ref l1, .ref l2, .int 0, .ref l3, .ref l4, .int 0, .ref l5, .null, .int 0, .null, .null, .null, .int 0, .int 0])), (l1, .inl (cA1, 2400, .inl (fun _ => 0))), (l2, .inl (cA1, 2400, .inl (fun _ => 0))), (l3, .inl (cA1, 2400, .inl (fun _ => 0))), (l4, .inl (cA1, 2400, .inl (fun _ => 0))), (l5, .inl (cA1, 4800, .inl (fun _ => 0))), (l6, .inl (cA6, 4800, .inl (fun _ => 0)))] H := hP
  have hD : va_D A [(r, .inr (2, [.int 0, .ref l1, .ref l2, .int 0, .ref l3, .ref l4, .int 0, .ref l5, .null, .int 0, .null, .null, .null, .int 0, .int 0])), (l1, .inl (cA1, 2400, .inl (fun _ => 0))), (l2, .inl (cA1, 2400, .inl (fun _ => 0))), (l3, .inl (cA1, 2400, .inl (fun _ => 0))), (l4, .inl (cA1, 2400, .inl (fun _ => 0))), (l5, .inl (cA1, 4800, .inl (fun _ => 0))), (l6, .inl (cA6, 4800, .inl (fun _ => 0)))] := hD
  have hK : va_K (dC, dI) crCl [(cA1, .int), (cA1, .int), (cA1, .int), (cA1, .int), (cA1, .int), (cA6, .int)] s := hK
  obtain rfl : cA1 = cA6 := cr_sameA hK 0 5 rfl rfl
  refine va_putF (D := (dC, dI)) (ci := 2) (v := .ref l6) (ty := (.array .int)) (C := RX2) (T := TM) (N := 15) hx hb hts (by decide +kernel) tyM tyM_ok nmM hown hK hP hD hS 0 rfl rfl 8 (by decide) (hts (.fieldLink RX2 25 "CharRowsModel" "newHigh" "[I") (by decide +kernel)) (fun _ h9 => h9) rfl hin rfl (by decide +kernel) rfl rfl (Nat.le_of_ble_eq_true rfl) dM_init_55 (fun H locs hP hD hS => ?_)
  have hP : va_P (dC, dI) crCl [(r, .inr (2, [.int 0, .ref l1, .ref l2, .int 0, .ref l3, .ref l4, .int 0, .ref l5, .ref l6, .int 0, .null, .null, .null, .int 0, .int 0])), (l1, .inl (cA1, 2400, .inl (fun _ => 0))), (l2, .inl (cA1, 2400, .inl (fun _ => 0))), (l3, .inl (cA1, 2400, .inl (fun _ => 0))), (l4, .inl (cA1, 2400, .inl (fun _ => 0))), (l5, .inl (cA1, 4800, .inl (fun _ => 0))), (l6, .inl (cA1, 4800, .inl (fun _ => 0)))] H := hP
  have hD : va_D A [(r, .inr (2, [.int 0, .ref l1, .ref l2, .int 0, .ref l3, .ref l4, .int 0, .ref l5, .ref l6, .int 0, .null, .null, .null, .int 0, .int 0])), (l1, .inl (cA1, 2400, .inl (fun _ => 0))), (l2, .inl (cA1, 2400, .inl (fun _ => 0))), (l3, .inl (cA1, 2400, .inl (fun _ => 0))), (l4, .inl (cA1, 2400, .inl (fun _ => 0))), (l5, .inl (cA1, 4800, .inl (fun _ => 0))), (l6, .inl (cA1, 4800, .inl (fun _ => 0)))] := hD
  refine lv_aload_n hx hb dM_init_58 rfl (lv_at hl 0 rfl) ?_
  refine lv_sipush (v := nI 1120) hx hb dM_init_59 (by decide) ?_
  refine va_newa (atype := .boolean) (ty := .boolean) (a0 := (1120, .inl (fun _ => 0))) (N' := 1120) hx hb (hts (.arrayClass .boolean) (by decide +kernel)) rfl hK hP hD hS hA (fun _ => rfl) (nI_pos (by omega)) (nI_clamp (by omega)) (by decide) (Nat.le_of_ble_eq_true rfl) (Nat.le_of_ble_eq_true rfl) dM_init_62 (fun l7 cA7 H hK hP hD hS => ?_)
  have hP : va_P (dC, dI) crCl [(r, .inr (2, [.int 0, .ref l1, .ref l2, .int 0, .ref l3, .ref l4, .int 0, .ref l5, .ref l6, .int 0, .null, .null, .null, .int 0, .int 0])), (l1, .inl (cA1, 2400, .inl (fun _ => 0))), (l2, .inl (cA1, 2400, .inl (fun _ => 0))), (l3, .inl (cA1, 2400, .inl (fun _ => 0))), (l4, .inl (cA1, 2400, .inl (fun _ => 0))), (l5, .inl (cA1, 4800, .inl (fun _ => 0))), (l6, .inl (cA1, 4800, .inl (fun _ => 0))), (l7, .inl (cA7, 1120, .inl (fun _ => 0)))] H := hP
  have hD : va_D A [(r, .inr (2, [.int 0, .ref l1, .ref l2, .int 0, .ref l3, .ref l4, .int 0, .ref l5, .ref l6, .int 0, .null, .null, .null, .int 0, .int 0])), (l1, .inl (cA1, 2400, .inl (fun _ => 0))), (l2, .inl (cA1, 2400, .inl (fun _ => 0))), (l3, .inl (cA1, 2400, .inl (fun _ => 0))), (l4, .inl (cA1, 2400, .inl (fun _ => 0))), (l5, .inl (cA1, 4800, .inl (fun _ => 0))), (l6, .inl (cA1, 4800, .inl (fun _ => 0))), (l7, .inl (cA7, 1120, .inl (fun _ => 0)))] := hD
  have hK : va_K (dC, dI) crCl [(cA1, .int), (cA1, .int), (cA1, .int), (cA1, .int), (cA1, .int), (cA1, .int), (cA7, .boolean)] s := hK
  refine va_putF (D := (dC, dI)) (ci := 2) (v := .ref l7) (ty := (.array .boolean)) (C := RX2) (T := TM) (N := 15) hx hb hts (by decide +kernel) tyM tyM_ok nmM hown hK hP hD hS 0 rfl rfl 10 (by decide) (hts (.fieldLink RX2 28 "CharRowsModel" "met" "[Z") (by decide +kernel)) (fun _ h9 => h9) rfl hin rfl (by decide +kernel) rfl rfl (Nat.le_of_ble_eq_true rfl) dM_init_64 (fun H locs hP hD hS => ?_)
  have hP : va_P (dC, dI) crCl [(r, .inr (2, [.int 0, .ref l1, .ref l2, .int 0, .ref l3, .ref l4, .int 0, .ref l5, .ref l6, .int 0, .ref l7, .null, .null, .int 0, .int 0])), (l1, .inl (cA1, 2400, .inl (fun _ => 0))), (l2, .inl (cA1, 2400, .inl (fun _ => 0))), (l3, .inl (cA1, 2400, .inl (fun _ => 0))), (l4, .inl (cA1, 2400, .inl (fun _ => 0))), (l5, .inl (cA1, 4800, .inl (fun _ => 0))), (l6, .inl (cA1, 4800, .inl (fun _ => 0))), (l7, .inl (cA7, 1120, .inl (fun _ => 0)))] H := hP
  have hD : va_D A [(r, .inr (2, [.int 0, .ref l1, .ref l2, .int 0, .ref l3, .ref l4, .int 0, .ref l5, .ref l6, .int 0, .ref l7, .null, .null, .int 0, .int 0])), (l1, .inl (cA1, 2400, .inl (fun _ => 0))), (l2, .inl (cA1, 2400, .inl (fun _ => 0))), (l3, .inl (cA1, 2400, .inl (fun _ => 0))), (l4, .inl (cA1, 2400, .inl (fun _ => 0))), (l5, .inl (cA1, 4800, .inl (fun _ => 0))), (l6, .inl (cA1, 4800, .inl (fun _ => 0))), (l7, .inl (cA7, 1120, .inl (fun _ => 0)))] := hD
  refine lv_aload_n hx hb dM_init_67 rfl (lv_at hl 0 rfl) ?_
  refine lv_iconst (v := nI 4) hx hb dM_init_68 (by decide) ?_
  refine va_newa (atype := .int) (ty := .int) (a0 := (4, .inl (fun _ => 0))) (N' := 4) hx hb (hts (.arrayClass .int) (by decide +kernel)) rfl hK hP hD hS hA (fun _ => rfl) (nI_pos (by omega)) (nI_clamp (by omega)) (by decide) (Nat.le_of_ble_eq_true rfl) (Nat.le_of_ble_eq_true rfl) dM_init_69 (fun l8 cA8 H hK hP hD hS => ?_)
  have hP : va_P (dC, dI) crCl [(r, .inr (2, [.int 0, .ref l1, .ref l2, .int 0, .ref l3, .ref l4, .int 0, .ref l5, .ref l6, .int 0, .ref l7, .null, .null, .int 0, .int 0])), (l1, .inl (cA1, 2400, .inl (fun _ => 0))), (l2, .inl (cA1, 2400, .inl (fun _ => 0))), (l3, .inl (cA1, 2400, .inl (fun _ => 0))), (l4, .inl (cA1, 2400, .inl (fun _ => 0))), (l5, .inl (cA1, 4800, .inl (fun _ => 0))), (l6, .inl (cA1, 4800, .inl (fun _ => 0))), (l7, .inl (cA7, 1120, .inl (fun _ => 0))), (l8, .inl (cA8, 4, .inl (fun _ => 0)))] H := hP
  have hD : va_D A [(r, .inr (2, [.int 0, .ref l1, .ref l2, .int 0, .ref l3, .ref l4, .int 0, .ref l5, .ref l6, .int 0, .ref l7, .null, .null, .int 0, .int 0])), (l1, .inl (cA1, 2400, .inl (fun _ => 0))), (l2, .inl (cA1, 2400, .inl (fun _ => 0))), (l3, .inl (cA1, 2400, .inl (fun _ => 0))), (l4, .inl (cA1, 2400, .inl (fun _ => 0))), (l5, .inl (cA1, 4800, .inl (fun _ => 0))), (l6, .inl (cA1, 4800, .inl (fun _ => 0))), (l7, .inl (cA7, 1120, .inl (fun _ => 0))), (l8, .inl (cA8, 4, .inl (fun _ => 0)))] := hD
  have hK : va_K (dC, dI) crCl [(cA1, .int), (cA1, .int), (cA1, .int), (cA1, .int), (cA1, .int), (cA1, .int), (cA7, .boolean), (cA8, .int)] s := hK
  obtain rfl : cA1 = cA8 := cr_sameA hK 0 7 rfl rfl
  refine va_putF (D := (dC, dI)) (ci := 2) (v := .ref l8) (ty := (.array .int)) (C := RX2) (T := TM) (N := 15) hx hb hts (by decide +kernel) tyM tyM_ok nmM hown hK hP hD hS 0 rfl rfl 11 (by decide) (hts (.fieldLink RX2 32 "CharRowsModel" "from" "[I") (by decide +kernel)) (fun _ h9 => h9) rfl hin rfl (by decide +kernel) rfl rfl (Nat.le_of_ble_eq_true rfl) dM_init_71 (fun H locs hP hD hS => ?_)
  have hP : va_P (dC, dI) crCl [(r, .inr (2, [.int 0, .ref l1, .ref l2, .int 0, .ref l3, .ref l4, .int 0, .ref l5, .ref l6, .int 0, .ref l7, .ref l8, .null, .int 0, .int 0])), (l1, .inl (cA1, 2400, .inl (fun _ => 0))), (l2, .inl (cA1, 2400, .inl (fun _ => 0))), (l3, .inl (cA1, 2400, .inl (fun _ => 0))), (l4, .inl (cA1, 2400, .inl (fun _ => 0))), (l5, .inl (cA1, 4800, .inl (fun _ => 0))), (l6, .inl (cA1, 4800, .inl (fun _ => 0))), (l7, .inl (cA7, 1120, .inl (fun _ => 0))), (l8, .inl (cA1, 4, .inl (fun _ => 0)))] H := hP
  have hD : va_D A [(r, .inr (2, [.int 0, .ref l1, .ref l2, .int 0, .ref l3, .ref l4, .int 0, .ref l5, .ref l6, .int 0, .ref l7, .ref l8, .null, .int 0, .int 0])), (l1, .inl (cA1, 2400, .inl (fun _ => 0))), (l2, .inl (cA1, 2400, .inl (fun _ => 0))), (l3, .inl (cA1, 2400, .inl (fun _ => 0))), (l4, .inl (cA1, 2400, .inl (fun _ => 0))), (l5, .inl (cA1, 4800, .inl (fun _ => 0))), (l6, .inl (cA1, 4800, .inl (fun _ => 0))), (l7, .inl (cA7, 1120, .inl (fun _ => 0))), (l8, .inl (cA1, 4, .inl (fun _ => 0)))] := hD
  refine lv_aload_n hx hb dM_init_74 rfl (lv_at hl 0 rfl) ?_
  refine lv_iconst (v := nI 4) hx hb dM_init_75 (by decide) ?_
  refine va_newa (atype := .int) (ty := .int) (a0 := (4, .inl (fun _ => 0))) (N' := 4) hx hb (hts (.arrayClass .int) (by decide +kernel)) rfl hK hP hD hS hA (fun _ => rfl) (nI_pos (by omega)) (nI_clamp (by omega)) (by decide) (Nat.le_of_ble_eq_true rfl) (Nat.le_of_ble_eq_true rfl) dM_init_76 (fun l9 cA9 H hK hP hD hS => ?_)
  have hP : va_P (dC, dI) crCl [(r, .inr (2, [.int 0, .ref l1, .ref l2, .int 0, .ref l3, .ref l4, .int 0, .ref l5, .ref l6, .int 0, .ref l7, .ref l8, .null, .int 0, .int 0])), (l1, .inl (cA1, 2400, .inl (fun _ => 0))), (l2, .inl (cA1, 2400, .inl (fun _ => 0))), (l3, .inl (cA1, 2400, .inl (fun _ => 0))), (l4, .inl (cA1, 2400, .inl (fun _ => 0))), (l5, .inl (cA1, 4800, .inl (fun _ => 0))), (l6, .inl (cA1, 4800, .inl (fun _ => 0))), (l7, .inl (cA7, 1120, .inl (fun _ => 0))), (l8, .inl (cA1, 4, .inl (fun _ => 0))), (l9, .inl (cA9, 4, .inl (fun _ => 0)))] H := hP
  have hD : va_D A [(r, .inr (2, [.int 0, .ref l1, .ref l2, .int 0, .ref l3, .ref l4, .int 0, .ref l5, .ref l6, .int 0, .ref l7, .ref l8, .null, .int 0, .int 0])), (l1, .inl (cA1, 2400, .inl (fun _ => 0))), (l2, .inl (cA1, 2400, .inl (fun _ => 0))), (l3, .inl (cA1, 2400, .inl (fun _ => 0))), (l4, .inl (cA1, 2400, .inl (fun _ => 0))), (l5, .inl (cA1, 4800, .inl (fun _ => 0))), (l6, .inl (cA1, 4800, .inl (fun _ => 0))), (l7, .inl (cA7, 1120, .inl (fun _ => 0))), (l8, .inl (cA1, 4, .inl (fun _ => 0))), (l9, .inl (cA9, 4, .inl (fun _ => 0)))] := hD
  have hK : va_K (dC, dI) crCl [(cA1, .int), (cA1, .int), (cA1, .int), (cA1, .int), (cA1, .int), (cA1, .int), (cA7, .boolean), (cA1, .int), (cA9, .int)] s := hK
  obtain rfl : cA1 = cA9 := cr_sameA hK 0 8 rfl rfl
  refine va_putF (D := (dC, dI)) (ci := 2) (v := .ref l9) (ty := (.array .int)) (C := RX2) (T := TM) (N := 15) hx hb hts (by decide +kernel) tyM tyM_ok nmM hown hK hP hD hS 0 rfl rfl 12 (by decide) (hts (.fieldLink RX2 35 "CharRowsModel" "to" "[I") (by decide +kernel)) (fun _ h9 => h9) rfl hin rfl (by decide +kernel) rfl rfl (Nat.le_of_ble_eq_true rfl) dM_init_78 (fun H locs hP hD hS => ?_)
  have hP : va_P (dC, dI) crCl [(r, .inr (2, [.int 0, .ref l1, .ref l2, .int 0, .ref l3, .ref l4, .int 0, .ref l5, .ref l6, .int 0, .ref l7, .ref l8, .ref l9, .int 0, .int 0])), (l1, .inl (cA1, 2400, .inl (fun _ => 0))), (l2, .inl (cA1, 2400, .inl (fun _ => 0))), (l3, .inl (cA1, 2400, .inl (fun _ => 0))), (l4, .inl (cA1, 2400, .inl (fun _ => 0))), (l5, .inl (cA1, 4800, .inl (fun _ => 0))), (l6, .inl (cA1, 4800, .inl (fun _ => 0))), (l7, .inl (cA7, 1120, .inl (fun _ => 0))), (l8, .inl (cA1, 4, .inl (fun _ => 0))), (l9, .inl (cA1, 4, .inl (fun _ => 0)))] H := hP
  have hD : va_D A [(r, .inr (2, [.int 0, .ref l1, .ref l2, .int 0, .ref l3, .ref l4, .int 0, .ref l5, .ref l6, .int 0, .ref l7, .ref l8, .ref l9, .int 0, .int 0])), (l1, .inl (cA1, 2400, .inl (fun _ => 0))), (l2, .inl (cA1, 2400, .inl (fun _ => 0))), (l3, .inl (cA1, 2400, .inl (fun _ => 0))), (l4, .inl (cA1, 2400, .inl (fun _ => 0))), (l5, .inl (cA1, 4800, .inl (fun _ => 0))), (l6, .inl (cA1, 4800, .inl (fun _ => 0))), (l7, .inl (cA7, 1120, .inl (fun _ => 0))), (l8, .inl (cA1, 4, .inl (fun _ => 0))), (l9, .inl (cA1, 4, .inl (fun _ => 0)))] := hD
  exact W.vret hx hb hr (fun t9 ht9 hW9 => ⟨⟨((fun k => if k = 0 then l1 else if k = 1 then l2 else if k = 2 then l3 else if k = 3 then l4 else if k = 4 then l5 else if k = 5 then l6 else if k = 6 then l7 else if k = 7 then l8 else l9), cA1, cA7), rfl, trivial, by rw [ht9]; exact hP, va_K.moved hW9.alike (hK.sub (tys' := [(cA1, .int), (cA7, .boolean)]) [0, 6] rfl), hD⟩, hS.F ht9⟩) hS.2.2 dM_init_81
set_option maxHeartbeats 4000000 in
set_option maxRecDepth 100000 in
theorem c_xinit (l : Launch) (dC : Nat → ClassId) (dI : Nat → Nat → Nat) (sz : Nat) (r : Nat) : Met l yX1_init wsX1_init ({ frames := 3, cells := 9, slots := 4617, locals := 100 }) (va_Pc [.ref r] (cr_preN dC dI [] [(r, .inr (1, [.null, .null, .null]))] sz)) (va_Qv (fun _ : (Nat → Nat) × ClassId => True) (fun u t => cr_at dC dI [(u.2, .int)] (va_A [(r, .inr (1, [.null, .null, .null]))] sz) [(r, .inr (1, [.ref (u.1 0), .ref (u.1 3), .ref (u.1 6)])), ((u.1 0), .inr (0, [.ref (u.1 1), .ref (u.1 2), .int (nI 0)])), ((u.1 1), .inl (u.2, 768, .inl (fun _ => 0))), ((u.1 2), .inl (u.2, 768, .inl (fun _ => 0))), ((u.1 3), .inr (0, [.ref (u.1 4), .ref (u.1 5), .int (nI 0)])), ((u.1 4), .inl (u.2, 768, .inl (fun _ => 0))), ((u.1 5), .inl (u.2, 768, .inl (fun _ => 0))), ((u.1 6), .inr (0, [.ref (u.1 7), .ref (u.1 8), .int (nI 0)])), ((u.1 7), .inl (u.2, 768, .inl (fun _ => 0))), ((u.1 8), .inl (u.2, 768, .inl (fun _ => 0)))] t) (va_A [(r, .inr (1, [.null, .null, .null]))] sz)) 9 4617 (va_A [(r, .inr (1, [.null, .null, .null]))] sz) := by
  refine Met.ofW (cc := cX1_init) (maxL := 1) (ret := none) (by decide) rfl ?_
  intro p e s m args below meth c s₁ B hml hv
  obtain ⟨rfl, ⟨hsz, hP, hK, hD0⟩, hN⟩ := hv
  have hx := B.exec
  have hb := B.bytes
  have hr := B.returns
  have hts := atoms_spec (ws := wsX1_init) B.pre
  have hown : s.vm.findClass RX1 = some m.cls := findClass_of_methodNamed B.named
  have hlocks := B.notSynchronized
  have hin : meth.name = "<init>" := (name_of_methodNamed B.named B.method).1
  subst hsz
  have hD := hD0.self (sz := s.heap.size)
  generalize hAe : va_A [(r, .inr (1, [.null, .null, .null]))] s.heap.size = A at hD ⊢
  have hA : ∀ q : Nat, s.heap.size ≤ q → A q := fun q h => by rw [← hAe]; exact Or.inr h
  have hS : va_S A s.heap s.heap [] := va_S.rf
  have hP : va_P (dC, dI) crCl [(r, .inr (1, [.null, .null, .null]))] s.heap := hP
  have hl := lv_entry ([.ref r]) (n := 1) (Nat.le_of_ble_eq_true rfl)
  rw [lg_entry_eq]
  generalize (lg_sl ([.ref r]) ++ List.replicate (1 - (lg_sl ([.ref r])).length) Slot.unset).toArray = ls at hl ⊢
  have hl : lv_has ls 1 [(0, .ref r)] := hl
  refine lv_aload_n hx hb dX1_init_0 rfl (lv_at hl 0 rfl) ?_
  refine W.objInit hx hb hown (hts (.methodLink RX1 1 objectInit) (by decide +kernel)) (hts (.instanceMethod objectInit) (by decide +kernel)) (hts (.code objectInit ⟨#[0xb1]⟩ 1 none) (by decide +kernel)) rfl (by rw [hml]; exact hl.1) rfl dX1_init_1 (Nat.le_of_ble_eq_true rfl) (Nat.le_of_ble_eq_true rfl) ?_
  refine W.eq (g2 := F0 m 4 ls []) rfl ?_
  refine lv_aload_n hx hb dX1_init_4 rfl (lv_at hl 0 rfl) ?_
  refine va_new (ci := 0) (fs := [.null, .null, .int 0]) (C := RX0) (T := TX0) (N := 3) hx hb hts (by decide +kernel) tyX0 tyX0_ok hown (hts (.classLink RX1 7 RX0) (by decide +kernel)) (hts (.instantiable RX0 3) (by decide +kernel)) (hts (.initialized RX0) (by decide +kernel)) hK hP hD hS hA rfl (fun j hj => by rcases (show j = 0 ∨ j = 1 ∨ j = 2 by omega) with rfl | rfl | rfl <;> rfl) (Nat.le_of_ble_eq_true rfl) (Nat.le_of_ble_eq_true rfl) dX1_init_5 (fun q0 H hP hD hS => ?_)
  have hP : va_P (dC, dI) crCl [(r, .inr (1, [.null, .null, .null])), (q0, .inr (0, [.null, .null, .int 0]))] H := hP
  have hD : va_D A [(r, .inr (1, [.null, .null, .null])), (q0, .inr (0, [.null, .null, .int 0]))] := hD
  refine lv_dup hx hb dX1_init_8 rfl ?_
  have hPc := hP.sub (ws' := [(q0, .inr (0, [.null, .null, .int 0]))]) [1] rfl
  have hDc := hD.sub (ws' := [(q0, .inr (0, [.null, .null, .int 0]))]) [1] (by decide) rfl
  have hKc := hK.sub (tys' := []) [] rfl
  have hFc := va_free (wc := [(q0, .inr (0, [.null, .null, .int 0]))]) hD hS hA [1] rfl
  refine va_callv (va_runIN (As := []) (rest := [.ref q0, .ref r]) ⟨hx, hb, hml, hown, hts⟩ (c_rinit l dC dI _ q0) ⟨va_cnB (host := "CharRows") 0 hts gX1_init_X0_init_n9 rfl rfl rfl (hN _ nw_9) (hts (.initialized RX0) (by decide +kernel)) (by decide +kernel) ⟨Nat.le_of_ble_eq_true rfl, Nat.le_of_ble_eq_true rfl⟩, rfl, hts (.instanceMethod yX0_init) (by decide +kernel)⟩ (cr_preI hPc hKc hDc) rfl rfl hl.1 rfl (lv_room (Nat.le_of_ble_eq_true rfl)) dX1_init_9 ⟨Nat.le_of_ble_eq_true rfl, Nat.le_of_ble_eq_true rfl⟩) hS (fun q _ h => hFc q h) hFc (fun u t H1 locs ht hvm hw hB hz1 hk1 hS => ?_)
  obtain ⟨q1, q2, cA0⟩ := u
  obtain ⟨hP1, hK1, hD1⟩ := hB
  rw [ht] at hP1
  have hK1 := va_K.moved hvm.symm hK1
  obtain ⟨hP, hD⟩ := va_join (wr := [(r, .inr (1, [.null, .null, .null]))]) (w1 := [(q0, .inr (0, [.ref q1, .ref q2, .int (nI 0)])), (q1, .inl (cA0, 768, .inl (fun _ => 0))), (q2, .inl (cA0, 768, .inl (fun _ => 0)))]) hP hD [1] [0] rfl rfl (by decide) (by decide) hk1 hFc hP1 hD1
  have hK := hK.app hK1
  generalize H1 = H at hP hS ⊢
  have hK : va_K (dC, dI) crCl [(cA0, .int)] s := hK
  have hP : va_P (dC, dI) crCl [(r, .inr (1, [.null, .null, .null])), (q0, .inr (0, [.ref q1, .ref q2, .int (nI 0)])), (q1, .inl (cA0, 768, .inl (fun _ => 0))), (q2, .inl (cA0, 768, .inl (fun _ => 0)))] H := hP
  have hD : va_D A [(r, .inr (1, [.null, .null, .null])), (q0, .inr (0, [.ref q1, .ref q2, .int (nI 0)])), (q1, .inl (cA0, 768, .inl (fun _ => 0))), (q2, .inl (cA0, 768, .inl (fun _ => 0)))] := hD
  clear hPc hDc hKc hFc hP1 hK1 hD1
  refine va_put (D := (dC, dI)) (ci := 1) (v := .ref q0) (ty := .object "CharRows$Ranges") (C := RX1) (T := TX1) (N := 3) hx hb hts (by decide +kernel) tyX1 tyX1_ok nmX1 hown hK hP hD hS 0 rfl rfl 0 (by decide) (hts (.fieldLink RX1 10 "CharRows" "held" "LCharRows$Ranges;") (by decide +kernel)) (fun _ h9 => h9) rfl (by decide +kernel) rfl rfl (Nat.le_of_ble_eq_true rfl) dX1_init_12 (fun H locs hP hD hS => ?_)
  have hP : va_P (dC, dI) crCl [(r, .inr (1, [.ref q0, .null, .null])), (q0, .inr (0, [.ref q1, .ref q2, .int (nI 0)])), (q1, .inl (cA0, 768, .inl (fun _ => 0))), (q2, .inl (cA0, 768, .inl (fun _ => 0)))] H := hP
  have hD : va_D A [(r, .inr (1, [.ref q0, .null, .null])), (q0, .inr (0, [.ref q1, .ref q2, .int (nI 0)])), (q1, .inl (cA0, 768, .inl (fun _ => 0))), (q2, .inl (cA0, 768, .inl (fun _ => 0)))] := hD
  refine lv_aload_n hx hb dX1_init_15 rfl (lv_at hl 0 rfl) ?_
  refine va_new (ci := 0) (fs := [.null, .null, .int 0]) (C := RX0) (T := TX0) (N := 3) hx hb hts (by decide +kernel) tyX0 tyX0_ok hown (hts (.classLink RX1 7 RX0) (by decide +kernel)) (hts (.instantiable RX0 3) (by decide +kernel)) (hts (.initialized RX0) (by decide +kernel)) hK hP hD hS hA rfl (fun j hj => by rcases (show j = 0 ∨ j = 1 ∨ j = 2 by omega) with rfl | rfl | rfl <;> rfl) (Nat.le_of_ble_eq_true rfl) (Nat.le_of_ble_eq_true rfl) dX1_init_16 (fun q3 H hP hD hS => ?_)
  have hP : va_P (dC, dI) crCl [(r, .inr (1, [.ref q0, .null, .null])), (q0, .inr (0, [.ref q1, .ref q2, .int (nI 0)])), (q1, .inl (cA0, 768, .inl (fun _ => 0))), (q2, .inl (cA0, 768, .inl (fun _ => 0))), (q3, .inr (0, [.null, .null, .int 0]))] H := hP
  have hD : va_D A [(r, .inr (1, [.ref q0, .null, .null])), (q0, .inr (0, [.ref q1, .ref q2, .int (nI 0)])), (q1, .inl (cA0, 768, .inl (fun _ => 0))), (q2, .inl (cA0, 768, .inl (fun _ => 0))), (q3, .inr (0, [.null, .null, .int 0]))] := hD
  refine lv_dup hx hb dX1_init_19 rfl ?_
  have hPc := hP.sub (ws' := [(q3, .inr (0, [.null, .null, .int 0]))]) [4] rfl
  have hDc := hD.sub (ws' := [(q3, .inr (0, [.null, .null, .int 0]))]) [4] (by decide) rfl
  have hKc := hK.sub (tys' := []) [] rfl
  have hFc := va_free (wc := [(q3, .inr (0, [.null, .null, .int 0]))]) hD hS hA [4] rfl
  refine va_callv (va_runIN (As := []) (rest := [.ref q3, .ref r]) ⟨hx, hb, hml, hown, hts⟩ (c_rinit l dC dI _ q3) ⟨va_cnB (host := "CharRows") 0 hts gX1_init_X0_init_n9 rfl rfl rfl (hN _ nw_9) (hts (.initialized RX0) (by decide +kernel)) (by decide +kernel) ⟨Nat.le_of_ble_eq_true rfl, Nat.le_of_ble_eq_true rfl⟩, rfl, hts (.instanceMethod yX0_init) (by decide +kernel)⟩ (cr_preI hPc hKc hDc) rfl rfl hl.1 rfl (lv_room (Nat.le_of_ble_eq_true rfl)) dX1_init_20 ⟨Nat.le_of_ble_eq_true rfl, Nat.le_of_ble_eq_true rfl⟩) hS (fun q _ h => hFc q h) hFc (fun u t H1 locs ht hvm hw hB hz1 hk1 hS => ?_)
  obtain ⟨q4, q5, cA1⟩ := u
  obtain ⟨hP1, hK1, hD1⟩ := hB
  rw [ht] at hP1
  have hK1 := va_K.moved hvm.symm hK1
  obtain ⟨hP, hD⟩ := va_join (wr := [(r, .inr (1, [.ref q0, .null, .null])), (q0, .inr (0, [.ref q1, .ref q2, .int (nI 0)])), (q1, .inl (cA0, 768, .inl (fun _ => 0))), (q2, .inl (cA0, 768, .inl (fun _ => 0)))]) (w1 := [(q3, .inr (0, [.ref q4, .ref q5, .int (nI 0)])), (q4, .inl (cA1, 768, .inl (fun _ => 0))), (q5, .inl (cA1, 768, .inl (fun _ => 0)))]) hP hD [4] [0, 1, 2, 3] rfl rfl (by decide) (by decide) hk1 hFc hP1 hD1
  have hK := hK.app hK1
  generalize H1 = H at hP hS ⊢
  have hK : va_K (dC, dI) crCl [(cA0, .int), (cA1, .int)] s := hK
  obtain rfl : cA0 = cA1 := cr_sameA hK 0 1 rfl rfl
  have hP : va_P (dC, dI) crCl [(r, .inr (1, [.ref q0, .null, .null])), (q0, .inr (0, [.ref q1, .ref q2, .int (nI 0)])), (q1, .inl (cA0, 768, .inl (fun _ => 0))), (q2, .inl (cA0, 768, .inl (fun _ => 0))), (q3, .inr (0, [.ref q4, .ref q5, .int (nI 0)])), (q4, .inl (cA0, 768, .inl (fun _ => 0))), (q5, .inl (cA0, 768, .inl (fun _ => 0)))] H := hP
  have hD : va_D A [(r, .inr (1, [.ref q0, .null, .null])), (q0, .inr (0, [.ref q1, .ref q2, .int (nI 0)])), (q1, .inl (cA0, 768, .inl (fun _ => 0))), (q2, .inl (cA0, 768, .inl (fun _ => 0))), (q3, .inr (0, [.ref q4, .ref q5, .int (nI 0)])), (q4, .inl (cA0, 768, .inl (fun _ => 0))), (q5, .inl (cA0, 768, .inl (fun _ => 0)))] := hD
  clear hPc hDc hKc hFc hP1 hK1 hD1
  refine va_put (D := (dC, dI)) (ci := 1) (v := .ref q3) (ty := .object "CharRows$Ranges") (C := RX1) (T := TX1) (N := 3) hx hb hts (by decide +kernel) tyX1 tyX1_ok nmX1 hown hK hP hD hS 0 rfl rfl 1 (by decide) (hts (.fieldLink RX1 16 "CharRows" "spare" "LCharRows$Ranges;") (by decide +kernel)) (fun _ h9 => h9) rfl (by decide +kernel) rfl rfl (Nat.le_of_ble_eq_true rfl) dX1_init_23 (fun H locs hP hD hS => ?_)
  have hP : va_P (dC, dI) crCl [(r, .inr (1, [.ref q0, .ref q3, .null])), (q0, .inr (0, [.ref q1, .ref q2, .int (nI 0)])), (q1, .inl (cA0, 768, .inl (fun _ => 0))), (q2, .inl (cA0, 768, .inl (fun _ => 0))), (q3, .inr (0, [.ref q4, .ref q5, .int (nI 0)])), (q4, .inl (cA0, 768, .inl (fun _ => 0))), (q5, .inl (cA0, 768, .inl (fun _ => 0)))] H := hP
  have hD : va_D A [(r, .inr (1, [.ref q0, .ref q3, .null])), (q0, .inr (0, [.ref q1, .ref q2, .int (nI 0)])), (q1, .inl (cA0, 768, .inl (fun _ => 0))), (q2, .inl (cA0, 768, .inl (fun _ => 0))), (q3, .inr (0, [.ref q4, .ref q5, .int (nI 0)])), (q4, .inl (cA0, 768, .inl (fun _ => 0))), (q5, .inl (cA0, 768, .inl (fun _ => 0)))] := hD
  refine lv_aload_n hx hb dX1_init_26 rfl (lv_at hl 0 rfl) ?_
  refine va_new (ci := 0) (fs := [.null, .null, .int 0]) (C := RX0) (T := TX0) (N := 3) hx hb hts (by decide +kernel) tyX0 tyX0_ok hown (hts (.classLink RX1 7 RX0) (by decide +kernel)) (hts (.instantiable RX0 3) (by decide +kernel)) (hts (.initialized RX0) (by decide +kernel)) hK hP hD hS hA rfl (fun j hj => by rcases (show j = 0 ∨ j = 1 ∨ j = 2 by omega) with rfl | rfl | rfl <;> rfl) (Nat.le_of_ble_eq_true rfl) (Nat.le_of_ble_eq_true rfl) dX1_init_27 (fun q6 H hP hD hS => ?_)
  have hP : va_P (dC, dI) crCl [(r, .inr (1, [.ref q0, .ref q3, .null])), (q0, .inr (0, [.ref q1, .ref q2, .int (nI 0)])), (q1, .inl (cA0, 768, .inl (fun _ => 0))), (q2, .inl (cA0, 768, .inl (fun _ => 0))), (q3, .inr (0, [.ref q4, .ref q5, .int (nI 0)])), (q4, .inl (cA0, 768, .inl (fun _ => 0))), (q5, .inl (cA0, 768, .inl (fun _ => 0))), (q6, .inr (0, [.null, .null, .int 0]))] H := hP
  have hD : va_D A [(r, .inr (1, [.ref q0, .ref q3, .null])), (q0, .inr (0, [.ref q1, .ref q2, .int (nI 0)])), (q1, .inl (cA0, 768, .inl (fun _ => 0))), (q2, .inl (cA0, 768, .inl (fun _ => 0))), (q3, .inr (0, [.ref q4, .ref q5, .int (nI 0)])), (q4, .inl (cA0, 768, .inl (fun _ => 0))), (q5, .inl (cA0, 768, .inl (fun _ => 0))), (q6, .inr (0, [.null, .null, .int 0]))] := hD
  refine lv_dup hx hb dX1_init_30 rfl ?_
  have hPc := hP.sub (ws' := [(q6, .inr (0, [.null, .null, .int 0]))]) [7] rfl
  have hDc := hD.sub (ws' := [(q6, .inr (0, [.null, .null, .int 0]))]) [7] (by decide) rfl
  have hKc := hK.sub (tys' := []) [] rfl
  have hFc := va_free (wc := [(q6, .inr (0, [.null, .null, .int 0]))]) hD hS hA [7] rfl
  refine va_callv (va_runIN (As := []) (rest := [.ref q6, .ref r]) ⟨hx, hb, hml, hown, hts⟩ (c_rinit l dC dI _ q6) ⟨va_cnB (host := "CharRows") 0 hts gX1_init_X0_init_n9 rfl rfl rfl (hN _ nw_9) (hts (.initialized RX0) (by decide +kernel)) (by decide +kernel) ⟨Nat.le_of_ble_eq_true rfl, Nat.le_of_ble_eq_true rfl⟩, rfl, hts (.instanceMethod yX0_init) (by decide +kernel)⟩ (cr_preI hPc hKc hDc) rfl rfl hl.1 rfl (lv_room (Nat.le_of_ble_eq_true rfl)) dX1_init_31 ⟨Nat.le_of_ble_eq_true rfl, Nat.le_of_ble_eq_true rfl⟩) hS (fun q _ h => hFc q h) hFc (fun u t H1 locs ht hvm hw hB hz1 hk1 hS => ?_)
  obtain ⟨q7, q8, cA2⟩ := u
  obtain ⟨hP1, hK1, hD1⟩ := hB
  rw [ht] at hP1
  have hK1 := va_K.moved hvm.symm hK1
  obtain ⟨hP, hD⟩ := va_join (wr := [(r, .inr (1, [.ref q0, .ref q3, .null])), (q0, .inr (0, [.ref q1, .ref q2, .int (nI 0)])), (q1, .inl (cA0, 768, .inl (fun _ => 0))), (q2, .inl (cA0, 768, .inl (fun _ => 0))), (q3, .inr (0, [.ref q4, .ref q5, .int (nI 0)])), (q4, .inl (cA0, 768, .inl (fun _ => 0))), (q5, .inl (cA0, 768, .inl (fun _ => 0)))]) (w1 := [(q6, .inr (0, [.ref q7, .ref q8, .int (nI 0)])), (q7, .inl (cA2, 768, .inl (fun _ => 0))), (q8, .inl (cA2, 768, .inl (fun _ => 0)))]) hP hD [7] [0, 1, 2, 3, 4, 5, 6] rfl rfl (by decide) (by decide) hk1 hFc hP1 hD1
  have hK := hK.app hK1
  generalize H1 = H at hP hS ⊢
  have hK : va_K (dC, dI) crCl [(cA0, .int), (cA0, .int), (cA2, .int)] s := hK
  obtain rfl : cA0 = cA2 := cr_sameA hK 0 2 rfl rfl
  have hP : va_P (dC, dI) crCl [(r, .inr (1, [.ref q0, .ref q3, .null])), (q0, .inr (0, [.ref q1, .ref q2, .int (nI 0)])), (q1, .inl (cA0, 768, .inl (fun _ => 0))), (q2, .inl (cA0, 768, .inl (fun _ => 0))), (q3, .inr (0, [.ref q4, .ref q5, .int (nI 0)])), (q4, .inl (cA0, 768, .inl (fun _ => 0))), (q5, .inl (cA0, 768, .inl (fun _ => 0))), (q6, .inr (0, [.ref q7, .ref q8, .int (nI 0)])), (q7, .inl (cA0, 768, .inl (fun _ => 0))), (q8, .inl (cA0, 768, .inl (fun _ => 0)))] H := hP
  have hD : va_D A [(r, .inr (1, [.ref q0, .ref q3, .null])), (q0, .inr (0, [.ref q1, .ref q2, .int (nI 0)])), (q1, .inl (cA0, 768, .inl (fun _ => 0))), (q2, .inl (cA0, 768, .inl (fun _ => 0))), (q3, .inr (0, [.ref q4, .ref q5, .int (nI 0)])), (q4, .inl (cA0, 768, .inl (fun _ => 0))), (q5, .inl (cA0, 768, .inl (fun _ => 0))), (q6, .inr (0, [.ref q7, .ref q8, .int (nI 0)])), (q7, .inl (cA0, 768, .inl (fun _ => 0))), (q8, .inl (cA0, 768, .inl (fun _ => 0)))] := hD
  clear hPc hDc hKc hFc hP1 hK1 hD1
  refine va_putF (D := (dC, dI)) (ci := 1) (v := .ref q6) (ty := .object "CharRows$Ranges") (C := RX1) (T := TX1) (N := 3) hx hb hts (by decide +kernel) tyX1 tyX1_ok nmX1 hown hK hP hD hS 0 rfl rfl 2 (by decide) (hts (.fieldLink RX1 19 "CharRows" "kept" "LCharRows$Ranges;") (by decide +kernel)) (fun _ h9 => h9) rfl hin rfl (by decide +kernel) rfl rfl (Nat.le_of_ble_eq_true rfl) dX1_init_34 (fun H locs hP hD hS => ?_)
  have hP : va_P (dC, dI) crCl [(r, .inr (1, [.ref q0, .ref q3, .ref q6])), (q0, .inr (0, [.ref q1, .ref q2, .int (nI 0)])), (q1, .inl (cA0, 768, .inl (fun _ => 0))), (q2, .inl (cA0, 768, .inl (fun _ => 0))), (q3, .inr (0, [.ref q4, .ref q5, .int (nI 0)])), (q4, .inl (cA0, 768, .inl (fun _ => 0))), (q5, .inl (cA0, 768, .inl (fun _ => 0))), (q6, .inr (0, [.ref q7, .ref q8, .int (nI 0)])), (q7, .inl (cA0, 768, .inl (fun _ => 0))), (q8, .inl (cA0, 768, .inl (fun _ => 0)))] H := hP
  have hD : va_D A [(r, .inr (1, [.ref q0, .ref q3, .ref q6])), (q0, .inr (0, [.ref q1, .ref q2, .int (nI 0)])), (q1, .inl (cA0, 768, .inl (fun _ => 0))), (q2, .inl (cA0, 768, .inl (fun _ => 0))), (q3, .inr (0, [.ref q4, .ref q5, .int (nI 0)])), (q4, .inl (cA0, 768, .inl (fun _ => 0))), (q5, .inl (cA0, 768, .inl (fun _ => 0))), (q6, .inr (0, [.ref q7, .ref q8, .int (nI 0)])), (q7, .inl (cA0, 768, .inl (fun _ => 0))), (q8, .inl (cA0, 768, .inl (fun _ => 0)))] := hD
  exact W.vret hx hb hr (fun t9 ht9 hW9 => ⟨⟨((fun k => if k = 0 then q0 else if k = 1 then q1 else if k = 2 then q2 else if k = 3 then q3 else if k = 4 then q4 else if k = 5 then q5 else if k = 6 then q6 else if k = 7 then q7 else q8), cA0), rfl, trivial, by rw [ht9]; exact hP, va_K.moved hW9.alike (hK.sub (tys' := [(cA0, .int)]) [0] rfl), hD⟩, hS.F ht9⟩) hS.2.2 dX1_init_37
