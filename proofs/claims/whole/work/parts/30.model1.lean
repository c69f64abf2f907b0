set_option maxHeartbeats 4000000 in
set_option maxRecDepth 100000 in
theorem m_thrown (l : Launch) (dC : Nat → ClassId) (dI : Nat → Nat → Nat) (sz : Nat) (mo l1 l2 l3 l4 l5 l6 l7 l8 l9 : Nat) (cI cZ : ClassId) (th by0 fd : Int32) (n nk mn : Nat) (f g kf kg ef eg mt fr tt : Nat → Int32) : Met l yM_thrown wsM_thrown ({ frames := 1, cells := 0, slots := 0, locals := 20 }) (va_Pc [.ref mo] (cr_pre dC dI [(cI, .int), (cZ, .boolean)] [(mo, .inr (2, [.int th, .ref l1, .ref l2, .int (nI n), .ref l3, .ref l4, .int (nI nk), .ref l5, .ref l6, .int (nI mn), .ref l7, .ref l8, .ref l9, .int by0, .int fd])), (l1, .inl (cI, 2400, .inl f)), (l2, .inl (cI, 2400, .inl g)), (l3, .inl (cI, 2400, .inl kf)), (l4, .inl (cI, 2400, .inl kg)), (l5, .inl (cI, 4800, .inl ef)), (l6, .inl (cI, 4800, .inl eg)), (l7, .inl (cZ, 1120, .inl mt)), (l8, .inl (cI, 4, .inl fr)), (l9, .inl (cI, 4, .inl tt))] sz)) (va_Qi (fun (rr : Int32) (u : va_W) => u = [(mo, .inr (2, [.int th, .ref l1, .ref l2, .int (nI n), .ref l3, .ref l4, .int (nI nk), .ref l5, .ref l6, .int (nI mn), .ref l7, .ref l8, .ref l9, .int by0, .int fd])), (l1, .inl (cI, 2400, .inl f)), (l2, .inl (cI, 2400, .inl g)), (l3, .inl (cI, 2400, .inl kf)), (l4, .inl (cI, 2400, .inl kg)), (l5, .inl (cI, 4800, .inl ef)), (l6, .inl (cI, 4800, .inl eg)), (l7, .inl (cZ, 1120, .inl mt)), (l8, .inl (cI, 4, .inl fr)), (l9, .inl (cI, 4, .inl tt))] ∧ rr = th) (cr_at dC dI [(cI, .int), (cZ, .boolean)] (va_A [(mo, .inr (2, [.int th, .ref l1, .ref l2, .int (nI n), .ref l3, .ref l4, .int (nI nk), .ref l5, .ref l6, .int (nI mn), .ref l7, .ref l8, .ref l9, .int by0, .int fd])), (l1, .inl (cI, 2400, .inl f)), (l2, .inl (cI, 2400, .inl g)), (l3, .inl (cI, 2400, .inl kf)), (l4, .inl (cI, 2400, .inl kg)), (l5, .inl (cI, 4800, .inl ef)), (l6, .inl (cI, 4800, .inl eg)), (l7, .inl (cZ, 1120, .inl mt)), (l8, .inl (cI, 4, .inl fr)), (l9, .inl (cI, 4, .inl tt))] sz)) (va_A [(mo, .inr (2, [.int th, .ref l1, .ref l2, .int (nI n), .ref l3, .ref l4, .int (nI nk), .ref l5, .ref l6, .int (nI mn), .ref l7, .ref l8, .ref l9, .int by0, .int fd])), (l1, .inl (cI, 2400, .inl f)), (l2, .inl (cI, 2400, .inl g)), (l3, .inl (cI, 2400, .inl kf)), (l4, .inl (cI, 2400, .inl kg)), (l5, .inl (cI, 4800, .inl ef)), (l6, .inl (cI, 4800, .inl eg)), (l7, .inl (cZ, 1120, .inl mt)), (l8, .inl (cI, 4, .inl fr)), (l9, .inl (cI, 4, .inl tt))] sz)) 0 0 (va_A [(mo, .inr (2, [.int th, .ref l1, .ref l2, .int (nI n), .ref l3, .ref l4, .int (nI nk), .ref l5, .ref l6, .int (nI mn), .ref l7, .ref l8, .ref l9, .int by0, .int fd])), (l1, .inl (cI, 2400, .inl f)), (l2, .inl (cI, 2400, .inl g)), (l3, .inl (cI, 2400, .inl kf)), (l4, .inl (cI, 2400, .inl kg)), (l5, .inl (cI, 4800, .inl ef)), (l6, .inl (cI, 4800, .inl eg)), (l7, .inl (cZ, 1120, .inl mt)), (l8, .inl (cI, 4, .inl fr)), (l9, .inl (cI, 4, .inl tt))] sz) := by
  refine Met.ofW (cc := cM_thrown) (maxL := 1) (ret := (some .int)) (by decide) rfl ?_
  intro p e s m args below meth c s₁ B hml hv
  obtain ⟨rfl, hsz, hP, hK, hD0⟩ := hv
  have hx := B.exec
  have hb := B.bytes
  have hr := B.returns
  have hts := atoms_spec (ws := wsM_thrown) B.pre
  have hown : s.vm.findClass RX2 = some m.cls := findClass_of_methodNamed B.named
  have hlocks := B.notSynchronized
  subst hsz
  have hD := hD0.self (sz := s.heap.size)
  generalize hAe : va_A [(mo, .inr (2, [.int th, .ref l1, .ref l2, .int (nI n), .ref l3, .ref l4, .int (nI nk), .ref l5, .ref l6, .int (nI mn), .ref l7, .ref l8, .ref l9, .int by0, .int fd])), (l1, .inl (cI, 2400, .inl f)), (l2, .inl (cI, 2400, .inl g)), (l3, .inl (cI, 2400, .inl kf)), (l4, .inl (cI, 2400, .inl kg)), (l5, .inl (cI, 4800, .inl ef)), (l6, .inl (cI, 4800, .inl eg)), (l7, .inl (cZ, 1120, .inl mt)), (l8, .inl (cI, 4, .inl fr)), (l9, .inl (cI, 4, .inl tt))] s.heap.size = A at hD ⊢
  have hA : ∀ q : Nat, s.heap.size ≤ q → A q := fun q h => by rw [← hAe]; exact Or.inr h
  have hS : va_S A s.heap s.heap [] := va_S.rf
  have hP : va_P (dC, dI) crCl [(mo, .inr (2, [.int th, .ref l1, .ref l2, .int (nI n), .ref l3, .ref l4, .int (nI nk), .ref l5, .ref l6, .int (nI mn), .ref l7, .ref l8, .ref l9, .int by0, .int fd])), (l1, .inl (cI, 2400, .inl f)), (l2, .inl (cI, 2400, .inl g)), (l3, .inl (cI, 2400, .inl kf)), (l4, .inl (cI, 2400, .inl kg)), (l5, .inl (cI, 4800, .inl ef)), (l6, .inl (cI, 4800, .inl eg)), (l7, .inl (cZ, 1120, .inl mt)), (l8, .inl (cI, 4, .inl fr)), (l9, .inl (cI, 4, .inl tt))] s.heap := hP
  have hl := lv_entry ([.ref mo]) (n := 1) (Nat.le_of_ble_eq_true rfl)
  rw [lg_entry_eq]
  generalize (lg_sl ([.ref mo]) ++ List.replicate (1 - (lg_sl ([.ref mo])).length) Slot.unset).toArray = ls at hl ⊢
  have hl : lv_has ls 1 [(0, .ref mo)] := hl
  refine lv_aload_n hx hb dM_thrown_0 rfl (lv_at hl 0 rfl) ?_
  refine va_get (D := (dC, dI)) (ci := 2) (v := .int th) (C := RX2) (T := TM) (N := 15) hx hb hts (wsM00_in _) hown hK hP 0 rfl rfl 0 (by decide) (hts (.fieldLink RX2 38 "CharRowsModel" "thrown" "I") (by decide +kernel)) (fun _ h9 => h9) rfl dM_thrown_1 ?_
  exact W.iret (v := th) hx hb hr (fun t9 ht9 hW9 => ⟨⟨th, [(mo, .inr (2, [.int th, .ref l1, .ref l2, .int (nI n), .ref l3, .ref l4, .int (nI nk), .ref l5, .ref l6, .int (nI mn), .ref l7, .ref l8, .ref l9, .int by0, .int fd])), (l1, .inl (cI, 2400, .inl f)), (l2, .inl (cI, 2400, .inl g)), (l3, .inl (cI, 2400, .inl kf)), (l4, .inl (cI, 2400, .inl kg)), (l5, .inl (cI, 4800, .inl ef)), (l6, .inl (cI, 4800, .inl eg)), (l7, .inl (cZ, 1120, .inl mt)), (l8, .inl (cI, 4, .inl fr)), (l9, .inl (cI, 4, .inl tt))], rfl, ⟨rfl, rfl⟩, by rw [ht9]; exact hP, va_K.moved hW9.alike hK, hD⟩, hS.F ht9⟩) hS.2.2 dM_thrown_4

set_option maxHeartbeats 4000000 in
set_option maxRecDepth 100000 in
theorem m_clear (l : Launch) (dC : Nat → ClassId) (dI : Nat → Nat → Nat) (sz : Nat) (mo l1 l2 l3 l4 l5 l6 l7 l8 l9 : Nat) (cI cZ : ClassId) (th by0 fd : Int32) (n nk mn : Nat) (f g kf kg ef eg mt fr tt : Nat → Int32) : Met l yM_clear wsM_clear ({ frames := 1, cells := 0, slots := 0, locals := 20 }) (va_Pc [.ref mo] (cr_pre dC dI [(cI, .int), (cZ, .boolean)] [(mo, .inr (2, [.int th, .ref l1, .ref l2, .int (nI n), .ref l3, .ref l4, .int (nI nk), .ref l5, .ref l6, .int (nI mn), .ref l7, .ref l8, .ref l9, .int by0, .int fd])), (l1, .inl (cI, 2400, .inl f)), (l2, .inl (cI, 2400, .inl g)), (l3, .inl (cI, 2400, .inl kf)), (l4, .inl (cI, 2400, .inl kg)), (l5, .inl (cI, 4800, .inl ef)), (l6, .inl (cI, 4800, .inl eg)), (l7, .inl (cZ, 1120, .inl mt)), (l8, .inl (cI, 4, .inl fr)), (l9, .inl (cI, 4, .inl tt))] sz)) (va_Qv (fun (u : va_W) => u = [(mo, .inr (2, [.int (nI 0), .ref l1, .ref l2, .int (nI 0), .ref l3, .ref l4, .int (nI nk), .ref l5, .ref l6, .int (nI mn), .ref l7, .ref l8, .ref l9, .int by0, .int fd])), (l1, .inl (cI, 2400, .inl f)), (l2, .inl (cI, 2400, .inl g)), (l3, .inl (cI, 2400, .inl kf)), (l4, .inl (cI, 2400, .inl kg)), (l5, .inl (cI, 4800, .inl ef)), (l6, .inl (cI, 4800, .inl eg)), (l7, .inl (cZ, 1120, .inl mt)), (l8, .inl (cI, 4, .inl fr)), (l9, .inl (cI, 4, .inl tt))]) (cr_at dC dI [(cI, .int), (cZ, .boolean)] (va_A [(mo, .inr (2, [.int th, .ref l1, .ref l2, .int (nI n), .ref l3, .ref l4, .int (nI nk), .ref l5, .ref l6, .int (nI mn), .ref l7, .ref l8, .ref l9, .int by0, .int fd])), (l1, .inl (cI, 2400, .inl f)), (l2, .inl (cI, 2400, .inl g)), (l3, .inl (cI, 2400, .inl kf)), (l4, .inl (cI, 2400, .inl kg)), (l5, .inl (cI, 4800, .inl ef)), (l6, .inl (cI, 4800, .inl eg)), (l7, .inl (cZ, 1120, .inl mt)), (l8, .inl (cI, 4, .inl fr)), (l9, .inl (cI, 4, .inl tt))] sz)) (va_A [(mo, .inr (2, [.int th, .ref l1, .ref l2, .int (nI n), .ref l3, .ref l4, .int (nI nk), .ref l5, .ref l6, .int (nI mn), .ref l7, .ref l8, .ref l9, .int by0, .int fd])), (l1, .inl (cI, 2400, .inl f)), (l2, .inl (cI, 2400, .inl g)), (l3, .inl (cI, 2400, .inl kf)), (l4, .inl (cI, 2400, .inl kg)), (l5, .inl (cI, 4800, .inl ef)), (l6, .inl (cI, 4800, .inl eg)), (l7, .inl (cZ, 1120, .inl mt)), (l8, .inl (cI, 4, .inl fr)), (l9, .inl (cI, 4, .inl tt))] sz)) 0 0 (va_A [(mo, .inr (2, [.int th, .ref l1, .ref l2, .int (nI n), .ref l3, .ref l4, .int (nI nk), .ref l5, .ref l6, .int (nI mn), .ref l7, .ref l8, .ref l9, .int by0, .int fd])), (l1, .inl (cI, 2400, .inl f)), (l2, .inl (cI, 2400, .inl g)), (l3, .inl (cI, 2400, .inl kf)), (l4, .inl (cI, 2400, .inl kg)), (l5, .inl (cI, 4800, .inl ef)), (l6, .inl (cI, 4800, .inl eg)), (l7, .inl (cZ, 1120, .inl mt)), (l8, .inl (cI, 4, .inl fr)), (l9, .inl (cI, 4, .inl tt))] sz) := by
  refine Met.ofW (cc := cM_clear) (maxL := 1) (ret := none) (by decide) rfl ?_
  intro p e s m args below meth c s₁ B hml hv
  obtain ⟨rfl, hsz, hP, hK, hD0⟩ := hv
  have hx := B.exec
  have hb := B.bytes
  have hr := B.returns
  have hts := atoms_spec (ws := wsM_clear) B.pre
  have hown : s.vm.findClass RX2 = some m.cls := findClass_of_methodNamed B.named
  have hlocks := B.notSynchronized
  subst hsz
  have hD := hD0.self (sz := s.heap.size)
  generalize hAe : va_A [(mo, .inr (2, [.int th, .ref l1, .ref l2, .int (nI n), .ref l3, .ref l4, .int (nI nk), .ref l5, .ref l6, .int (nI mn), .ref l7, .ref l8, .ref l9, .int by0, .int fd])), (l1, .inl (cI, 2400, .inl f)), (l2, .inl (cI, 2400, .inl g)), (l3, .inl (cI, 2400, .inl kf)), (l4, .inl (cI, 2400, .inl kg)), (l5, .inl (cI, 4800, .inl ef)), (l6, .inl (cI, 4800, .inl eg)), (l7, .inl (cZ, 1120, .inl mt)), (l8, .inl (cI, 4, .inl fr)), (l9, .inl (cI, 4, .inl tt))] s.heap.size = A at hD ⊢
  have hA : ∀ q : Nat, s.heap.size ≤ q → A q := fun q h => by rw [← hAe]; exact Or.inr h
  have hS : va_S A s.heap s.heap [] := va_S.rf
  have hP : va_P (dC, dI) crCl [(mo, .inr (2, [.int th, .ref l1, .ref l2, .int (nI n), .ref l3, .ref l4, .int (nI nk), .ref l5, .ref l6, .int (nI mn), .ref l7, .ref l8, .ref l9, .int by0, .int fd])), (l1, .inl (cI, 2400, .inl f)), (l2, .inl (cI, 2400, .inl g)), (l3, .inl (cI, 2400, .inl kf)), (l4, .inl (cI, 2400, .inl kg)), (l5, .inl (cI, 4800, .inl ef)), (l6, .inl (cI, 4800, .inl eg)), (l7, .inl (cZ, 1120, .inl mt)), (l8, .inl (cI, 4, .inl fr)), (l9, .inl (cI, 4, .inl tt))] s.heap := hP
  have hl := lv_entry ([.ref mo]) (n := 1) (Nat.le_of_ble_eq_true rfl)
  rw [lg_entry_eq]
  generalize (lg_sl ([.ref mo]) ++ List.replicate (1 - (lg_sl ([.ref mo])).length) Slot.unset).toArray = ls at hl ⊢
  have hl : lv_has ls 1 [(0, .ref mo)] := hl
  refine lv_aload_n hx hb dM_clear_0 rfl (lv_at hl 0 rfl) ?_
  refine lv_iconst (v := nI 0) hx hb dM_clear_1 (by decide) ?_
  refine va_put (D := (dC, dI)) (ci := 2) (v := .int (nI 0)) (ty := .int) (C := RX2) (T := TM) (N := 15) hx hb hts (wsM00_in _) tyM tyM_ok nmM hown hK hP hD hS 0 rfl rfl 0 (by decide) (hts (.fieldLink RX2 38 "CharRowsModel" "thrown" "I") (by decide +kernel)) (fun _ h9 => h9) rfl (by decide +kernel) rfl rfl (Nat.le_of_ble_eq_true rfl) dM_clear_2 (fun H locs hP hD hS => ?_)
  have hP : va_P (dC, dI) crCl [(mo, .inr (2, [.int (nI 0), .ref l1, .ref l2, .int (nI n), .ref l3, .ref l4, .int (nI nk), .ref l5, .ref l6, .int (nI mn), .ref l7, .ref l8, .ref l9, .int by0, .int fd])), (l1, .inl (cI, 2400, .inl f)), (l2, .inl (cI, 2400, .inl g)), (l3, .inl (cI, 2400, .inl kf)), (l4, .inl (cI, 2400, .inl kg)), (l5, .inl (cI, 4800, .inl ef)), (l6, .inl (cI, 4800, .inl eg)), (l7, .inl (cZ, 1120, .inl mt)), (l8, .inl (cI, 4, .inl fr)), (l9, .inl (cI, 4, .inl tt))] H := hP
  have hD : va_D A [(mo, .inr (2, [.int (nI 0), .ref l1, .ref l2, .int (nI n), .ref l3, .ref l4, .int (nI nk), .ref l5, .ref l6, .int (nI mn), .ref l7, .ref l8, .ref l9, .int by0, .int fd])), (l1, .inl (cI, 2400, .inl f)), (l2, .inl (cI, 2400, .inl g)), (l3, .inl (cI, 2400, .inl kf)), (l4, .inl (cI, 2400, .inl kg)), (l5, .inl (cI, 4800, .inl ef)), (l6, .inl (cI, 4800, .inl eg)), (l7, .inl (cZ, 1120, .inl mt)), (l8, .inl (cI, 4, .inl fr)), (l9, .inl (cI, 4, .inl tt))] := hD
  refine lv_aload_n hx hb dM_clear_5 rfl (lv_at hl 0 rfl) ?_
  refine lv_iconst (v := nI 0) hx hb dM_clear_6 (by decide) ?_
  refine va_put (D := (dC, dI)) (ci := 2) (v := .int (nI 0)) (ty := .int) (C := RX2) (T := TM) (N := 15) hx hb hts (wsM00_in _) tyM tyM_ok nmM hown hK hP hD hS 0 rfl rfl 3 (by decide) (hts (.fieldLink RX2 45 "CharRowsModel" "size" "I") (by decide +kernel)) (fun _ h9 => h9) rfl (by decide +kernel) rfl rfl (Nat.le_of_ble_eq_true rfl) dM_clear_7 (fun H locs hP hD hS => ?_)
  have hP : va_P (dC, dI) crCl [(mo, .inr (2, [.int (nI 0), .ref l1, .ref l2, .int (nI 0), .ref l3, .ref l4, .int (nI nk), .ref l5, .ref l6, .int (nI mn), .ref l7, .ref l8, .ref l9, .int by0, .int fd])), (l1, .inl (cI, 2400, .inl f)), (l2, .inl (cI, 2400, .inl g)), (l3, .inl (cI, 2400, .inl kf)), (l4, .inl (cI, 2400, .inl kg)), (l5, .inl (cI, 4800, .inl ef)), (l6, .inl (cI, 4800, .inl eg)), (l7, .inl (cZ, 1120, .inl mt)), (l8, .inl (cI, 4, .inl fr)), (l9, .inl (cI, 4, .inl tt))] H := hP
  have hD : va_D A [(mo, .inr (2, [.int (nI 0), .ref l1, .ref l2, .int (nI 0), .ref l3, .ref l4, .int (nI nk), .ref l5, .ref l6, .int (nI mn), .ref l7, .ref l8, .ref l9, .int by0, .int fd])), (l1, .inl (cI, 2400, .inl f)), (l2, .inl (cI, 2400, .inl g)), (l3, .inl (cI, 2400, .inl kf)), (l4, .inl (cI, 2400, .inl kg)), (l5, .inl (cI, 4800, .inl ef)), (l6, .inl (cI, 4800, .inl eg)), (l7, .inl (cZ, 1120, .inl mt)), (l8, .inl (cI, 4, .inl fr)), (l9, .inl (cI, 4, .inl tt))] := hD
  exact W.vret hx hb hr (fun t9 ht9 hW9 => ⟨⟨[(mo, .inr (2, [.int (nI 0), .ref l1, .ref l2, .int (nI 0), .ref l3, .ref l4, .int (nI nk), .ref l5, .ref l6, .int (nI mn), .ref l7, .ref l8, .ref l9, .int by0, .int fd])), (l1, .inl (cI, 2400, .inl f)), (l2, .inl (cI, 2400, .inl g)), (l3, .inl (cI, 2400, .inl kf)), (l4, .inl (cI, 2400, .inl kg)), (l5, .inl (cI, 4800, .inl ef)), (l6, .inl (cI, 4800, .inl eg)), (l7, .inl (cZ, 1120, .inl mt)), (l8, .inl (cI, 4, .inl fr)), (l9, .inl (cI, 4, .inl tt))], rfl, rfl, by rw [ht9]; exact hP, va_K.moved hW9.alike hK, hD⟩, hS.F ht9⟩) hS.2.2 dM_clear_10

set_option maxHeartbeats 4000000 in
set_option maxRecDepth 100000 in
theorem m_ranges (l : Launch) (dC : Nat → ClassId) (dI : Nat → Nat → Nat) (sz : Nat) (mo l1 l2 l3 l4 l5 l6 l7 l8 l9 : Nat) (cI cZ : ClassId) (th by0 fd : Int32) (n nk mn : Nat) (f g kf kg ef eg mt fr tt : Nat → Int32) : Met l yM_ranges wsM_ranges ({ frames := 1, cells := 0, slots := 0, locals := 20 }) (va_Pc [.ref mo] (cr_pre dC dI [(cI, .int), (cZ, .boolean)] [(mo, .inr (2, [.int th, .ref l1, .ref l2, .int (nI n), .ref l3, .ref l4, .int (nI nk), .ref l5, .ref l6, .int (nI mn), .ref l7, .ref l8, .ref l9, .int by0, .int fd])), (l1, .inl (cI, 2400, .inl f)), (l2, .inl (cI, 2400, .inl g)), (l3, .inl (cI, 2400, .inl kf)), (l4, .inl (cI, 2400, .inl kg)), (l5, .inl (cI, 4800, .inl ef)), (l6, .inl (cI, 4800, .inl eg)), (l7, .inl (cZ, 1120, .inl mt)), (l8, .inl (cI, 4, .inl fr)), (l9, .inl (cI, 4, .inl tt))] sz)) (va_Qi (fun (rr : Int32) (u : va_W) => u = [(mo, .inr (2, [.int (nI 0), .ref l1, .ref l2, .int (nI n), .ref l3, .ref l4, .int (nI nk), .ref l5, .ref l6, .int (nI mn), .ref l7, .ref l8, .ref l9, .int by0, .int fd])), (l1, .inl (cI, 2400, .inl f)), (l2, .inl (cI, 2400, .inl g)), (l3, .inl (cI, 2400, .inl kf)), (l4, .inl (cI, 2400, .inl kg)), (l5, .inl (cI, 4800, .inl ef)), (l6, .inl (cI, 4800, .inl eg)), (l7, .inl (cZ, 1120, .inl mt)), (l8, .inl (cI, 4, .inl fr)), (l9, .inl (cI, 4, .inl tt))] ∧ rr = nI n) (cr_at dC dI [(cI, .int), (cZ, .boolean)] (va_A [(mo, .inr (2, [.int th, .ref l1, .ref l2, .int (nI n), .ref l3, .ref l4, .int (nI nk), .ref l5, .ref l6, .int (nI mn), .ref l7, .ref l8, .ref l9, .int by0, .int fd])), (l1, .inl (cI, 2400, .inl f)), (l2, .inl (cI, 2400, .inl g)), (l3, .inl (cI, 2400, .inl kf)), (l4, .inl (cI, 2400, .inl kg)), (l5, .inl (cI, 4800, .inl ef)), (l6, .inl (cI, 4800, .inl eg)), (l7, .inl (cZ, 1120, .inl mt)), (l8, .inl (cI, 4, .inl fr)), (l9, .inl (cI, 4, .inl tt))] sz)) (va_A [(mo, .inr (2, [.int th, .ref l1, .ref l2, .int (nI n), .ref l3, .ref l4, .int (nI nk), .ref l5, .ref l6, .int (nI mn), .ref l7, .ref l8, .ref l9, .int by0, .int fd])), (l1, .inl (cI, 2400, .inl f)), (l2, .inl (cI, 2400, .inl g)), (l3, .inl (cI, 2400, .inl kf)), (l4, .inl (cI, 2400, .inl kg)), (l5, .inl (cI, 4800, .inl ef)), (l6, .inl (cI, 4800, .inl eg)), (l7, .inl (cZ, 1120, .inl mt)), (l8, .inl (cI, 4, .inl fr)), (l9, .inl (cI, 4, .inl tt))] sz)) 0 0 (va_A [(mo, .inr (2, [.int th, .ref l1, .ref l2, .int (nI n), .ref l3, .ref l4, .int (nI nk), .ref l5, .ref l6, .int (nI mn), .ref l7, .ref l8, .ref l9, .int by0, .int fd])), (l1, .inl (cI, 2400, .inl f)), (l2, .inl (cI, 2400, .inl g)), (l3, .inl (cI, 2400, .inl kf)), (l4, .inl (cI, 2400, .inl kg)), (l5, .inl (cI, 4800, .inl ef)), (l6, .inl (cI, 4800, .inl eg)), (l7, .inl (cZ, 1120, .inl mt)), (l8, .inl (cI, 4, .inl fr)), (l9, .inl (cI, 4, .inl tt))] sz) := by
  refine Met.ofW (cc := cM_ranges) (maxL := 1) (ret := (some .int)) (by decide) rfl ?_
  intro p e s m args below meth c s₁ B hml hv
  obtain ⟨rfl, hsz, hP, hK, hD0⟩ := hv
  have hx := B.exec
  have hb := B.bytes
  have hr := B.returns
  have hts := atoms_spec (ws := wsM_ranges) B.pre
  have hown : s.vm.findClass RX2 = some m.cls := findClass_of_methodNamed B.named
  have hlocks := B.notSynchronized
  subst hsz
  have hD := hD0.self (sz := s.heap.size)
  generalize hAe : va_A [(mo, .inr (2, [.int th, .ref l1, .ref l2, .int (nI n), .ref l3, .ref l4, .int (nI nk), .ref l5, .ref l6, .int (nI mn), .ref l7, .ref l8, .ref l9, .int by0, .int fd])), (l1, .inl (cI, 2400, .inl f)), (l2, .inl (cI, 2400, .inl g)), (l3, .inl (cI, 2400, .inl kf)), (l4, .inl (cI, 2400, .inl kg)), (l5, .inl (cI, 4800, .inl ef)), (l6, .inl (cI, 4800, .inl eg)), (l7, .inl (cZ, 1120, .inl mt)), (l8, .inl (cI, 4, .inl fr)), (l9, .inl (cI, 4, .inl tt))] s.heap.size = A at hD ⊢
  have hA : ∀ q : Nat, s.heap.size ≤ q → A q := fun q h => by rw [← hAe]; exact Or.inr h
  have hS : va_S A s.heap s.heap [] := va_S.rf
  have hP : va_P (dC, dI) crCl [(mo, .inr (2, [.int th, .ref l1, .ref l2, .int (nI n), .ref l3, .ref l4, .int (nI nk), .ref l5, .ref l6, .int (nI mn), .ref l7, .ref l8, .ref l9, .int by0, .int fd])), (l1, .inl (cI, 2400, .inl f)), (l2, .inl (cI, 2400, .inl g)), (l3, .inl (cI, 2400, .inl kf)), (l4, .inl (cI, 2400, .inl kg)), (l5, .inl (cI, 4800, .inl ef)), (l6, .inl (cI, 4800, .inl eg)), (l7, .inl (cZ, 1120, .inl mt)), (l8, .inl (cI, 4, .inl fr)), (l9, .inl (cI, 4, .inl tt))] s.heap := hP
  have hl := lv_entry ([.ref mo]) (n := 1) (Nat.le_of_ble_eq_true rfl)
  rw [lg_entry_eq]
  generalize (lg_sl ([.ref mo]) ++ List.replicate (1 - (lg_sl ([.ref mo])).length) Slot.unset).toArray = ls at hl ⊢
  have hl : lv_has ls 1 [(0, .ref mo)] := hl
  refine lv_aload_n hx hb dM_ranges_0 rfl (lv_at hl 0 rfl) ?_
  refine lv_iconst (v := nI 0) hx hb dM_ranges_1 (by decide) ?_
  refine va_put (D := (dC, dI)) (ci := 2) (v := .int (nI 0)) (ty := .int) (C := RX2) (T := TM) (N := 15) hx hb hts (wsM00_in _) tyM tyM_ok nmM hown hK hP hD hS 0 rfl rfl 0 (by decide) (hts (.fieldLink RX2 38 "CharRowsModel" "thrown" "I") (by decide +kernel)) (fun _ h9 => h9) rfl (by decide +kernel) rfl rfl (Nat.le_of_ble_eq_true rfl) dM_ranges_2 (fun H locs hP hD hS => ?_)
  have hP : va_P (dC, dI) crCl [(mo, .inr (2, [.int (nI 0), .ref l1, .ref l2, .int (nI n), .ref l3, .ref l4, .int (nI nk), .ref l5, .ref l6, .int (nI mn), .ref l7, .ref l8, .ref l9, .int by0, .int fd])), (l1, .inl (cI, 2400, .inl f)), (l2, .inl (cI, 2400, .inl g)), (l3, .inl (cI, 2400, .inl kf)), (l4, .inl (cI, 2400, .inl kg)), (l5, .inl (cI, 4800, .inl ef)), (l6, .inl (cI, 4800, .inl eg)), (l7, .inl (cZ, 1120, .inl mt)), (l8, .inl (cI, 4, .inl fr)), (l9, .inl (cI, 4, .inl tt))] H := hP
  have hD : va_D A [(mo, .inr (2, [.int (nI 0), .ref l1, .ref l2, .int (nI n), .ref l3, .ref l4, .int (nI nk), .ref l5, .ref l6, .int (nI mn), .ref l7, .ref l8, .ref l9, .int by0, .int fd])), (l1, .inl (cI, 2400, .inl f)), (l2, .inl (cI, 2400, .inl g)), (l3, .inl (cI, 2400, .inl kf)), (l4, .inl (cI, 2400, .inl kg)), (l5, .inl (cI, 4800, .inl ef)), (l6, .inl (cI, 4800, .inl eg)), (l7, .inl (cZ, 1120, .inl mt)), (l8, .inl (cI, 4, .inl fr)), (l9, .inl (cI, 4, .inl tt))] := hD
  refine lv_aload_n hx hb dM_ranges_5 rfl (lv_at hl 0 rfl) ?_
  refine va_get (D := (dC, dI)) (ci := 2) (v := .int (nI n)) (C := RX2) (T := TM) (N := 15) hx hb hts (wsM00_in _) hown hK hP 0 rfl rfl 3 (by decide) (hts (.fieldLink RX2 45 "CharRowsModel" "size" "I") (by decide +kernel)) (fun _ h9 => h9) rfl dM_ranges_6 ?_
  exact W.iret (v := nI n) hx hb hr (fun t9 ht9 hW9 => ⟨⟨nI n, [(mo, .inr (2, [.int (nI 0), .ref l1, .ref l2, .int (nI n), .ref l3, .ref l4, .int (nI nk), .ref l5, .ref l6, .int (nI mn), .ref l7, .ref l8, .ref l9, .int by0, .int fd])), (l1, .inl (cI, 2400, .inl f)), (l2, .inl (cI, 2400, .inl g)), (l3, .inl (cI, 2400, .inl kf)), (l4, .inl (cI, 2400, .inl kg)), (l5, .inl (cI, 4800, .inl ef)), (l6, .inl (cI, 4800, .inl eg)), (l7, .inl (cZ, 1120, .inl mt)), (l8, .inl (cI, 4, .inl fr)), (l9, .inl (cI, 4, .inl tt))], rfl, ⟨rfl, rfl⟩, by rw [ht9]; exact hP, va_K.moved hW9.alike hK, hD⟩, hS.F ht9⟩) hS.2.2 dM_ranges_9

set_option maxHeartbeats 4000000 in
set_option maxRecDepth 100000 in
theorem m_puts (l : Launch) (dC : Nat → ClassId) (dI : Nat → Nat → Nat) (sz : Nat) (mo l1 l2 l3 l4 l5 l6 l7 l8 l9 : Nat) (cI cZ : ClassId) (th by0 fd : Int32) (n nk mn : Nat) (f g kf kg ef eg mt fr tt : Nat → Int32) (E : Nat → Prop) (hEn : cr_Ent mn ef eg E) (hm : mn < 4800) (x y : Int32) (hxy : y.toInt < x.toInt ∨ (0 ≤ x.toInt ∧ y.toInt ≤ 1114111 ∧ (y.toInt < 55296 ∨ 57344 ≤ x.toInt))) : Met l yM_puts wsM_puts ({ frames := 1, cells := 0, slots := 0, locals := 20 }) (va_Pc [.ref mo, .int x, .int y] (cr_pre dC dI [(cI, .int), (cZ, .boolean)] [(mo, .inr (2, [.int th, .ref l1, .ref l2, .int (nI n), .ref l3, .ref l4, .int (nI nk), .ref l5, .ref l6, .int (nI mn), .ref l7, .ref l8, .ref l9, .int by0, .int fd])), (l1, .inl (cI, 2400, .inl f)), (l2, .inl (cI, 2400, .inl g)), (l3, .inl (cI, 2400, .inl kf)), (l4, .inl (cI, 2400, .inl kg)), (l5, .inl (cI, 4800, .inl ef)), (l6, .inl (cI, 4800, .inl eg)), (l7, .inl (cZ, 1120, .inl mt)), (l8, .inl (cI, 4, .inl fr)), (l9, .inl (cI, 4, .inl tt))] sz)) (va_Qv (fun (u : va_W) => ∃ (mn' : Nat) (ef' eg' : Nat → Int32), u = [(mo, .inr (2, [.int th, .ref l1, .ref l2, .int (nI n), .ref l3, .ref l4, .int (nI nk), .ref l5, .ref l6, .int (nI mn'), .ref l7, .ref l8, .ref l9, .int by0, .int fd])), (l1, .inl (cI, 2400, .inl f)), (l2, .inl (cI, 2400, .inl g)), (l3, .inl (cI, 2400, .inl kf)), (l4, .inl (cI, 2400, .inl kg)), (l5, .inl (cI, 4800, .inl ef')), (l6, .inl (cI, 4800, .inl eg')), (l7, .inl (cZ, 1120, .inl mt)), (l8, .inl (cI, 4, .inl fr)), (l9, .inl (cI, 4, .inl tt))] ∧ mn' ≤ mn + 1 ∧ cr_Ent mn' ef' eg' (fun c => E c ∨ (x.toInt ≤ (c : Int) ∧ (c : Int) ≤ y.toInt))) (cr_at dC dI [(cI, .int), (cZ, .boolean)] (va_A [(mo, .inr (2, [.int th, .ref l1, .ref l2, .int (nI n), .ref l3, .ref l4, .int (nI nk), .ref l5, .ref l6, .int (nI mn), .ref l7, .ref l8, .ref l9, .int by0, .int fd])), (l1, .inl (cI, 2400, .inl f)), (l2, .inl (cI, 2400, .inl g)), (l3, .inl (cI, 2400, .inl kf)), (l4, .inl (cI, 2400, .inl kg)), (l5, .inl (cI, 4800, .inl ef)), (l6, .inl (cI, 4800, .inl eg)), (l7, .inl (cZ, 1120, .inl mt)), (l8, .inl (cI, 4, .inl fr)), (l9, .inl (cI, 4, .inl tt))] sz)) (va_A [(mo, .inr (2, [.int th, .ref l1, .ref l2, .int (nI n), .ref l3, .ref l4, .int (nI nk), .ref l5, .ref l6, .int (nI mn), .ref l7, .ref l8, .ref l9, .int by0, .int fd])), (l1, .inl (cI, 2400, .inl f)), (l2, .inl (cI, 2400, .inl g)), (l3, .inl (cI, 2400, .inl kf)), (l4, .inl (cI, 2400, .inl kg)), (l5, .inl (cI, 4800, .inl ef)), (l6, .inl (cI, 4800, .inl eg)), (l7, .inl (cZ, 1120, .inl mt)), (l8, .inl (cI, 4, .inl fr)), (l9, .inl (cI, 4, .inl tt))] sz)) 0 0 (va_A [(mo, .inr (2, [.int th, .ref l1, .ref l2, .int (nI n), .ref l3, .ref l4, .int (nI nk), .ref l5, .ref l6, .int (nI mn), .ref l7, .ref l8, .ref l9, .int by0, .int fd])), (l1, .inl (cI, 2400, .inl f)), (l2, .inl (cI, 2400, .inl g)), (l3, .inl (cI, 2400, .inl kf)), (l4, .inl (cI, 2400, .inl kg)), (l5, .inl (cI, 4800, .inl ef)), (l6, .inl (cI, 4800, .inl eg)), (l7, .inl (cZ, 1120, .inl mt)), (l8, .inl (cI, 4, .inl fr)), (l9, .inl (cI, 4, .inl tt))] sz) := by
  refine Met.ofW (cc := cM_puts) (maxL := 3) (ret := none) (by decide) rfl ?_
  intro p e s m args below meth c s₁ B hml hv
  obtain ⟨rfl, hsz, hP, hK, hD0⟩ := hv
  have hx := B.exec
  have hb := B.bytes
  have hr := B.returns
  have hts := atoms_spec (ws := wsM_puts) B.pre
  have hown : s.vm.findClass RX2 = some m.cls := findClass_of_methodNamed B.named
  have hlocks := B.notSynchronized
  subst hsz
  have hD := hD0.self (sz := s.heap.size)
  generalize hAe : va_A [(mo, .inr (2, [.int th, .ref l1, .ref l2, .int (nI n), .ref l3, .ref l4, .int (nI nk), .ref l5, .ref l6, .int (nI mn), .ref l7, .ref l8, .ref l9, .int by0, .int fd])), (l1, .inl (cI, 2400, .inl f)), (l2, .inl (cI, 2400, .inl g)), (l3, .inl (cI, 2400, .inl kf)), (l4, .inl (cI, 2400, .inl kg)), (l5, .inl (cI, 4800, .inl ef)), (l6, .inl (cI, 4800, .inl eg)), (l7, .inl (cZ, 1120, .inl mt)), (l8, .inl (cI, 4, .inl fr)), (l9, .inl (cI, 4, .inl tt))] s.heap.size = A at hD ⊢
  have hA : ∀ q : Nat, s.heap.size ≤ q → A q := fun q h => by rw [← hAe]; exact Or.inr h
  have hS : va_S A s.heap s.heap [] := va_S.rf
  have hP : va_P (dC, dI) crCl [(mo, .inr (2, [.int th, .ref l1, .ref l2, .int (nI n), .ref l3, .ref l4, .int (nI nk), .ref l5, .ref l6, .int (nI mn), .ref l7, .ref l8, .ref l9, .int by0, .int fd])), (l1, .inl (cI, 2400, .inl f)), (l2, .inl (cI, 2400, .inl g)), (l3, .inl (cI, 2400, .inl kf)), (l4, .inl (cI, 2400, .inl kg)), (l5, .inl (cI, 4800, .inl ef)), (l6, .inl (cI, 4800, .inl eg)), (l7, .inl (cZ, 1120, .inl mt)), (l8, .inl (cI, 4, .inl fr)), (l9, .inl (cI, 4, .inl tt))] s.heap := hP
  have hl := lv_entry ([.ref mo, .int x, .int y]) (n := 3) (Nat.le_of_ble_eq_true rfl)
  rw [lg_entry_eq]
  generalize (lg_sl ([.ref mo, .int x, .int y]) ++ List.replicate (3 - (lg_sl ([.ref mo, .int x, .int y])).length) Slot.unset).toArray = ls at hl ⊢
  have hl : lv_has ls 3 [(0, .ref mo), (1, .int x), (2, .int y)] := hl
  refine lv_iload_n hx hb dM_puts_0 rfl (lv_at hl 1 rfl) ?_
  refine lv_iload_n hx hb dM_puts_1 rfl (lv_at hl 2 rfl) ?_
  refine lv_icmp_gt (tgt := 35) hx hb dM_puts_2 (by decide) (fun c_2 => ?_) (fun c_2 => ?_)
  · rw [Int32.lt_iff_toInt_lt] at c_2
    exact W.vret hx hb hr (fun t9 ht9 hW9 => ⟨⟨[(mo, .inr (2, [.int th, .ref l1, .ref l2, .int (nI n), .ref l3, .ref l4, .int (nI nk), .ref l5, .ref l6, .int (nI mn), .ref l7, .ref l8, .ref l9, .int by0, .int fd])), (l1, .inl (cI, 2400, .inl f)), (l2, .inl (cI, 2400, .inl g)), (l3, .inl (cI, 2400, .inl kf)), (l4, .inl (cI, 2400, .inl kg)), (l5, .inl (cI, 4800, .inl ef)), (l6, .inl (cI, 4800, .inl eg)), (l7, .inl (cZ, 1120, .inl mt)), (l8, .inl (cI, 4, .inl fr)), (l9, .inl (cI, 4, .inl tt))], rfl, ⟨mn, ef, eg, rfl, by omega, hEn.iff (fun c => ⟨Or.inl, fun h => h.elim id (fun q => absurd q (by omega))⟩)⟩, by rw [ht9]; exact hP, va_K.moved hW9.alike hK, hD⟩, hS.F ht9⟩) hS.2.2 dM_puts_35
  · rw [Int32.lt_iff_toInt_lt] at c_2
    obtain ⟨xa, hxa, rfl⟩ := cr_of (x := x) (by omega)
    obtain ⟨yb, hyb, rfl⟩ := cr_of (x := y) (by omega)
    rw [nI_toInt hxa, nI_toInt hyb] at hxy c_2
    refine lv_aload_n hx hb dM_puts_5 rfl (lv_at hl 0 rfl) ?_
    refine va_get (D := (dC, dI)) (ci := 2) (v := .ref l5) (C := RX2) (T := TM) (N := 15) hx hb hts (wsM00_in _) hown hK hP 0 rfl rfl 7 (by decide) (hts (.fieldLink RX2 22 "CharRowsModel" "newLow" "[I") (by decide +kernel)) (fun _ h9 => h9) rfl dM_puts_6 ?_
    refine lv_aload_n hx hb dM_puts_9 rfl (lv_at hl 0 rfl) ?_
    refine va_get (D := (dC, dI)) (ci := 2) (v := .int (nI mn)) (C := RX2) (T := TM) (N := 15) hx hb hts (wsM00_in _) hown hK hP 0 rfl rfl 9 (by decide) (hts (.fieldLink RX2 42 "CharRowsModel" "many" "I") (by decide +kernel)) (fun _ h9 => h9) rfl dM_puts_10 ?_
    refine lv_iload_n hx hb dM_puts_13 rfl (lv_at hl 1 rfl) ?_
    refine va_iast hx hb hK hP hD hS 5 0 rfl rfl (vp_in_nI (by omega) (by omega)) dM_puts_14 (fun H locs hP hD hS => ?_)
    have hP : va_P (dC, dI) crCl [(mo, .inr (2, [.int th, .ref l1, .ref l2, .int (nI n), .ref l3, .ref l4, .int (nI nk), .ref l5, .ref l6, .int (nI mn), .ref l7, .ref l8, .ref l9, .int by0, .int fd])), (l1, .inl (cI, 2400, .inl f)), (l2, .inl (cI, 2400, .inl g)), (l3, .inl (cI, 2400, .inl kf)), (l4, .inl (cI, 2400, .inl kg)), (l5, .inl (cI, 4800, .inl (upd ef (nI mn).toNatClampNeg (nI xa)))), (l6, .inl (cI, 4800, .inl eg)), (l7, .inl (cZ, 1120, .inl mt)), (l8, .inl (cI, 4, .inl fr)), (l9, .inl (cI, 4, .inl tt))] H := hP
    have hD : va_D A [(mo, .inr (2, [.int th, .ref l1, .ref l2, .int (nI n), .ref l3, .ref l4, .int (nI nk), .ref l5, .ref l6, .int (nI mn), .ref l7, .ref l8, .ref l9, .int by0, .int fd])), (l1, .inl (cI, 2400, .inl f)), (l2, .inl (cI, 2400, .inl g)), (l3, .inl (cI, 2400, .inl kf)), (l4, .inl (cI, 2400, .inl kg)), (l5, .inl (cI, 4800, .inl (upd ef (nI mn).toNatClampNeg (nI xa)))), (l6, .inl (cI, 4800, .inl eg)), (l7, .inl (cZ, 1120, .inl mt)), (l8, .inl (cI, 4, .inl fr)), (l9, .inl (cI, 4, .inl tt))] := hD
    rw [nI_clamp (show mn < 2 ^ 31 by omega)] at hP hD
    refine lv_aload_n hx hb dM_puts_15 rfl (lv_at hl 0 rfl) ?_
    refine va_get (D := (dC, dI)) (ci := 2) (v := .ref l6) (C := RX2) (T := TM) (N := 15) hx hb hts (wsM00_in _) hown hK hP 0 rfl rfl 8 (by decide) (hts (.fieldLink RX2 25 "CharRowsModel" "newHigh" "[I") (by decide +kernel)) (fun _ h9 => h9) rfl dM_puts_16 ?_
    refine lv_aload_n hx hb dM_puts_19 rfl (lv_at hl 0 rfl) ?_
    refine va_get (D := (dC, dI)) (ci := 2) (v := .int (nI mn)) (C := RX2) (T := TM) (N := 15) hx hb hts (wsM00_in _) hown hK hP 0 rfl rfl 9 (by decide) (hts (.fieldLink RX2 42 "CharRowsModel" "many" "I") (by decide +kernel)) (fun _ h9 => h9) rfl dM_puts_20 ?_
    refine lv_iload_n hx hb dM_puts_23 rfl (lv_at hl 2 rfl) ?_
    refine va_iast hx hb hK hP hD hS 6 0 rfl rfl (vp_in_nI (by omega) (by omega)) dM_puts_24 (fun H locs hP hD hS => ?_)
    have hP : va_P (dC, dI) crCl [(mo, .inr (2, [.int th, .ref l1, .ref l2, .int (nI n), .ref l3, .ref l4, .int (nI nk), .ref l5, .ref l6, .int (nI mn), .ref l7, .ref l8, .ref l9, .int by0, .int fd])), (l1, .inl (cI, 2400, .inl f)), (l2, .inl (cI, 2400, .inl g)), (l3, .inl (cI, 2400, .inl kf)), (l4, .inl (cI, 2400, .inl kg)), (l5, .inl (cI, 4800, .inl (upd ef mn (nI xa)))), (l6, .inl (cI, 4800, .inl (upd eg (nI mn).toNatClampNeg (nI yb)))), (l7, .inl (cZ, 1120, .inl mt)), (l8, .inl (cI, 4, .inl fr)), (l9, .inl (cI, 4, .inl tt))] H := hP
    have hD : va_D A [(mo, .inr (2, [.int th, .ref l1, .ref l2, .int (nI n), .ref l3, .ref l4, .int (nI nk), .ref l5, .ref l6, .int (nI mn), .ref l7, .ref l8, .ref l9, .int by0, .int fd])), (l1, .inl (cI, 2400, .inl f)), (l2, .inl (cI, 2400, .inl g)), (l3, .inl (cI, 2400, .inl kf)), (l4, .inl (cI, 2400, .inl kg)), (l5, .inl (cI, 4800, .inl (upd ef mn (nI xa)))), (l6, .inl (cI, 4800, .inl (upd eg (nI mn).toNatClampNeg (nI yb)))), (l7, .inl (cZ, 1120, .inl mt)), (l8, .inl (cI, 4, .inl fr)), (l9, .inl (cI, 4, .inl tt))] := hD
    rw [nI_clamp (show mn < 2 ^ 31 by omega)] at hP hD
    refine lv_aload_n hx hb dM_puts_25 rfl (lv_at hl 0 rfl) ?_
    refine lv_dup hx hb dM_puts_26 rfl ?_
    refine va_get (D := (dC, dI)) (ci := 2) (v := .int (nI mn)) (C := RX2) (T := TM) (N := 15) hx hb hts (wsM00_in _) hown hK hP 0 rfl rfl 9 (by decide) (hts (.fieldLink RX2 42 "CharRowsModel" "many" "I") (by decide +kernel)) (fun _ h9 => h9) rfl dM_puts_27 ?_
    refine lv_iconst (v := nI 1) hx hb dM_puts_30 (by decide) ?_
    refine lv_iadd hx hb dM_puts_31 ?_
    refine cr_top (y := nI (mn + 1)) (nI_add mn 1) ?_
    refine va_put (D := (dC, dI)) (ci := 2) (v := .int (nI (mn + 1))) (ty := .int) (C := RX2) (T := TM) (N := 15) hx hb hts (wsM00_in _) tyM tyM_ok nmM hown hK hP hD hS 0 rfl rfl 9 (by decide) (hts (.fieldLink RX2 42 "CharRowsModel" "many" "I") (by decide +kernel)) (fun _ h9 => h9) rfl (by decide +kernel) rfl rfl (Nat.le_of_ble_eq_true rfl) dM_puts_32 (fun H locs hP hD hS => ?_)
    have hP : va_P (dC, dI) crCl [(mo, .inr (2, [.int th, .ref l1, .ref l2, .int (nI n), .ref l3, .ref l4, .int (nI nk), .ref l5, .ref l6, .int (nI (mn + 1)), .ref l7, .ref l8, .ref l9, .int by0, .int fd])), (l1, .inl (cI, 2400, .inl f)), (l2, .inl (cI, 2400, .inl g)), (l3, .inl (cI, 2400, .inl kf)), (l4, .inl (cI, 2400, .inl kg)), (l5, .inl (cI, 4800, .inl (upd ef mn (nI xa)))), (l6, .inl (cI, 4800, .inl (upd eg mn (nI yb)))), (l7, .inl (cZ, 1120, .inl mt)), (l8, .inl (cI, 4, .inl fr)), (l9, .inl (cI, 4, .inl tt))] H := hP
    have hD : va_D A [(mo, .inr (2, [.int th, .ref l1, .ref l2, .int (nI n), .ref l3, .ref l4, .int (nI nk), .ref l5, .ref l6, .int (nI (mn + 1)), .ref l7, .ref l8, .ref l9, .int by0, .int fd])), (l1, .inl (cI, 2400, .inl f)), (l2, .inl (cI, 2400, .inl g)), (l3, .inl (cI, 2400, .inl kf)), (l4, .inl (cI, 2400, .inl kg)), (l5, .inl (cI, 4800, .inl (upd ef mn (nI xa)))), (l6, .inl (cI, 4800, .inl (upd eg mn (nI yb)))), (l7, .inl (cZ, 1120, .inl mt)), (l8, .inl (cI, 4, .inl fr)), (l9, .inl (cI, 4, .inl tt))] := hD
    exact W.vret hx hb hr (fun t9 ht9 hW9 => ⟨⟨[(mo, .inr (2, [.int th, .ref l1, .ref l2, .int (nI n), .ref l3, .ref l4, .int (nI nk), .ref l5, .ref l6, .int (nI (mn + 1)), .ref l7, .ref l8, .ref l9, .int by0, .int fd])), (l1, .inl (cI, 2400, .inl f)), (l2, .inl (cI, 2400, .inl g)), (l3, .inl (cI, 2400, .inl kf)), (l4, .inl (cI, 2400, .inl kg)), (l5, .inl (cI, 4800, .inl (upd ef mn (nI xa)))), (l6, .inl (cI, 4800, .inl (upd eg mn (nI yb)))), (l7, .inl (cZ, 1120, .inl mt)), (l8, .inl (cI, 4, .inl fr)), (l9, .inl (cI, 4, .inl tt))], rfl, ⟨mn + 1, _, _, rfl, Nat.le_refl _, (hEn.push (a := xa) (b := yb) ⟨by omega, by omega, by omega⟩).iff (fun c => by rw [nI_toInt hxa, nI_toInt hyb]; exact or_congr_right (by omega))⟩, by rw [ht9]; exact hP, va_K.moved hW9.alike hK, hD⟩, hS.F ht9⟩) hS.2.2 dM_puts_35

set_option maxHeartbeats 4000000 in
set_option maxRecDepth 100000 in
theorem m_putsSet (l : Launch) (dC : Nat → ClassId) (dI : Nat → Nat → Nat) (sz : Nat) (mo l1 l2 l3 l4 l5 l6 l7 l8 l9 : Nat) (cI cZ : ClassId) (th by0 fd : Int32) (n nk mn : Nat) (f g kf kg ef eg mt fr tt : Nat → Int32) (S E : Nat → Prop) (hSet : cr_Set n f g S) (hEn : cr_Ent mn ef eg E) (hn : n ≤ 2400) (hm : mn + n ≤ 4800) : Met l yM_putsSet wsM_putsSet ({ frames := 2, cells := 0, slots := 0, locals := 60 }) (va_Pc [.ref mo] (cr_pre dC dI [(cI, .int), (cZ, .boolean)] [(mo, .inr (2, [.int th, .ref l1, .ref l2, .int (nI n), .ref l3, .ref l4, .int (nI nk), .ref l5, .ref l6, .int (nI mn), .ref l7, .ref l8, .ref l9, .int by0, .int fd])), (l1, .inl (cI, 2400, .inl f)), (l2, .inl (cI, 2400, .inl g)), (l3, .inl (cI, 2400, .inl kf)), (l4, .inl (cI, 2400, .inl kg)), (l5, .inl (cI, 4800, .inl ef)), (l6, .inl (cI, 4800, .inl eg)), (l7, .inl (cZ, 1120, .inl mt)), (l8, .inl (cI, 4, .inl fr)), (l9, .inl (cI, 4, .inl tt))] sz)) (va_Qv (fun (u : va_W) => ∃ (mn' : Nat) (ef' eg' : Nat → Int32), u = [(mo, .inr (2, [.int th, .ref l1, .ref l2, .int (nI n), .ref l3, .ref l4, .int (nI nk), .ref l5, .ref l6, .int (nI mn'), .ref l7, .ref l8, .ref l9, .int by0, .int fd])), (l1, .inl (cI, 2400, .inl f)), (l2, .inl (cI, 2400, .inl g)), (l3, .inl (cI, 2400, .inl kf)), (l4, .inl (cI, 2400, .inl kg)), (l5, .inl (cI, 4800, .inl ef')), (l6, .inl (cI, 4800, .inl eg')), (l7, .inl (cZ, 1120, .inl mt)), (l8, .inl (cI, 4, .inl fr)), (l9, .inl (cI, 4, .inl tt))] ∧ mn' ≤ mn + n ∧ cr_Ent mn' ef' eg' (fun c => E c ∨ S c)) (cr_at dC dI [(cI, .int), (cZ, .boolean)] (va_A [(mo, .inr (2, [.int th, .ref l1, .ref l2, .int (nI n), .ref l3, .ref l4, .int (nI nk), .ref l5, .ref l6, .int (nI mn), .ref l7, .ref l8, .ref l9, .int by0, .int fd])), (l1, .inl (cI, 2400, .inl f)), (l2, .inl (cI, 2400, .inl g)), (l3, .inl (cI, 2400, .inl kf)), (l4, .inl (cI, 2400, .inl kg)), (l5, .inl (cI, 4800, .inl ef)), (l6, .inl (cI, 4800, .inl eg)), (l7, .inl (cZ, 1120, .inl mt)), (l8, .inl (cI, 4, .inl fr)), (l9, .inl (cI, 4, .inl tt))] sz)) (va_A [(mo, .inr (2, [.int th, .ref l1, .ref l2, .int (nI n), .ref l3, .ref l4, .int (nI nk), .ref l5, .ref l6, .int (nI mn), .ref l7, .ref l8, .ref l9, .int by0, .int fd])), (l1, .inl (cI, 2400, .inl f)), (l2, .inl (cI, 2400, .inl g)), (l3, .inl (cI, 2400, .inl kf)), (l4, .inl (cI, 2400, .inl kg)), (l5, .inl (cI, 4800, .inl ef)), (l6, .inl (cI, 4800, .inl eg)), (l7, .inl (cZ, 1120, .inl mt)), (l8, .inl (cI, 4, .inl fr)), (l9, .inl (cI, 4, .inl tt))] sz)) 0 0 (va_A [(mo, .inr (2, [.int th, .ref l1, .ref l2, .int (nI n), .ref l3, .ref l4, .int (nI nk), .ref l5, .ref l6, .int (nI mn), .ref l7, .ref l8, .ref l9, .int by0, .int fd])), (l1, .inl (cI, 2400, .inl f)), (l2, .inl (cI, 2400, .inl g)), (l3, .inl (cI, 2400, .inl kf)), (l4, .inl (cI, 2400, .inl kg)), (l5, .inl (cI, 4800, .inl ef)), (l6, .inl (cI, 4800, .inl eg)), (l7, .inl (cZ, 1120, .inl mt)), (l8, .inl (cI, 4, .inl fr)), (l9, .inl (cI, 4, .inl tt))] sz) := by
  refine Met.ofW (cc := cM_putsSet) (maxL := 2) (ret := none) (by decide) rfl ?_
  intro p e s m args below meth c s₁ B hml hv
  obtain ⟨rfl, hsz, hP, hK, hD0⟩ := hv
  have hx := B.exec
  have hb := B.bytes
  have hr := B.returns
  have hts := atoms_spec (ws := wsM_putsSet) B.pre
  have hown : s.vm.findClass RX2 = some m.cls := findClass_of_methodNamed B.named
  have hlocks := B.notSynchronized
  subst hsz
  have hD := hD0.self (sz := s.heap.size)
  generalize hAe : va_A [(mo, .inr (2, [.int th, .ref l1, .ref l2, .int (nI n), .ref l3, .ref l4, .int (nI nk), .ref l5, .ref l6, .int (nI mn), .ref l7, .ref l8, .ref l9, .int by0, .int fd])), (l1, .inl (cI, 2400, .inl f)), (l2, .inl (cI, 2400, .inl g)), (l3, .inl (cI, 2400, .inl kf)), (l4, .inl (cI, 2400, .inl kg)), (l5, .inl (cI, 4800, .inl ef)), (l6, .inl (cI, 4800, .inl eg)), (l7, .inl (cZ, 1120, .inl mt)), (l8, .inl (cI, 4, .inl fr)), (l9, .inl (cI, 4, .inl tt))] s.heap.size = A at hD ⊢
  have hA : ∀ q : Nat, s.heap.size ≤ q → A q := fun q h => by rw [← hAe]; exact Or.inr h
  have hS : va_S A s.heap s.heap [] := va_S.rf
  have hP : va_P (dC, dI) crCl [(mo, .inr (2, [.int th, .ref l1, .ref l2, .int (nI n), .ref l3, .ref l4, .int (nI nk), .ref l5, .ref l6, .int (nI mn), .ref l7, .ref l8, .ref l9, .int by0, .int fd])), (l1, .inl (cI, 2400, .inl f)), (l2, .inl (cI, 2400, .inl g)), (l3, .inl (cI, 2400, .inl kf)), (l4, .inl (cI, 2400, .inl kg)), (l5, .inl (cI, 4800, .inl ef)), (l6, .inl (cI, 4800, .inl eg)), (l7, .inl (cZ, 1120, .inl mt)), (l8, .inl (cI, 4, .inl fr)), (l9, .inl (cI, 4, .inl tt))] s.heap := hP
  have hl := lv_entry ([.ref mo]) (n := 2) (Nat.le_of_ble_eq_true rfl)
  rw [lg_entry_eq]
  generalize (lg_sl ([.ref mo]) ++ List.replicate (2 - (lg_sl ([.ref mo])).length) Slot.unset).toArray = ls at hl ⊢
  have hl : lv_has ls 2 [(0, .ref mo)] := hl
  obtain ⟨lo, hi, hR, hO, hI⟩ := hSet
  refine lv_iconst (v := nI 0) hx hb dM_putsSet_0 (by decide) ?_
  refine lv_istore_n (lv' := [(1, .int (nI 0)), (0, .ref mo)]) hx hb dM_putsSet_1 rfl hl (by decide) rfl (fun ls hl => ?_)
  refine cr_lp4 (fun (k : Nat) (m1 : Nat) (e1 : Nat → Int32) (d1 : Nat → Int32) => n - k) (fun (k : Nat) (m1 : Nat) (e1 : Nat → Int32) (d1 : Nat → Int32) H locs ls => (k ≤ n ∧ m1 ≤ mn + k ∧ cr_Ent m1 e1 d1 (fun c => E c ∨ cr_In k lo hi c)) ∧ va_P (dC, dI) crCl [(mo, .inr (2, [.int th, .ref l1, .ref l2, .int (nI n), .ref l3, .ref l4, .int (nI nk), .ref l5, .ref l6, .int (nI m1), .ref l7, .ref l8, .ref l9, .int by0, .int fd])), (l1, .inl (cI, 2400, .inl f)), (l2, .inl (cI, 2400, .inl g)), (l3, .inl (cI, 2400, .inl kf)), (l4, .inl (cI, 2400, .inl kg)), (l5, .inl (cI, 4800, .inl e1)), (l6, .inl (cI, 4800, .inl d1)), (l7, .inl (cZ, 1120, .inl mt)), (l8, .inl (cI, 4, .inl fr)), (l9, .inl (cI, 4, .inl tt))] H ∧ va_D A [(mo, .inr (2, [.int th, .ref l1, .ref l2, .int (nI n), .ref l3, .ref l4, .int (nI nk), .ref l5, .ref l6, .int (nI m1), .ref l7, .ref l8, .ref l9, .int by0, .int fd])), (l1, .inl (cI, 2400, .inl f)), (l2, .inl (cI, 2400, .inl g)), (l3, .inl (cI, 2400, .inl kf)), (l4, .inl (cI, 2400, .inl kg)), (l5, .inl (cI, 4800, .inl e1)), (l6, .inl (cI, 4800, .inl d1)), (l7, .inl (cZ, 1120, .inl mt)), (l8, .inl (cI, 4, .inl fr)), (l9, .inl (cI, 4, .inl tt))] ∧ va_S A s.heap H locs ∧ lv_has ls 2 [(0, .ref mo), (1, .int (nI k))]) ?_ 0 mn ef eg ⟨⟨Nat.zero_le _, Nat.le_refl _, hEn.iff (fun c => cr_In_zero)⟩, hP, hD, hS, lv_sub hl [1, 0] rfl⟩
  intro k m1 e1 d1 H locs ls hI2 ih2
  obtain ⟨⟨h1, h2, h3⟩, hP, hD, hS, hl⟩ := hI2
  refine lv_iload_n hx hb dM_putsSet_2 rfl (lv_at hl 1 rfl) ?_
  refine lv_aload_n hx hb dM_putsSet_3 rfl (lv_at hl 0 rfl) ?_
  refine va_get (D := (dC, dI)) (ci := 2) (v := .int (nI n)) (C := RX2) (T := TM) (N := 15) hx hb hts (wsM00_in _) hown hK hP 0 rfl rfl 3 (by decide) (hts (.fieldLink RX2 45 "CharRowsModel" "size" "I") (by decide +kernel)) (fun _ h9 => h9) rfl dM_putsSet_4 ?_
  refine lv_icmp_ge (tgt := 32) hx hb dM_putsSet_7 (by decide) (fun c_7 => ?_) (fun c_7 => ?_)
  · rw [nI_leI (by omega) (by omega)] at c_7
    exact W.vret hx hb hr (fun t9 ht9 hW9 => ⟨⟨[(mo, .inr (2, [.int th, .ref l1, .ref l2, .int (nI n), .ref l3, .ref l4, .int (nI nk), .ref l5, .ref l6, .int (nI m1), .ref l7, .ref l8, .ref l9, .int by0, .int fd])), (l1, .inl (cI, 2400, .inl f)), (l2, .inl (cI, 2400, .inl g)), (l3, .inl (cI, 2400, .inl kf)), (l4, .inl (cI, 2400, .inl kg)), (l5, .inl (cI, 4800, .inl e1)), (l6, .inl (cI, 4800, .inl d1)), (l7, .inl (cZ, 1120, .inl mt)), (l8, .inl (cI, 4, .inl fr)), (l9, .inl (cI, 4, .inl tt))], rfl, ⟨m1, e1, d1, rfl, by omega, h3.iff (fun c => by rw [show k = n from (by omega), hI c])⟩, by rw [ht9]; exact hP, va_K.moved hW9.alike hK, hD⟩, hS.F ht9⟩) hS.2.2 dM_putsSet_32
  · rw [nI_leI (by omega) (by omega)] at c_7
    have hok := hO.1 k (by omega)
    refine lv_aload_n hx hb dM_putsSet_10 rfl (lv_at hl 0 rfl) ?_
    refine lv_aload_n hx hb dM_putsSet_11 rfl (lv_at hl 0 rfl) ?_
    refine va_get (D := (dC, dI)) (ci := 2) (v := .ref l1) (C := RX2) (T := TM) (N := 15) hx hb hts (wsM00_in _) hown hK hP 0 rfl rfl 1 (by decide) (hts (.fieldLink RX2 7 "CharRowsModel" "low" "[I") (by decide +kernel)) (fun _ h9 => h9) rfl dM_putsSet_12 ?_
    refine lv_iload_n hx hb dM_putsSet_15 rfl (lv_at hl 1 rfl) ?_
    refine va_iald hx hb hK hP 1 0 rfl rfl (vp_in_nI (by omega) (by omega)) dM_putsSet_16 ?_
    refine cr_top (y := nI (lo k)) (by rw [nI_clamp (by omega)]; exact (hR _ (by omega)).1) ?_
    refine lv_aload_n hx hb dM_putsSet_17 rfl (lv_at hl 0 rfl) ?_
    refine va_get (D := (dC, dI)) (ci := 2) (v := .ref l2) (C := RX2) (T := TM) (N := 15) hx hb hts (wsM00_in _) hown hK hP 0 rfl rfl 2 (by decide) (hts (.fieldLink RX2 13 "CharRowsModel" "high" "[I") (by decide +kernel)) (fun _ h9 => h9) rfl dM_putsSet_18 ?_
    refine lv_iload_n hx hb dM_putsSet_21 rfl (lv_at hl 1 rfl) ?_
    refine va_iald hx hb hK hP 2 0 rfl rfl (vp_in_nI (by omega) (by omega)) dM_putsSet_22 ?_
    refine cr_top (y := nI (hi k)) (by rw [nI_clamp (by omega)]; exact (hR _ (by omega)).2) ?_
    have hPc := hP.sub (ws' := [(mo, .inr (2, [.int th, .ref l1, .ref l2, .int (nI n), .ref l3, .ref l4, .int (nI nk), .ref l5, .ref l6, .int (nI m1), .ref l7, .ref l8, .ref l9, .int by0, .int fd])), (l1, .inl (cI, 2400, .inl f)), (l2, .inl (cI, 2400, .inl g)), (l3, .inl (cI, 2400, .inl kf)), (l4, .inl (cI, 2400, .inl kg)), (l5, .inl (cI, 4800, .inl e1)), (l6, .inl (cI, 4800, .inl d1)), (l7, .inl (cZ, 1120, .inl mt)), (l8, .inl (cI, 4, .inl fr)), (l9, .inl (cI, 4, .inl tt))]) [0, 1, 2, 3, 4, 5, 6, 7, 8, 9] rfl
    have hDc := hD.sub (ws' := [(mo, .inr (2, [.int th, .ref l1, .ref l2, .int (nI n), .ref l3, .ref l4, .int (nI nk), .ref l5, .ref l6, .int (nI m1), .ref l7, .ref l8, .ref l9, .int by0, .int fd])), (l1, .inl (cI, 2400, .inl f)), (l2, .inl (cI, 2400, .inl g)), (l3, .inl (cI, 2400, .inl kf)), (l4, .inl (cI, 2400, .inl kg)), (l5, .inl (cI, 4800, .inl e1)), (l6, .inl (cI, 4800, .inl d1)), (l7, .inl (cZ, 1120, .inl mt)), (l8, .inl (cI, 4, .inl fr)), (l9, .inl (cI, 4, .inl tt))]) [0, 1, 2, 3, 4, 5, 6, 7, 8, 9] (by decide) rfl
    have hFc := va_free (wc := [(mo, .inr (2, [.int th, .ref l1, .ref l2, .int (nI n), .ref l3, .ref l4, .int (nI nk), .ref l5, .ref l6, .int (nI m1), .ref l7, .ref l8, .ref l9, .int by0, .int fd])), (l1, .inl (cI, 2400, .inl f)), (l2, .inl (cI, 2400, .inl g)), (l3, .inl (cI, 2400, .inl kf)), (l4, .inl (cI, 2400, .inl kg)), (l5, .inl (cI, 4800, .inl e1)), (l6, .inl (cI, 4800, .inl d1)), (l7, .inl (cZ, 1120, .inl mt)), (l8, .inl (cI, 4, .inl fr)), (l9, .inl (cI, 4, .inl tt))]) hD hS hA [0, 1, 2, 3, 4, 5, 6, 7, 8, 9] rfl
    refine va_callv (va_runV (As := [.int (nI (lo k)), .int (nI (hi k))]) (rest := []) ⟨hx, hb, hml, hown, hts⟩ (m_puts l dC dI _ mo l1 l2 l3 l4 l5 l6 l7 l8 l9 cI cZ th by0 fd n nk m1 f g kf kg e1 d1 mt fr tt _ h3 (by omega) (nI (lo k)) (nI (hi k)) (by rw [nI_toInt (by omega), nI_toInt (by omega)]; omega)) (cwV 2 hts gM_putsSet_M_puts rfl rfl rfl (by decide +kernel) ⟨Nat.le_of_ble_eq_true rfl, Nat.le_of_ble_eq_true rfl⟩) (cr_preV hPc hK hDc (ci := 2) (q0 := 0) rfl rfl) rfl rfl hl.1 rfl (lv_room (Nat.le_of_ble_eq_true rfl)) dM_putsSet_23 ⟨Nat.zero_le _, Nat.zero_le _⟩) hS (fun q _ h => hFc q h) hFc (fun u_23 t_23 H_23 locs ht_23 hvm_23 hw_23 hB_23 hz_23 hk_23 hS => ?_)
    obtain ⟨m2, e2, d2, rfl, hm2, hEn2⟩ := hw_23
    obtain ⟨hP, hD⟩ := cr_back (wr := []) (w1 := [(mo, .inr (2, [.int th, .ref l1, .ref l2, .int (nI n), .ref l3, .ref l4, .int (nI nk), .ref l5, .ref l6, .int (nI m2), .ref l7, .ref l8, .ref l9, .int by0, .int fd])), (l1, .inl (cI, 2400, .inl f)), (l2, .inl (cI, 2400, .inl g)), (l3, .inl (cI, 2400, .inl kf)), (l4, .inl (cI, 2400, .inl kg)), (l5, .inl (cI, 4800, .inl e2)), (l6, .inl (cI, 4800, .inl d2)), (l7, .inl (cZ, 1120, .inl mt)), (l8, .inl (cI, 4, .inl fr)), (l9, .inl (cI, 4, .inl tt))]) hP hD [0, 1, 2, 3, 4, 5, 6, 7, 8, 9] [] rfl rfl (by decide) (by decide) hk_23 hFc hB_23 ht_23
    clear hPc hDc hFc
    generalize H_23 = H at hP hS ⊢
    have hP := hP.sub (ws' := [(mo, .inr (2, [.int th, .ref l1, .ref l2, .int (nI n), .ref l3, .ref l4, .int (nI nk), .ref l5, .ref l6, .int (nI m2), .ref l7, .ref l8, .ref l9, .int by0, .int fd])), (l1, .inl (cI, 2400, .inl f)), (l2, .inl (cI, 2400, .inl g)), (l3, .inl (cI, 2400, .inl kf)), (l4, .inl (cI, 2400, .inl kg)), (l5, .inl (cI, 4800, .inl e2)), (l6, .inl (cI, 4800, .inl d2)), (l7, .inl (cZ, 1120, .inl mt)), (l8, .inl (cI, 4, .inl fr)), (l9, .inl (cI, 4, .inl tt))]) [0, 1, 2, 3, 4, 5, 6, 7, 8, 9] rfl
    have hD := hD.sub (ws' := [(mo, .inr (2, [.int th, .ref l1, .ref l2, .int (nI n), .ref l3, .ref l4, .int (nI nk), .ref l5, .ref l6, .int (nI m2), .ref l7, .ref l8, .ref l9, .int by0, .int fd])), (l1, .inl (cI, 2400, .inl f)), (l2, .inl (cI, 2400, .inl g)), (l3, .inl (cI, 2400, .inl kf)), (l4, .inl (cI, 2400, .inl kg)), (l5, .inl (cI, 4800, .inl e2)), (l6, .inl (cI, 4800, .inl d2)), (l7, .inl (cZ, 1120, .inl mt)), (l8, .inl (cI, 4, .inl fr)), (l9, .inl (cI, 4, .inl tt))]) [0, 1, 2, 3, 4, 5, 6, 7, 8, 9] (by decide) rfl
    refine lv_iinc (v := nI (k + 1)) (lv' := [(1, .int (nI (k + 1))), (0, .ref mo)]) hx hb dM_putsSet_26 hl (k := 1) rfl (nI_add k 1) (by decide) rfl (fun ls hl => ?_)
    refine lv_goto (tgt := 2) hx hb dM_putsSet_29 (by decide) ?_
    exact ih2 (k + 1) m2 e2 d2 _ _ _ ⟨⟨by omega, by omega, hEn2.iff (cr_join_step hO (by omega))⟩, hP, hD, hS, lv_sub hl [1, 0] rfl⟩ (by omega)

set_option maxHeartbeats 4000000 in
set_option maxRecDepth 100000 in
theorem m_gathers (l : Launch) (dC : Nat → ClassId) (dI : Nat → Nat → Nat) (sz : Nat) (mo l1 l2 l3 l4 l5 l6 l7 l8 l9 : Nat) (cI cZ : ClassId) (th by0 fd : Int32) (n nk mn : Nat) (f g kf kg ef eg mt fr tt : Nat → Int32) (E : Nat → Prop) (hEn : cr_Ent mn ef eg E) (hm : mn ≤ 2400) : Met l yM_gathers wsM_gathers ({ frames := 1, cells := 0, slots := 0, locals := 20 }) (va_Pc [.ref mo] (cr_pre dC dI [(cI, .int), (cZ, .boolean)] [(mo, .inr (2, [.int th, .ref l1, .ref l2, .int (nI n), .ref l3, .ref l4, .int (nI nk), .ref l5, .ref l6, .int (nI mn), .ref l7, .ref l8, .ref l9, .int by0, .int fd])), (l1, .inl (cI, 2400, .inl f)), (l2, .inl (cI, 2400, .inl g)), (l3, .inl (cI, 2400, .inl kf)), (l4, .inl (cI, 2400, .inl kg)), (l5, .inl (cI, 4800, .inl ef)), (l6, .inl (cI, 4800, .inl eg)), (l7, .inl (cZ, 1120, .inl mt)), (l8, .inl (cI, 4, .inl fr)), (l9, .inl (cI, 4, .inl tt))] sz)) (va_Qi (fun (rr : Int32) (u : va_W) => ∃ (n' : Nat) (f' g' ef' : Nat → Int32), rr = nI n' ∧ u = [(mo, .inr (2, [.int th, .ref l1, .ref l2, .int (nI n'), .ref l3, .ref l4, .int (nI nk), .ref l5, .ref l6, .int (nI 0), .ref l7, .ref l8, .ref l9, .int by0, .int fd])), (l1, .inl (cI, 2400, .inl f')), (l2, .inl (cI, 2400, .inl g')), (l3, .inl (cI, 2400, .inl kf)), (l4, .inl (cI, 2400, .inl kg)), (l5, .inl (cI, 4800, .inl ef')), (l6, .inl (cI, 4800, .inl eg)), (l7, .inl (cZ, 1120, .inl mt)), (l8, .inl (cI, 4, .inl fr)), (l9, .inl (cI, 4, .inl tt))] ∧ n' ≤ mn ∧ cr_Set n' f' g' E) (cr_at dC dI [(cI, .int), (cZ, .boolean)] (va_A [(mo, .inr (2, [.int th, .ref l1, .ref l2, .int (nI n), .ref l3, .ref l4, .int (nI nk), .ref l5, .ref l6, .int (nI mn), .ref l7, .ref l8, .ref l9, .int by0, .int fd])), (l1, .inl (cI, 2400, .inl f)), (l2, .inl (cI, 2400, .inl g)), (l3, .inl (cI, 2400, .inl kf)), (l4, .inl (cI, 2400, .inl kg)), (l5, .inl (cI, 4800, .inl ef)), (l6, .inl (cI, 4800, .inl eg)), (l7, .inl (cZ, 1120, .inl mt)), (l8, .inl (cI, 4, .inl fr)), (l9, .inl (cI, 4, .inl tt))] sz)) (va_A [(mo, .inr (2, [.int th, .ref l1, .ref l2, .int (nI n), .ref l3, .ref l4, .int (nI nk), .ref l5, .ref l6, .int (nI mn), .ref l7, .ref l8, .ref l9, .int by0, .int fd])), (l1, .inl (cI, 2400, .inl f)), (l2, .inl (cI, 2400, .inl g)), (l3, .inl (cI, 2400, .inl kf)), (l4, .inl (cI, 2400, .inl kg)), (l5, .inl (cI, 4800, .inl ef)), (l6, .inl (cI, 4800, .inl eg)), (l7, .inl (cZ, 1120, .inl mt)), (l8, .inl (cI, 4, .inl fr)), (l9, .inl (cI, 4, .inl tt))] sz)) 0 0 (va_A [(mo, .inr (2, [.int th, .ref l1, .ref l2, .int (nI n), .ref l3, .ref l4, .int (nI nk), .ref l5, .ref l6, .int (nI mn), .ref l7, .ref l8, .ref l9, .int by0, .int fd])), (l1, .inl (cI, 2400, .inl f)), (l2, .inl (cI, 2400, .inl g)), (l3, .inl (cI, 2400, .inl kf)), (l4, .inl (cI, 2400, .inl kg)), (l5, .inl (cI, 4800, .inl ef)), (l6, .inl (cI, 4800, .inl eg)), (l7, .inl (cZ, 1120, .inl mt)), (l8, .inl (cI, 4, .inl fr)), (l9, .inl (cI, 4, .inl tt))] sz) := by
  refine Met.ofW (cc := cM_gathers) (maxL := 6) (ret := (some .int)) (by decide) rfl ?_
  intro p e s m args below meth c s₁ B hml hv
  obtain ⟨rfl, hsz, hP, hK, hD0⟩ := hv
  have hx := B.exec
  have hb := B.bytes
  have hr := B.returns
  have hts := atoms_spec (ws := wsM_gathers) B.pre
  have hown : s.vm.findClass RX2 = some m.cls := findClass_of_methodNamed B.named
  have hlocks := B.notSynchronized
  subst hsz
  have hD := hD0.self (sz := s.heap.size)
  generalize hAe : va_A [(mo, .inr (2, [.int th, .ref l1, .ref l2, .int (nI n), .ref l3, .ref l4, .int (nI nk), .ref l5, .ref l6, .int (nI mn), .ref l7, .ref l8, .ref l9, .int by0, .int fd])), (l1, .inl (cI, 2400, .inl f)), (l2, .inl (cI, 2400, .inl g)), (l3, .inl (cI, 2400, .inl kf)), (l4, .inl (cI, 2400, .inl kg)), (l5, .inl (cI, 4800, .inl ef)), (l6, .inl (cI, 4800, .inl eg)), (l7, .inl (cZ, 1120, .inl mt)), (l8, .inl (cI, 4, .inl fr)), (l9, .inl (cI, 4, .inl tt))] s.heap.size = A at hD ⊢
  have hA : ∀ q : Nat, s.heap.size ≤ q → A q := fun q h => by rw [← hAe]; exact Or.inr h
  have hS : va_S A s.heap s.heap [] := va_S.rf
  have hP : va_P (dC, dI) crCl [(mo, .inr (2, [.int th, .ref l1, .ref l2, .int (nI n), .ref l3, .ref l4, .int (nI nk), .ref l5, .ref l6, .int (nI mn), .ref l7, .ref l8, .ref l9, .int by0, .int fd])), (l1, .inl (cI, 2400, .inl f)), (l2, .inl (cI, 2400, .inl g)), (l3, .inl (cI, 2400, .inl kf)), (l4, .inl (cI, 2400, .inl kg)), (l5, .inl (cI, 4800, .inl ef)), (l6, .inl (cI, 4800, .inl eg)), (l7, .inl (cZ, 1120, .inl mt)), (l8, .inl (cI, 4, .inl fr)), (l9, .inl (cI, 4, .inl tt))] s.heap := hP
  have hl := lv_entry ([.ref mo]) (n := 6) (Nat.le_of_ble_eq_true rfl)
  rw [lg_entry_eq]
  generalize (lg_sl ([.ref mo]) ++ List.replicate (6 - (lg_sl ([.ref mo])).length) Slot.unset).toArray = ls at hl ⊢
  have hl : lv_has ls 6 [(0, .ref mo)] := hl
  obtain ⟨elo, ehi, hE1, hE2⟩ := hEn
  have hV : ∀ k, k < mn → cr_Vr (elo k) (ehi k) := fun k hk => (hE1 k hk).2.2
  refine lv_aload_n hx hb dM_gathers_0 rfl (lv_at hl 0 rfl) ?_
  refine lv_iconst (v := nI 0) hx hb dM_gathers_1 (by decide) ?_
  refine va_put (D := (dC, dI)) (ci := 2) (v := .int (nI 0)) (ty := .int) (C := RX2) (T := TM) (N := 15) hx hb hts (wsM00_in _) tyM tyM_ok nmM hown hK hP hD hS 0 rfl rfl 3 (by decide) (hts (.fieldLink RX2 45 "CharRowsModel" "size" "I") (by decide +kernel)) (fun _ h9 => h9) rfl (by decide +kernel) rfl rfl (Nat.le_of_ble_eq_true rfl) dM_gathers_2 (fun H locs hP hD hS => ?_)
  have hP : va_P (dC, dI) crCl [(mo, .inr (2, [.int th, .ref l1, .ref l2, .int (nI 0), .ref l3, .ref l4, .int (nI nk), .ref l5, .ref l6, .int (nI mn), .ref l7, .ref l8, .ref l9, .int by0, .int fd])), (l1, .inl (cI, 2400, .inl f)), (l2, .inl (cI, 2400, .inl g)), (l3, .inl (cI, 2400, .inl kf)), (l4, .inl (cI, 2400, .inl kg)), (l5, .inl (cI, 4800, .inl ef)), (l6, .inl (cI, 4800, .inl eg)), (l7, .inl (cZ, 1120, .inl mt)), (l8, .inl (cI, 4, .inl fr)), (l9, .inl (cI, 4, .inl tt))] H := hP
  have hD : va_D A [(mo, .inr (2, [.int th, .ref l1, .ref l2, .int (nI 0), .ref l3, .ref l4, .int (nI nk), .ref l5, .ref l6, .int (nI mn), .ref l7, .ref l8, .ref l9, .int by0, .int fd])), (l1, .inl (cI, 2400, .inl f)), (l2, .inl (cI, 2400, .inl g)), (l3, .inl (cI, 2400, .inl kf)), (l4, .inl (cI, 2400, .inl kg)), (l5, .inl (cI, 4800, .inl ef)), (l6, .inl (cI, 4800, .inl eg)), (l7, .inl (cZ, 1120, .inl mt)), (l8, .inl (cI, 4, .inl fr)), (l9, .inl (cI, 4, .inl tt))] := hD
  refine lv_iconst (v := (-1)) hx hb dM_gathers_5 (by decide) ?_
  refine lv_istore_n (lv' := [(1, .int (-1)), (0, .ref mo)]) hx hb dM_gathers_6 rfl hl (by decide) rfl (fun ls hl => ?_)
  refine lv_aload_n hx hb dM_gathers_7 rfl (lv_at hl 1 rfl) ?_
  refine va_get (D := (dC, dI)) (ci := 2) (v := .int (nI mn)) (C := RX2) (T := TM) (N := 15) hx hb hts (wsM00_in _) hown hK hP 0 rfl rfl 9 (by decide) (hts (.fieldLink RX2 42 "CharRowsModel" "many" "I") (by decide +kernel)) (fun _ h9 => h9) rfl dM_gathers_8 ?_
  refine lv_if_le (tgt := 18) hx hb dM_gathers_11 (by decide) (fun c_11 => ?_) (fun c_11 => ?_)
  · rw [show (0 : Int32) = nI 0 from rfl, nI_leI (by omega) (by omega)] at c_11
    refine lv_iconst (v := nI 0) hx hb dM_gathers_18 (by decide) ?_
    refine lv_istore_n (lv' := [(2, .int (nI 0)), (1, .int (-1)), (0, .ref mo)]) hx hb dM_gathers_19 rfl hl (by decide) rfl (fun ls hl => ?_)
    refine cr_lp9 (fun (n1 : Nat) (lo1 : Nat → Nat) (hi1 : Nat → Nat) (f1 : Nat → Int32) (g1 : Nat → Int32) (ef1 : Nat → Int32) (la : Int32) (mr : Int32) (dn : Nat → Bool) => 2 * (mn - cr_cntb dn mn) + (if mr = nI 1 then 1 else 0)) (fun (n1 : Nat) (lo1 : Nat → Nat) (hi1 : Nat → Nat) (f1 : Nat → Int32) (g1 : Nat → Int32) (ef1 : Nat → Int32) (la : Int32) (mr : Int32) (dn : Nat → Bool) H locs ls => (cr_GI mn elo ehi n1 lo1 hi1 f1 g1 ef1 la dn ∧ (mr = nI 1 ∨ (mr = nI 0 ∧ ∀ k, k < mn → dn k = true))) ∧ va_P (dC, dI) crCl [(mo, .inr (2, [.int th, .ref l1, .ref l2, .int (nI n1), .ref l3, .ref l4, .int (nI nk), .ref l5, .ref l6, .int (nI mn), .ref l7, .ref l8, .ref l9, .int by0, .int fd])), (l1, .inl (cI, 2400, .inl f1)), (l2, .inl (cI, 2400, .inl g1)), (l3, .inl (cI, 2400, .inl kf)), (l4, .inl (cI, 2400, .inl kg)), (l5, .inl (cI, 4800, .inl ef1)), (l6, .inl (cI, 4800, .inl eg)), (l7, .inl (cZ, 1120, .inl mt)), (l8, .inl (cI, 4, .inl fr)), (l9, .inl (cI, 4, .inl tt))] H ∧ va_D A [(mo, .inr (2, [.int th, .ref l1, .ref l2, .int (nI n1), .ref l3, .ref l4, .int (nI nk), .ref l5, .ref l6, .int (nI mn), .ref l7, .ref l8, .ref l9, .int by0, .int fd])), (l1, .inl (cI, 2400, .inl f1)), (l2, .inl (cI, 2400, .inl g1)), (l3, .inl (cI, 2400, .inl kf)), (l4, .inl (cI, 2400, .inl kg)), (l5, .inl (cI, 4800, .inl ef1)), (l6, .inl (cI, 4800, .inl eg)), (l7, .inl (cZ, 1120, .inl mt)), (l8, .inl (cI, 4, .inl fr)), (l9, .inl (cI, 4, .inl tt))] ∧ va_S A s.heap H locs ∧ lv_has ls 6 [(0, .ref mo), (1, .int la), (2, .int mr)]) ?_ 0 (fun _ => 0) (fun _ => 0) f g ef (-1) (nI 0) (fun _ => false) ⟨⟨cr_GI_0 hE1, Or.inr ⟨rfl, fun k hk => absurd hk (by omega)⟩⟩, hP, hD, hS, lv_sub hl [2, 1, 0] rfl⟩
    intro n1 lo1 hi1 f1 g1 ef1 la mr dn H locs ls hI20 ih20
    obtain ⟨⟨hG, hmr⟩, hP, hD, hS, hl⟩ := hI20
    rcases hmr with rfl | ⟨rfl, hall⟩
    · refine lv_iload_n hx hb dM_gathers_20 rfl (lv_at hl 2 rfl) ?_
      refine lv_if_eq (tgt := 209) hx hb dM_gathers_21 (by decide) (fun c_21 => ?_) (fun c_21 => ?_)
      · exact absurd c_21 (by decide)
      · refine lv_iconst (v := (-1)) hx hb dM_gathers_24 (by decide) ?_
        refine lv_istore_n (lv' := [(3, .int (-1)), (0, .ref mo), (1, .int la), (2, .int (nI 1))]) hx hb dM_gathers_25 rfl hl (by decide) rfl (fun ls hl => ?_)
        refine lv_iconst (v := nI 0) hx hb dM_gathers_26 (by decide) ?_
        refine lv_istore (lv' := [(4, .int (nI 0)), (3, .int (-1)), (0, .ref mo), (1, .int la), (2, .int (nI 1))]) hx hb dM_gathers_27 hl (by decide) rfl (fun ls hl => ?_)
        refine cr_lp2 (fun (k : Nat) (bs : Int32) => mn - k) (fun (k : Nat) (bs : Int32) H locs ls => (k ≤ mn ∧ ((bs = -1 ∧ ∀ j, j < k → dn j = true) ∨ ∃ b, bs = nI b ∧ b < k ∧ dn b = false ∧ ∀ j, j < k → dn j = false → elo b ≤ elo j)) ∧ va_P (dC, dI) crCl [(mo, .inr (2, [.int th, .ref l1, .ref l2, .int (nI n1), .ref l3, .ref l4, .int (nI nk), .ref l5, .ref l6, .int (nI mn), .ref l7, .ref l8, .ref l9, .int by0, .int fd])), (l1, .inl (cI, 2400, .inl f1)), (l2, .inl (cI, 2400, .inl g1)), (l3, .inl (cI, 2400, .inl kf)), (l4, .inl (cI, 2400, .inl kg)), (l5, .inl (cI, 4800, .inl ef1)), (l6, .inl (cI, 4800, .inl eg)), (l7, .inl (cZ, 1120, .inl mt)), (l8, .inl (cI, 4, .inl fr)), (l9, .inl (cI, 4, .inl tt))] H ∧ va_D A [(mo, .inr (2, [.int th, .ref l1, .ref l2, .int (nI n1), .ref l3, .ref l4, .int (nI nk), .ref l5, .ref l6, .int (nI mn), .ref l7, .ref l8, .ref l9, .int by0, .int fd])), (l1, .inl (cI, 2400, .inl f1)), (l2, .inl (cI, 2400, .inl g1)), (l3, .inl (cI, 2400, .inl kf)), (l4, .inl (cI, 2400, .inl kg)), (l5, .inl (cI, 4800, .inl ef1)), (l6, .inl (cI, 4800, .inl eg)), (l7, .inl (cZ, 1120, .inl mt)), (l8, .inl (cI, 4, .inl fr)), (l9, .inl (cI, 4, .inl tt))] ∧ va_S A s.heap H locs ∧ lv_has ls 6 [(0, .ref mo), (1, .int la), (2, .int (nI 1)), (3, .int bs), (4, .int (nI k))]) ?_ 0 (-1) ⟨⟨Nat.zero_le _, Or.inl ⟨rfl, fun j hj => absurd hj (Nat.not_lt_zero j)⟩⟩, hP, hD, hS, lv_sub hl [2, 3, 4, 1, 0] rfl⟩
        intro k bs H locs ls hI29 ih29
        obtain ⟨⟨hk, hbs⟩, hP, hD, hS, hl⟩ := hI29
        rcases hbs with ⟨rfl, hbn⟩ | ⟨b, rfl, hb1, hb2, hb3⟩
        · refine lv_iload hx hb dM_gathers_29 (lv_at hl 4 rfl) ?_
          refine lv_aload_n hx hb dM_gathers_31 rfl (lv_at hl 0 rfl) ?_
          refine va_get (D := (dC, dI)) (ci := 2) (v := .int (nI mn)) (C := RX2) (T := TM) (N := 15) hx hb hts (wsM00_in _) hown hK hP 0 rfl rfl 9 (by decide) (hts (.fieldLink RX2 42 "CharRowsModel" "many" "I") (by decide +kernel)) (fun _ h9 => h9) rfl dM_gathers_32 ?_
          refine lv_icmp_ge (tgt := 94) hx hb dM_gathers_35 (by decide) (fun c_35 => ?_) (fun c_35 => ?_)
          · rw [nI_leI (by omega) (by omega)] at c_35
            refine lv_iload_n hx hb dM_gathers_94 rfl (lv_at hl 3 rfl) ?_
            refine lv_iconst (v := (-1)) hx hb dM_gathers_95 (by decide) ?_
            refine lv_icmp_eq (tgt := 103) hx hb dM_gathers_96 (by decide) (fun c_96 => ?_) (fun c_96 => ?_)
            · have hball : ∀ j, j < mn → dn j = true := fun j hj => hbn j (by omega)
              refine lv_iconst (v := nI 0) hx hb dM_gathers_103 (by decide) ?_
              refine lv_istore_n (lv' := [(2, .int (nI 0)), (0, .ref mo), (1, .int la), (3, .int (-1)), (4, .int (nI k))]) hx hb dM_gathers_104 rfl hl (by decide) rfl (fun ls hl => ?_)
              refine lv_iload_n hx hb dM_gathers_105 rfl (lv_at hl 0 rfl) ?_
              refine lv_if_ne (tgt := 112) hx hb dM_gathers_106 (by decide) (fun c_106 => ?_) (fun c_106 => ?_)
              · exact absurd (by decide) c_106
              · refine lv_goto (tgt := 20) hx hb dM_gathers_109 (by decide) ?_
                exact ih20 n1 lo1 hi1 f1 g1 ef1 la (nI 0) dn _ _ _ ⟨⟨hG, Or.inr ⟨rfl, hball⟩⟩, hP, hD, hS, lv_sub hl [1, 2, 0] rfl⟩ (by rw [if_neg (show ¬ nI 0 = nI 1 by decide), if_pos (show nI 1 = nI 1 from rfl)]; omega)
            · exact absurd (by decide) c_96
          · rw [nI_leI (by omega) (by omega)] at c_35
            refine lv_aload_n hx hb dM_gathers_38 rfl (lv_at hl 0 rfl) ?_
            refine va_get (D := (dC, dI)) (ci := 2) (v := .ref l5) (C := RX2) (T := TM) (N := 15) hx hb hts (wsM00_in _) hown hK hP 0 rfl rfl 7 (by decide) (hts (.fieldLink RX2 22 "CharRowsModel" "newLow" "[I") (by decide +kernel)) (fun _ h9 => h9) rfl dM_gathers_39 ?_
            refine lv_iload hx hb dM_gathers_42 (lv_at hl 4 rfl) ?_
            refine va_iald hx hb hK hP 5 0 rfl rfl (vp_in_nI (by omega) (by omega)) dM_gathers_44 ?_
            cases hdk : dn k
            · refine cr_top (y := nI (elo k)) (by rw [nI_clamp (by omega), hG.1 k (by omega), hdk]; rfl) ?_
              refine lv_if_lt (tgt := 73) hx hb dM_gathers_45 (by decide) (fun c_45 => ?_) (fun c_45 => ?_)
              · exact absurd c_45 (nI_pos (by have := hV k (by omega); unfold cr_Vr at this; omega))
              · refine lv_iload_n hx hb dM_gathers_48 rfl (lv_at hl 3 rfl) ?_
                refine lv_iconst (v := (-1)) hx hb dM_gathers_49 (by decide) ?_
                refine lv_icmp_eq (tgt := 69) hx hb dM_gathers_50 (by decide) (fun c_50 => ?_) (fun c_50 => ?_)
                · refine lv_iconst (v := nI 1) hx hb dM_gathers_69 (by decide) ?_
                  refine lv_goto (tgt := 74) hx hb dM_gathers_70 (by decide) ?_
                  refine lv_istore (lv' := [(5, .int (nI 1)), (0, .ref mo), (1, .int la), (2, .int (nI 1)), (3, .int (-1)), (4, .int (nI k))]) hx hb dM_gathers_74 hl (by decide) rfl (fun ls hl => ?_)
                  refine lv_iload hx hb dM_gathers_76 (lv_at hl 0 rfl) ?_
                  refine lv_if_eq (tgt := 86) hx hb dM_gathers_78 (by decide) (fun c_78 => ?_) (fun c_78 => ?_)
                  · exact absurd c_78 (by decide)
                  · refine lv_iload hx hb dM_gathers_81 (lv_at hl 5 rfl) ?_
                    refine lv_goto (tgt := 87) hx hb dM_gathers_83 (by decide) ?_
                    refine lv_istore_n (lv' := [(3, .int (nI k)), (5, .int (nI 1)), (0, .ref mo), (1, .int la), (2, .int (nI 1)), (4, .int (nI k))]) hx hb dM_gathers_87 rfl hl (by decide) rfl (fun ls hl => ?_)
                    refine lv_iinc (v := nI (k + 1)) (lv' := [(4, .int (nI (k + 1))), (3, .int (nI k)), (5, .int (nI 1)), (0, .ref mo), (1, .int la), (2, .int (nI 1))]) hx hb dM_gathers_88 hl (k := 5) rfl (nI_add k 1) (by decide) rfl (fun ls hl => ?_)
                    refine lv_goto (tgt := 29) hx hb dM_gathers_91 (by decide) ?_
                    exact ih29 (k + 1) (nI k) _ _ _ ⟨⟨by omega, Or.inr ⟨k, rfl, by omega, hdk, cr_min_first hbn hdk⟩⟩, hP, hD, hS, lv_sub hl [3, 4, 5, 1, 0] rfl⟩ (by omega)
                · exact absurd (by decide) c_50
            · refine cr_top (y := (-1)) (by rw [nI_clamp (by omega), hG.1 k (by omega), hdk]; rfl) ?_
              refine lv_if_lt (tgt := 73) hx hb dM_gathers_45 (by decide) (fun c_45 => ?_) (fun c_45 => ?_)
              · refine lv_iconst (v := nI 0) hx hb dM_gathers_73 (by decide) ?_
                refine lv_istore (lv' := [(5, .int (nI 0)), (0, .ref mo), (1, .int la), (2, .int (nI 1)), (3, .int (-1)), (4, .int (nI k))]) hx hb dM_gathers_74 hl (by decide) rfl (fun ls hl => ?_)
                refine lv_iload hx hb dM_gathers_76 (lv_at hl 0 rfl) ?_
                refine lv_if_eq (tgt := 86) hx hb dM_gathers_78 (by decide) (fun c_78 => ?_) (fun c_78 => ?_)
                · refine lv_iload_n hx hb dM_gathers_86 rfl (lv_at hl 4 rfl) ?_
                  refine lv_istore_n (lv' := [(3, .int (-1)), (5, .int (nI 0)), (0, .ref mo), (1, .int la), (2, .int (nI 1)), (4, .int (nI k))]) hx hb dM_gathers_87 rfl hl (by decide) rfl (fun ls hl => ?_)
                  refine lv_iinc (v := nI (k + 1)) (lv' := [(4, .int (nI (k + 1))), (3, .int (-1)), (5, .int (nI 0)), (0, .ref mo), (1, .int la), (2, .int (nI 1))]) hx hb dM_gathers_88 hl (k := 5) rfl (nI_add k 1) (by decide) rfl (fun ls hl => ?_)
                  refine lv_goto (tgt := 29) hx hb dM_gathers_91 (by decide) ?_
                  exact ih29 (k + 1) (-1) _ _ _ ⟨⟨by omega, Or.inl ⟨rfl, cr_lt_0 hbn hdk⟩⟩, hP, hD, hS, lv_sub hl [3, 4, 5, 1, 0] rfl⟩ (by omega)
                · exact absurd (by decide) c_78
              · exact absurd (by decide) c_45
        · refine lv_iload hx hb dM_gathers_29 (lv_at hl 4 rfl) ?_
          refine lv_aload_n hx hb dM_gathers_31 rfl (lv_at hl 0 rfl) ?_
          refine va_get (D := (dC, dI)) (ci := 2) (v := .int (nI mn)) (C := RX2) (T := TM) (N := 15) hx hb hts (wsM00_in _) hown hK hP 0 rfl rfl 9 (by decide) (hts (.fieldLink RX2 42 "CharRowsModel" "many" "I") (by decide +kernel)) (fun _ h9 => h9) rfl dM_gathers_32 ?_
          refine lv_icmp_ge (tgt := 94) hx hb dM_gathers_35 (by decide) (fun c_35 => ?_) (fun c_35 => ?_)
          · rw [nI_leI (by omega) (by omega)] at c_35
            refine lv_iload_n hx hb dM_gathers_94 rfl (lv_at hl 3 rfl) ?_
            refine lv_iconst (v := (-1)) hx hb dM_gathers_95 (by decide) ?_
            refine lv_icmp_eq (tgt := 103) hx hb dM_gathers_96 (by decide) (fun c_96 => ?_) (fun c_96 => ?_)
            · exact absurd c_96 (cr_ne_m1 (by omega))
            · refine lv_iconst (v := nI 1) hx hb dM_gathers_99 (by decide) ?_
              refine lv_goto (tgt := 104) hx hb dM_gathers_100 (by decide) ?_
              refine lv_istore_n (lv' := [(2, .int (nI 1)), (0, .ref mo), (1, .int la), (3, .int (nI b)), (4, .int (nI k))]) hx hb dM_gathers_104 rfl hl (by decide) rfl (fun ls hl => ?_)
              refine lv_iload_n hx hb dM_gathers_105 rfl (lv_at hl 0 rfl) ?_
              refine lv_if_ne (tgt := 112) hx hb dM_gathers_106 (by decide) (fun c_106 => ?_) (fun c_106 => ?_)
              · have hb3 : ∀ j, j < mn → dn j = false → elo b ≤ elo j := fun j hj => hb3 j (by omega)
                have hb1 : b < mn := by omega
                have hvb := hV b hb1
                unfold cr_Vr at hvb
                have hcl := cr_cntb_lt dn b mn hb2 hb1
                have hn1 := hG.2.2.2.2.1
                refine lv_aload_n hx hb dM_gathers_112 rfl (lv_at hl 1 rfl) ?_
                refine va_get (D := (dC, dI)) (ci := 2) (v := .int (nI n1)) (C := RX2) (T := TM) (N := 15) hx hb hts (wsM00_in _) hown hK hP 0 rfl rfl 3 (by decide) (hts (.fieldLink RX2 45 "CharRowsModel" "size" "I") (by decide +kernel)) (fun _ h9 => h9) rfl dM_gathers_113 ?_
                refine lv_if_le (tgt := 155) hx hb dM_gathers_116 (by decide) (fun c_116 => ?_) (fun c_116 => ?_)
                · rw [show (0 : Int32) = nI 0 from rfl, nI_leI (by omega) (by omega)] at c_116
                  refine lv_aload_n hx hb dM_gathers_155 rfl (lv_at hl 1 rfl) ?_
                  refine va_get (D := (dC, dI)) (ci := 2) (v := .ref l1) (C := RX2) (T := TM) (N := 15) hx hb hts (wsM00_in _) hown hK hP 0 rfl rfl 1 (by decide) (hts (.fieldLink RX2 7 "CharRowsModel" "low" "[I") (by decide +kernel)) (fun _ h9 => h9) rfl dM_gathers_156 ?_
                  refine lv_aload_n hx hb dM_gathers_159 rfl (lv_at hl 1 rfl) ?_
                  refine va_get (D := (dC, dI)) (ci := 2) (v := .int (nI n1)) (C := RX2) (T := TM) (N := 15) hx hb hts (wsM00_in _) hown hK hP 0 rfl rfl 3 (by decide) (hts (.fieldLink RX2 45 "CharRowsModel" "size" "I") (by decide +kernel)) (fun _ h9 => h9) rfl dM_gathers_160 ?_
                  refine lv_aload_n hx hb dM_gathers_163 rfl (lv_at hl 1 rfl) ?_
                  refine va_get (D := (dC, dI)) (ci := 2) (v := .ref l5) (C := RX2) (T := TM) (N := 15) hx hb hts (wsM00_in _) hown hK hP 0 rfl rfl 7 (by decide) (hts (.fieldLink RX2 22 "CharRowsModel" "newLow" "[I") (by decide +kernel)) (fun _ h9 => h9) rfl dM_gathers_164 ?_
                  refine lv_iload_n hx hb dM_gathers_167 rfl (lv_at hl 3 rfl) ?_
                  refine va_iald hx hb hK hP 5 0 rfl rfl (vp_in_nI (by omega) (by omega)) dM_gathers_168 ?_
                  refine cr_top (y := nI (elo b)) (by rw [nI_clamp (by omega), hG.1 b (by omega), hb2]; rfl) ?_
                  refine va_iast hx hb hK hP hD hS 1 0 rfl rfl (vp_in_nI (by omega) (by omega)) dM_gathers_169 (fun H locs hP hD hS => ?_)
                  have hP : va_P (dC, dI) crCl [(mo, .inr (2, [.int th, .ref l1, .ref l2, .int (nI n1), .ref l3, .ref l4, .int (nI nk), .ref l5, .ref l6, .int (nI mn), .ref l7, .ref l8, .ref l9, .int by0, .int fd])), (l1, .inl (cI, 2400, .inl (upd f1 (nI n1).toNatClampNeg (nI (elo b))))), (l2, .inl (cI, 2400, .inl g1)), (l3, .inl (cI, 2400, .inl kf)), (l4, .inl (cI, 2400, .inl kg)), (l5, .inl (cI, 4800, .inl ef1)), (l6, .inl (cI, 4800, .inl eg)), (l7, .inl (cZ, 1120, .inl mt)), (l8, .inl (cI, 4, .inl fr)), (l9, .inl (cI, 4, .inl tt))] H := hP
                  have hD : va_D A [(mo, .inr (2, [.int th, .ref l1, .ref l2, .int (nI n1), .ref l3, .ref l4, .int (nI nk), .ref l5, .ref l6, .int (nI mn), .ref l7, .ref l8, .ref l9, .int by0, .int fd])), (l1, .inl (cI, 2400, .inl (upd f1 (nI n1).toNatClampNeg (nI (elo b))))), (l2, .inl (cI, 2400, .inl g1)), (l3, .inl (cI, 2400, .inl kf)), (l4, .inl (cI, 2400, .inl kg)), (l5, .inl (cI, 4800, .inl ef1)), (l6, .inl (cI, 4800, .inl eg)), (l7, .inl (cZ, 1120, .inl mt)), (l8, .inl (cI, 4, .inl fr)), (l9, .inl (cI, 4, .inl tt))] := hD
                  rw [nI_clamp (show n1 < 2 ^ 31 by omega)] at hP hD
                  refine lv_aload_n hx hb dM_gathers_170 rfl (lv_at hl 1 rfl) ?_
                  refine va_get (D := (dC, dI)) (ci := 2) (v := .ref l6) (C := RX2) (T := TM) (N := 15) hx hb hts (wsM00_in _) hown hK hP 0 rfl rfl 8 (by decide) (hts (.fieldLink RX2 25 "CharRowsModel" "newHigh" "[I") (by decide +kernel)) (fun _ h9 => h9) rfl dM_gathers_171 ?_
                  refine lv_iload_n hx hb dM_gathers_174 rfl (lv_at hl 3 rfl) ?_
                  refine va_iald hx hb hK hP 6 0 rfl rfl (vp_in_nI (by omega) (by omega)) dM_gathers_175 ?_
                  refine cr_top (y := nI (ehi b)) (by rw [nI_clamp (by omega)]; exact (hE1 b (by omega)).2.1) ?_
                  refine lv_istore_n (lv' := [(1, .int (nI (ehi b))), (2, .int (nI 1)), (0, .ref mo), (3, .int (nI b)), (4, .int (nI k))]) hx hb dM_gathers_176 rfl hl (by decide) rfl (fun ls hl => ?_)
                  refine lv_aload_n hx hb dM_gathers_177 rfl (lv_at hl 2 rfl) ?_
                  refine lv_dup hx hb dM_gathers_178 rfl ?_
                  refine va_get (D := (dC, dI)) (ci := 2) (v := .int (nI n1)) (C := RX2) (T := TM) (N := 15) hx hb hts (wsM00_in _) hown hK hP 0 rfl rfl 3 (by decide) (hts (.fieldLink RX2 45 "CharRowsModel" "size" "I") (by decide +kernel)) (fun _ h9 => h9) rfl dM_gathers_179 ?_
                  refine lv_iconst (v := nI 1) hx hb dM_gathers_182 (by decide) ?_
                  refine lv_iadd hx hb dM_gathers_183 ?_
                  refine cr_top (y := nI (n1 + 1)) (nI_add n1 1) ?_
                  refine va_put (D := (dC, dI)) (ci := 2) (v := .int (nI (n1 + 1))) (ty := .int) (C := RX2) (T := TM) (N := 15) hx hb hts (wsM00_in _) tyM tyM_ok nmM hown hK hP hD hS 0 rfl rfl 3 (by decide) (hts (.fieldLink RX2 45 "CharRowsModel" "size" "I") (by decide +kernel)) (fun _ h9 => h9) rfl (by decide +kernel) rfl rfl (Nat.le_of_ble_eq_true rfl) dM_gathers_184 (fun H locs hP hD hS => ?_)
                  have hP : va_P (dC, dI) crCl [(mo, .inr (2, [.int th, .ref l1, .ref l2, .int (nI (n1 + 1)), .ref l3, .ref l4, .int (nI nk), .ref l5, .ref l6, .int (nI mn), .ref l7, .ref l8, .ref l9, .int by0, .int fd])), (l1, .inl (cI, 2400, .inl (upd f1 n1 (nI (elo b))))), (l2, .inl (cI, 2400, .inl g1)), (l3, .inl (cI, 2400, .inl kf)), (l4, .inl (cI, 2400, .inl kg)), (l5, .inl (cI, 4800, .inl ef1)), (l6, .inl (cI, 4800, .inl eg)), (l7, .inl (cZ, 1120, .inl mt)), (l8, .inl (cI, 4, .inl fr)), (l9, .inl (cI, 4, .inl tt))] H := hP
                  have hD : va_D A [(mo, .inr (2, [.int th, .ref l1, .ref l2, .int (nI (n1 + 1)), .ref l3, .ref l4, .int (nI nk), .ref l5, .ref l6, .int (nI mn), .ref l7, .ref l8, .ref l9, .int by0, .int fd])), (l1, .inl (cI, 2400, .inl (upd f1 n1 (nI (elo b))))), (l2, .inl (cI, 2400, .inl g1)), (l3, .inl (cI, 2400, .inl kf)), (l4, .inl (cI, 2400, .inl kg)), (l5, .inl (cI, 4800, .inl ef1)), (l6, .inl (cI, 4800, .inl eg)), (l7, .inl (cZ, 1120, .inl mt)), (l8, .inl (cI, 4, .inl fr)), (l9, .inl (cI, 4, .inl tt))] := hD
                  refine lv_aload_n hx hb dM_gathers_187 rfl (lv_at hl 2 rfl) ?_
                  refine va_get (D := (dC, dI)) (ci := 2) (v := .ref l2) (C := RX2) (T := TM) (N := 15) hx hb hts (wsM00_in _) hown hK hP 0 rfl rfl 2 (by decide) (hts (.fieldLink RX2 13 "CharRowsModel" "high" "[I") (by decide +kernel)) (fun _ h9 => h9) rfl dM_gathers_188 ?_
                  refine lv_aload_n hx hb dM_gathers_191 rfl (lv_at hl 2 rfl) ?_
                  refine va_get (D := (dC, dI)) (ci := 2) (v := .int (nI (n1 + 1))) (C := RX2) (T := TM) (N := 15) hx hb hts (wsM00_in _) hown hK hP 0 rfl rfl 3 (by decide) (hts (.fieldLink RX2 45 "CharRowsModel" "size" "I") (by decide +kernel)) (fun _ h9 => h9) rfl dM_gathers_192 ?_
                  refine lv_iconst (v := nI 1) hx hb dM_gathers_195 (by decide) ?_
                  refine lv_isub hx hb dM_gathers_196 ?_
                  refine cr_top (y := nI ((n1 + 1) - 1)) (pk_sub (by omega)) ?_
                  refine lv_iload_n hx hb dM_gathers_197 rfl (lv_at hl 0 rfl) ?_
                  refine va_iast hx hb hK hP hD hS 2 0 rfl rfl (vp_in_nI (by omega) (by omega)) dM_gathers_198 (fun H locs hP hD hS => ?_)
                  have hP : va_P (dC, dI) crCl [(mo, .inr (2, [.int th, .ref l1, .ref l2, .int (nI (n1 + 1)), .ref l3, .ref l4, .int (nI nk), .ref l5, .ref l6, .int (nI mn), .ref l7, .ref l8, .ref l9, .int by0, .int fd])), (l1, .inl (cI, 2400, .inl (upd f1 n1 (nI (elo b))))), (l2, .inl (cI, 2400, .inl (upd g1 (nI ((n1 + 1) - 1)).toNatClampNeg (nI (ehi b))))), (l3, .inl (cI, 2400, .inl kf)), (l4, .inl (cI, 2400, .inl kg)), (l5, .inl (cI, 4800, .inl ef1)), (l6, .inl (cI, 4800, .inl eg)), (l7, .inl (cZ, 1120, .inl mt)), (l8, .inl (cI, 4, .inl fr)), (l9, .inl (cI, 4, .inl tt))] H := hP
                  have hD : va_D A [(mo, .inr (2, [.int th, .ref l1, .ref l2, .int (nI (n1 + 1)), .ref l3, .ref l4, .int (nI nk), .ref l5, .ref l6, .int (nI mn), .ref l7, .ref l8, .ref l9, .int by0, .int fd])), (l1, .inl (cI, 2400, .inl (upd f1 n1 (nI (elo b))))), (l2, .inl (cI, 2400, .inl (upd g1 (nI ((n1 + 1) - 1)).toNatClampNeg (nI (ehi b))))), (l3, .inl (cI, 2400, .inl kf)), (l4, .inl (cI, 2400, .inl kg)), (l5, .inl (cI, 4800, .inl ef1)), (l6, .inl (cI, 4800, .inl eg)), (l7, .inl (cZ, 1120, .inl mt)), (l8, .inl (cI, 4, .inl fr)), (l9, .inl (cI, 4, .inl tt))] := hD
                  rw [show n1 + 1 - 1 = n1 by omega, nI_clamp (show n1 < 2 ^ 31 by omega)] at hP hD
                  refine lv_aload_n hx hb dM_gathers_199 rfl (lv_at hl 2 rfl) ?_
                  refine va_get (D := (dC, dI)) (ci := 2) (v := .ref l5) (C := RX2) (T := TM) (N := 15) hx hb hts (wsM00_in _) hown hK hP 0 rfl rfl 7 (by decide) (hts (.fieldLink RX2 22 "CharRowsModel" "newLow" "[I") (by decide +kernel)) (fun _ h9 => h9) rfl dM_gathers_200 ?_
                  refine lv_iload_n hx hb dM_gathers_203 rfl (lv_at hl 3 rfl) ?_
                  refine lv_iconst (v := (-1)) hx hb dM_gathers_204 (by decide) ?_
                  refine va_iast hx hb hK hP hD hS 5 0 rfl rfl (vp_in_nI (by omega) (by omega)) dM_gathers_205 (fun H locs hP hD hS => ?_)
                  have hP : va_P (dC, dI) crCl [(mo, .inr (2, [.int th, .ref l1, .ref l2, .int (nI (n1 + 1)), .ref l3, .ref l4, .int (nI nk), .ref l5, .ref l6, .int (nI mn), .ref l7, .ref l8, .ref l9, .int by0, .int fd])), (l1, .inl (cI, 2400, .inl (upd f1 n1 (nI (elo b))))), (l2, .inl (cI, 2400, .inl (upd g1 n1 (nI (ehi b))))), (l3, .inl (cI, 2400, .inl kf)), (l4, .inl (cI, 2400, .inl kg)), (l5, .inl (cI, 4800, .inl (upd ef1 (nI b).toNatClampNeg (-1)))), (l6, .inl (cI, 4800, .inl eg)), (l7, .inl (cZ, 1120, .inl mt)), (l8, .inl (cI, 4, .inl fr)), (l9, .inl (cI, 4, .inl tt))] H := hP
                  have hD : va_D A [(mo, .inr (2, [.int th, .ref l1, .ref l2, .int (nI (n1 + 1)), .ref l3, .ref l4, .int (nI nk), .ref l5, .ref l6, .int (nI mn), .ref l7, .ref l8, .ref l9, .int by0, .int fd])), (l1, .inl (cI, 2400, .inl (upd f1 n1 (nI (elo b))))), (l2, .inl (cI, 2400, .inl (upd g1 n1 (nI (ehi b))))), (l3, .inl (cI, 2400, .inl kf)), (l4, .inl (cI, 2400, .inl kg)), (l5, .inl (cI, 4800, .inl (upd ef1 (nI b).toNatClampNeg (-1)))), (l6, .inl (cI, 4800, .inl eg)), (l7, .inl (cZ, 1120, .inl mt)), (l8, .inl (cI, 4, .inl fr)), (l9, .inl (cI, 4, .inl tt))] := hD
                  rw [nI_clamp (show b < 2 ^ 31 by omega)] at hP hD
                  refine lv_goto (tgt := 20) hx hb dM_gathers_206 (by decide) ?_
                  exact ih20 (n1 + 1) (va_up lo1 n1 (elo b)) (va_up hi1 n1 (ehi b)) (upd f1 n1 (nI (elo b))) (upd g1 n1 (nI (ehi b))) (upd ef1 b (-1)) (nI (ehi b)) (nI 1) (va_up dn b true) _ _ _ ⟨⟨cr_GI_push hV hG hb1 hb2 hb3 (by omega), Or.inl rfl⟩, hP, hD, hS, lv_sub hl [2, 0, 1] rfl⟩ (by rw [cr_cntb_up dn b hb2 mn hb1]; omega)
                · rw [show (0 : Int32) = nI 0 from rfl, nI_leI (by omega) (by omega)] at c_116
                  have hla := (hG.2.2.2.2.2 (by omega)).1
                  have hok := hG.2.2.1.1 (n1 - 1) (by omega)
                  have hlo := (hG.2.2.2.2.2 (by omega)).2 b hb1 hb2
                  subst hla
                  refine lv_aload_n hx hb dM_gathers_119 rfl (lv_at hl 1 rfl) ?_
                  refine va_get (D := (dC, dI)) (ci := 2) (v := .ref l5) (C := RX2) (T := TM) (N := 15) hx hb hts (wsM00_in _) hown hK hP 0 rfl rfl 7 (by decide) (hts (.fieldLink RX2 22 "CharRowsModel" "newLow" "[I") (by decide +kernel)) (fun _ h9 => h9) rfl dM_gathers_120 ?_
                  refine lv_iload_n hx hb dM_gathers_123 rfl (lv_at hl 3 rfl) ?_
                  refine va_iald hx hb hK hP 5 0 rfl rfl (vp_in_nI (by omega) (by omega)) dM_gathers_124 ?_
                  refine cr_top (y := nI (elo b)) (by rw [nI_clamp (by omega), hG.1 b (by omega), hb2]; rfl) ?_
                  refine lv_iload_n hx hb dM_gathers_125 rfl (lv_at hl 2 rfl) ?_
                  refine lv_iconst (v := nI 1) hx hb dM_gathers_126 (by decide) ?_
                  refine lv_iadd hx hb dM_gathers_127 ?_
                  refine cr_top (y := nI ((hi1 (n1 - 1)) + 1)) (nI_add (hi1 (n1 - 1)) 1) ?_
                  refine lv_icmp_gt (tgt := 155) hx hb dM_gathers_128 (by decide) (fun c_128 => ?_) (fun c_128 => ?_)
                  · rw [nI_ltI (by omega) (by omega)] at c_128
                    refine lv_aload_n hx hb dM_gathers_155 rfl (lv_at hl 1 rfl) ?_
                    refine va_get (D := (dC, dI)) (ci := 2) (v := .ref l1) (C := RX2) (T := TM) (N := 15) hx hb hts (wsM00_in _) hown hK hP 0 rfl rfl 1 (by decide) (hts (.fieldLink RX2 7 "CharRowsModel" "low" "[I") (by decide +kernel)) (fun _ h9 => h9) rfl dM_gathers_156 ?_
                    refine lv_aload_n hx hb dM_gathers_159 rfl (lv_at hl 1 rfl) ?_
                    refine va_get (D := (dC, dI)) (ci := 2) (v := .int (nI n1)) (C := RX2) (T := TM) (N := 15) hx hb hts (wsM00_in _) hown hK hP 0 rfl rfl 3 (by decide) (hts (.fieldLink RX2 45 "CharRowsModel" "size" "I") (by decide +kernel)) (fun _ h9 => h9) rfl dM_gathers_160 ?_
                    refine lv_aload_n hx hb dM_gathers_163 rfl (lv_at hl 1 rfl) ?_
                    refine va_get (D := (dC, dI)) (ci := 2) (v := .ref l5) (C := RX2) (T := TM) (N := 15) hx hb hts (wsM00_in _) hown hK hP 0 rfl rfl 7 (by decide) (hts (.fieldLink RX2 22 "CharRowsModel" "newLow" "[I") (by decide +kernel)) (fun _ h9 => h9) rfl dM_gathers_164 ?_
                    refine lv_iload_n hx hb dM_gathers_167 rfl (lv_at hl 3 rfl) ?_
                    refine va_iald hx hb hK hP 5 0 rfl rfl (vp_in_nI (by omega) (by omega)) dM_gathers_168 ?_
                    refine cr_top (y := nI (elo b)) (by rw [nI_clamp (by omega), hG.1 b (by omega), hb2]; rfl) ?_
                    refine va_iast hx hb hK hP hD hS 1 0 rfl rfl (vp_in_nI (by omega) (by omega)) dM_gathers_169 (fun H locs hP hD hS => ?_)
                    have hP : va_P (dC, dI) crCl [(mo, .inr (2, [.int th, .ref l1, .ref l2, .int (nI n1), .ref l3, .ref l4, .int (nI nk), .ref l5, .ref l6, .int (nI mn), .ref l7, .ref l8, .ref l9, .int by0, .int fd])), (l1, .inl (cI, 2400, .inl (upd f1 (nI n1).toNatClampNeg (nI (elo b))))), (l2, .inl (cI, 2400, .inl g1)), (l3, .inl (cI, 2400, .inl kf)), (l4, .inl (cI, 2400, .inl kg)), (l5, .inl (cI, 4800, .inl ef1)), (l6, .inl (cI, 4800, .inl eg)), (l7, .inl (cZ, 1120, .inl mt)), (l8, .inl (cI, 4, .inl fr)), (l9, .inl (cI, 4, .inl tt))] H := hP
                    have hD : va_D A [(mo, .inr (2, [.int th, .ref l1, .ref l2, .int (nI n1), .ref l3, .ref l4, .int (nI nk), .ref l5, .ref l6, .int (nI mn), .ref l7, .ref l8, .ref l9, .int by0, .int fd])), (l1, .inl (cI, 2400, .inl (upd f1 (nI n1).toNatClampNeg (nI (elo b))))), (l2, .inl (cI, 2400, .inl g1)), (l3, .inl (cI, 2400, .inl kf)), (l4, .inl (cI, 2400, .inl kg)), (l5, .inl (cI, 4800, .inl ef1)), (l6, .inl (cI, 4800, .inl eg)), (l7, .inl (cZ, 1120, .inl mt)), (l8, .inl (cI, 4, .inl fr)), (l9, .inl (cI, 4, .inl tt))] := hD
                    rw [nI_clamp (show n1 < 2 ^ 31 by omega)] at hP hD
                    refine lv_aload_n hx hb dM_gathers_170 rfl (lv_at hl 1 rfl) ?_
                    refine va_get (D := (dC, dI)) (ci := 2) (v := .ref l6) (C := RX2) (T := TM) (N := 15) hx hb hts (wsM00_in _) hown hK hP 0 rfl rfl 8 (by decide) (hts (.fieldLink RX2 25 "CharRowsModel" "newHigh" "[I") (by decide +kernel)) (fun _ h9 => h9) rfl dM_gathers_171 ?_
                    refine lv_iload_n hx hb dM_gathers_174 rfl (lv_at hl 3 rfl) ?_
                    refine va_iald hx hb hK hP 6 0 rfl rfl (vp_in_nI (by omega) (by omega)) dM_gathers_175 ?_
                    refine cr_top (y := nI (ehi b)) (by rw [nI_clamp (by omega)]; exact (hE1 b (by omega)).2.1) ?_
                    refine lv_istore_n (lv' := [(1, .int (nI (ehi b))), (2, .int (nI 1)), (0, .ref mo), (3, .int (nI b)), (4, .int (nI k))]) hx hb dM_gathers_176 rfl hl (by decide) rfl (fun ls hl => ?_)
                    refine lv_aload_n hx hb dM_gathers_177 rfl (lv_at hl 2 rfl) ?_
                    refine lv_dup hx hb dM_gathers_178 rfl ?_
                    refine va_get (D := (dC, dI)) (ci := 2) (v := .int (nI n1)) (C := RX2) (T := TM) (N := 15) hx hb hts (wsM00_in _) hown hK hP 0 rfl rfl 3 (by decide) (hts (.fieldLink RX2 45 "CharRowsModel" "size" "I") (by decide +kernel)) (fun _ h9 => h9) rfl dM_gathers_179 ?_
                    refine lv_iconst (v := nI 1) hx hb dM_gathers_182 (by decide) ?_
                    refine lv_iadd hx hb dM_gathers_183 ?_
                    refine cr_top (y := nI (n1 + 1)) (nI_add n1 1) ?_
                    refine va_put (D := (dC, dI)) (ci := 2) (v := .int (nI (n1 + 1))) (ty := .int) (C := RX2) (T := TM) (N := 15) hx hb hts (wsM00_in _) tyM tyM_ok nmM hown hK hP hD hS 0 rfl rfl 3 (by decide) (hts (.fieldLink RX2 45 "CharRowsModel" "size" "I") (by decide +kernel)) (fun _ h9 => h9) rfl (by decide +kernel) rfl rfl (Nat.le_of_ble_eq_true rfl) dM_gathers_184 (fun H locs hP hD hS => ?_)
                    have hP : va_P (dC, dI) crCl [(mo, .inr (2, [.int th, .ref l1, .ref l2, .int (nI (n1 + 1)), .ref l3, .ref l4, .int (nI nk), .ref l5, .ref l6, .int (nI mn), .ref l7, .ref l8, .ref l9, .int by0, .int fd])), (l1, .inl (cI, 2400, .inl (upd f1 n1 (nI (elo b))))), (l2, .inl (cI, 2400, .inl g1)), (l3, .inl (cI, 2400, .inl kf)), (l4, .inl (cI, 2400, .inl kg)), (l5, .inl (cI, 4800, .inl ef1)), (l6, .inl (cI, 4800, .inl eg)), (l7, .inl (cZ, 1120, .inl mt)), (l8, .inl (cI, 4, .inl fr)), (l9, .inl (cI, 4, .inl tt))] H := hP
                    have hD : va_D A [(mo, .inr (2, [.int th, .ref l1, .ref l2, .int (nI (n1 + 1)), .ref l3, .ref l4, .int (nI nk), .ref l5, .ref l6, .int (nI mn), .ref l7, .ref l8, .ref l9, .int by0, .int fd])), (l1, .inl (cI, 2400, .inl (upd f1 n1 (nI (elo b))))), (l2, .inl (cI, 2400, .inl g1)), (l3, .inl (cI, 2400, .inl kf)), (l4, .inl (cI, 2400, .inl kg)), (l5, .inl (cI, 4800, .inl ef1)), (l6, .inl (cI, 4800, .inl eg)), (l7, .inl (cZ, 1120, .inl mt)), (l8, .inl (cI, 4, .inl fr)), (l9, .inl (cI, 4, .inl tt))] := hD
                    refine lv_aload_n hx hb dM_gathers_187 rfl (lv_at hl 2 rfl) ?_
                    refine va_get (D := (dC, dI)) (ci := 2) (v := .ref l2) (C := RX2) (T := TM) (N := 15) hx hb hts (wsM00_in _) hown hK hP 0 rfl rfl 2 (by decide) (hts (.fieldLink RX2 13 "CharRowsModel" "high" "[I") (by decide +kernel)) (fun _ h9 => h9) rfl dM_gathers_188 ?_
                    refine lv_aload_n hx hb dM_gathers_191 rfl (lv_at hl 2 rfl) ?_
                    refine va_get (D := (dC, dI)) (ci := 2) (v := .int (nI (n1 + 1))) (C := RX2) (T := TM) (N := 15) hx hb hts (wsM00_in _) hown hK hP 0 rfl rfl 3 (by decide) (hts (.fieldLink RX2 45 "CharRowsModel" "size" "I") (by decide +kernel)) (fun _ h9 => h9) rfl dM_gathers_192 ?_
                    refine lv_iconst (v := nI 1) hx hb dM_gathers_195 (by decide) ?_
                    refine lv_isub hx hb dM_gathers_196 ?_
                    refine cr_top (y := nI ((n1 + 1) - 1)) (pk_sub (by omega)) ?_
                    refine lv_iload_n hx hb dM_gathers_197 rfl (lv_at hl 0 rfl) ?_
                    refine va_iast hx hb hK hP hD hS 2 0 rfl rfl (vp_in_nI (by omega) (by omega)) dM_gathers_198 (fun H locs hP hD hS => ?_)
                    have hP : va_P (dC, dI) crCl [(mo, .inr (2, [.int th, .ref l1, .ref l2, .int (nI (n1 + 1)), .ref l3, .ref l4, .int (nI nk), .ref l5, .ref l6, .int (nI mn), .ref l7, .ref l8, .ref l9, .int by0, .int fd])), (l1, .inl (cI, 2400, .inl (upd f1 n1 (nI (elo b))))), (l2, .inl (cI, 2400, .inl (upd g1 (nI ((n1 + 1) - 1)).toNatClampNeg (nI (ehi b))))), (l3, .inl (cI, 2400, .inl kf)), (l4, .inl (cI, 2400, .inl kg)), (l5, .inl (cI, 4800, .inl ef1)), (l6, .inl (cI, 4800, .inl eg)), (l7, .inl (cZ, 1120, .inl mt)), (l8, .inl (cI, 4, .inl fr)), (l9, .inl (cI, 4, .inl tt))] H := hP
                    have hD : va_D A [(mo, .inr (2, [.int th, .ref l1, .ref l2, .int (nI (n1 + 1)), .ref l3, .ref l4, .int (nI nk), .ref l5, .ref l6, .int (nI mn), .ref l7, .ref l8, .ref l9, .int by0, .int fd])), (l1, .inl (cI, 2400, .inl (upd f1 n1 (nI (elo b))))), (l2, .inl (cI, 2400, .inl (upd g1 (nI ((n1 + 1) - 1)).toNatClampNeg (nI (ehi b))))), (l3, .inl (cI, 2400, .inl kf)), (l4, .inl (cI, 2400, .inl kg)), (l5, .inl (cI, 4800, .inl ef1)), (l6, .inl (cI, 4800, .inl eg)), (l7, .inl (cZ, 1120, .inl mt)), (l8, .inl (cI, 4, .inl fr)), (l9, .inl (cI, 4, .inl tt))] := hD
                    rw [show n1 + 1 - 1 = n1 by omega, nI_clamp (show n1 < 2 ^ 31 by omega)] at hP hD
                    refine lv_aload_n hx hb dM_gathers_199 rfl (lv_at hl 2 rfl) ?_
                    refine va_get (D := (dC, dI)) (ci := 2) (v := .ref l5) (C := RX2) (T := TM) (N := 15) hx hb hts (wsM00_in _) hown hK hP 0 rfl rfl 7 (by decide) (hts (.fieldLink RX2 22 "CharRowsModel" "newLow" "[I") (by decide +kernel)) (fun _ h9 => h9) rfl dM_gathers_200 ?_
                    refine lv_iload_n hx hb dM_gathers_203 rfl (lv_at hl 3 rfl) ?_
                    refine lv_iconst (v := (-1)) hx hb dM_gathers_204 (by decide) ?_
                    refine va_iast hx hb hK hP hD hS 5 0 rfl rfl (vp_in_nI (by omega) (by omega)) dM_gathers_205 (fun H locs hP hD hS => ?_)
                    have hP : va_P (dC, dI) crCl [(mo, .inr (2, [.int th, .ref l1, .ref l2, .int (nI (n1 + 1)), .ref l3, .ref l4, .int (nI nk), .ref l5, .ref l6, .int (nI mn), .ref l7, .ref l8, .ref l9, .int by0, .int fd])), (l1, .inl (cI, 2400, .inl (upd f1 n1 (nI (elo b))))), (l2, .inl (cI, 2400, .inl (upd g1 n1 (nI (ehi b))))), (l3, .inl (cI, 2400, .inl kf)), (l4, .inl (cI, 2400, .inl kg)), (l5, .inl (cI, 4800, .inl (upd ef1 (nI b).toNatClampNeg (-1)))), (l6, .inl (cI, 4800, .inl eg)), (l7, .inl (cZ, 1120, .inl mt)), (l8, .inl (cI, 4, .inl fr)), (l9, .inl (cI, 4, .inl tt))] H := hP
                    have hD : va_D A [(mo, .inr (2, [.int th, .ref l1, .ref l2, .int (nI (n1 + 1)), .ref l3, .ref l4, .int (nI nk), .ref l5, .ref l6, .int (nI mn), .ref l7, .ref l8, .ref l9, .int by0, .int fd])), (l1, .inl (cI, 2400, .inl (upd f1 n1 (nI (elo b))))), (l2, .inl (cI, 2400, .inl (upd g1 n1 (nI (ehi b))))), (l3, .inl (cI, 2400, .inl kf)), (l4, .inl (cI, 2400, .inl kg)), (l5, .inl (cI, 4800, .inl (upd ef1 (nI b).toNatClampNeg (-1)))), (l6, .inl (cI, 4800, .inl eg)), (l7, .inl (cZ, 1120, .inl mt)), (l8, .inl (cI, 4, .inl fr)), (l9, .inl (cI, 4, .inl tt))] := hD
                    rw [nI_clamp (show b < 2 ^ 31 by omega)] at hP hD
                    refine lv_goto (tgt := 20) hx hb dM_gathers_206 (by decide) ?_
                    exact ih20 (n1 + 1) (va_up lo1 n1 (elo b)) (va_up hi1 n1 (ehi b)) (upd f1 n1 (nI (elo b))) (upd g1 n1 (nI (ehi b))) (upd ef1 b (-1)) (nI (ehi b)) (nI 1) (va_up dn b true) _ _ _ ⟨⟨cr_GI_push hV hG hb1 hb2 hb3 (by omega), Or.inl rfl⟩, hP, hD, hS, lv_sub hl [2, 0, 1] rfl⟩ (by rw [cr_cntb_up dn b hb2 mn hb1]; omega)
                  · rw [nI_ltI (by omega) (by omega)] at c_128
                    refine lv_aload_n hx hb dM_gathers_131 rfl (lv_at hl 1 rfl) ?_
                    refine va_get (D := (dC, dI)) (ci := 2) (v := .ref l6) (C := RX2) (T := TM) (N := 15) hx hb hts (wsM00_in _) hown hK hP 0 rfl rfl 8 (by decide) (hts (.fieldLink RX2 25 "CharRowsModel" "newHigh" "[I") (by decide +kernel)) (fun _ h9 => h9) rfl dM_gathers_132 ?_
                    refine lv_iload_n hx hb dM_gathers_135 rfl (lv_at hl 3 rfl) ?_
                    refine va_iald hx hb hK hP 6 0 rfl rfl (vp_in_nI (by omega) (by omega)) dM_gathers_136 ?_
                    refine cr_top (y := nI (ehi b)) (by rw [nI_clamp (by omega)]; exact (hE1 b (by omega)).2.1) ?_
                    refine lv_iload_n hx hb dM_gathers_137 rfl (lv_at hl 2 rfl) ?_
                    refine lv_icmp_le (tgt := 150) hx hb dM_gathers_138 (by decide) (fun c_138 => ?_) (fun c_138 => ?_)
                    · rw [nI_leI (by omega) (by omega)] at c_138
                      refine lv_iload_n hx hb dM_gathers_150 rfl (lv_at hl 2 rfl) ?_
                      refine cr_top (y := nI (max (hi1 (n1 - 1)) (ehi b))) (congrArg nI (by omega)) ?_
                      refine lv_istore_n (lv' := [(1, .int (nI (max (hi1 (n1 - 1)) (ehi b)))), (2, .int (nI 1)), (0, .ref mo), (3, .int (nI b)), (4, .int (nI k))]) hx hb dM_gathers_151 rfl hl (by decide) rfl (fun ls hl => ?_)
                      refine lv_goto (tgt := 187) hx hb dM_gathers_152 (by decide) ?_
                      refine lv_aload_n hx hb dM_gathers_187 rfl (lv_at hl 2 rfl) ?_
                      refine va_get (D := (dC, dI)) (ci := 2) (v := .ref l2) (C := RX2) (T := TM) (N := 15) hx hb hts (wsM00_in _) hown hK hP 0 rfl rfl 2 (by decide) (hts (.fieldLink RX2 13 "CharRowsModel" "high" "[I") (by decide +kernel)) (fun _ h9 => h9) rfl dM_gathers_188 ?_
                      refine lv_aload_n hx hb dM_gathers_191 rfl (lv_at hl 2 rfl) ?_
                      refine va_get (D := (dC, dI)) (ci := 2) (v := .int (nI n1)) (C := RX2) (T := TM) (N := 15) hx hb hts (wsM00_in _) hown hK hP 0 rfl rfl 3 (by decide) (hts (.fieldLink RX2 45 "CharRowsModel" "size" "I") (by decide +kernel)) (fun _ h9 => h9) rfl dM_gathers_192 ?_
                      refine lv_iconst (v := nI 1) hx hb dM_gathers_195 (by decide) ?_
                      refine lv_isub hx hb dM_gathers_196 ?_
                      refine cr_top (y := nI (n1 - 1)) (pk_sub (by omega)) ?_
                      refine lv_iload_n hx hb dM_gathers_197 rfl (lv_at hl 0 rfl) ?_
                      refine va_iast hx hb hK hP hD hS 2 0 rfl rfl (vp_in_nI (by omega) (by omega)) dM_gathers_198 (fun H locs hP hD hS => ?_)
                      have hP : va_P (dC, dI) crCl [(mo, .inr (2, [.int th, .ref l1, .ref l2, .int (nI n1), .ref l3, .ref l4, .int (nI nk), .ref l5, .ref l6, .int (nI mn), .ref l7, .ref l8, .ref l9, .int by0, .int fd])), (l1, .inl (cI, 2400, .inl f1)), (l2, .inl (cI, 2400, .inl (upd g1 (nI (n1 - 1)).toNatClampNeg (nI (max (hi1 (n1 - 1)) (ehi b)))))), (l3, .inl (cI, 2400, .inl kf)), (l4, .inl (cI, 2400, .inl kg)), (l5, .inl (cI, 4800, .inl ef1)), (l6, .inl (cI, 4800, .inl eg)), (l7, .inl (cZ, 1120, .inl mt)), (l8, .inl (cI, 4, .inl fr)), (l9, .inl (cI, 4, .inl tt))] H := hP
                      have hD : va_D A [(mo, .inr (2, [.int th, .ref l1, .ref l2, .int (nI n1), .ref l3, .ref l4, .int (nI nk), .ref l5, .ref l6, .int (nI mn), .ref l7, .ref l8, .ref l9, .int by0, .int fd])), (l1, .inl (cI, 2400, .inl f1)), (l2, .inl (cI, 2400, .inl (upd g1 (nI (n1 - 1)).toNatClampNeg (nI (max (hi1 (n1 - 1)) (ehi b)))))), (l3, .inl (cI, 2400, .inl kf)), (l4, .inl (cI, 2400, .inl kg)), (l5, .inl (cI, 4800, .inl ef1)), (l6, .inl (cI, 4800, .inl eg)), (l7, .inl (cZ, 1120, .inl mt)), (l8, .inl (cI, 4, .inl fr)), (l9, .inl (cI, 4, .inl tt))] := hD
                      rw [nI_clamp (show n1 - 1 < 2 ^ 31 by omega)] at hP hD
                      refine lv_aload_n hx hb dM_gathers_199 rfl (lv_at hl 2 rfl) ?_
                      refine va_get (D := (dC, dI)) (ci := 2) (v := .ref l5) (C := RX2) (T := TM) (N := 15) hx hb hts (wsM00_in _) hown hK hP 0 rfl rfl 7 (by decide) (hts (.fieldLink RX2 22 "CharRowsModel" "newLow" "[I") (by decide +kernel)) (fun _ h9 => h9) rfl dM_gathers_200 ?_
                      refine lv_iload_n hx hb dM_gathers_203 rfl (lv_at hl 3 rfl) ?_
                      refine lv_iconst (v := (-1)) hx hb dM_gathers_204 (by decide) ?_
                      refine va_iast hx hb hK hP hD hS 5 0 rfl rfl (vp_in_nI (by omega) (by omega)) dM_gathers_205 (fun H locs hP hD hS => ?_)
                      have hP : va_P (dC, dI) crCl [(mo, .inr (2, [.int th, .ref l1, .ref l2, .int (nI n1), .ref l3, .ref l4, .int (nI nk), .ref l5, .ref l6, .int (nI mn), .ref l7, .ref l8, .ref l9, .int by0, .int fd])), (l1, .inl (cI, 2400, .inl f1)), (l2, .inl (cI, 2400, .inl (upd g1 (n1 - 1) (nI (max (hi1 (n1 - 1)) (ehi b)))))), (l3, .inl (cI, 2400, .inl kf)), (l4, .inl (cI, 2400, .inl kg)), (l5, .inl (cI, 4800, .inl (upd ef1 (nI b).toNatClampNeg (-1)))), (l6, .inl (cI, 4800, .inl eg)), (l7, .inl (cZ, 1120, .inl mt)), (l8, .inl (cI, 4, .inl fr)), (l9, .inl (cI, 4, .inl tt))] H := hP
                      have hD : va_D A [(mo, .inr (2, [.int th, .ref l1, .ref l2, .int (nI n1), .ref l3, .ref l4, .int (nI nk), .ref l5, .ref l6, .int (nI mn), .ref l7, .ref l8, .ref l9, .int by0, .int fd])), (l1, .inl (cI, 2400, .inl f1)), (l2, .inl (cI, 2400, .inl (upd g1 (n1 - 1) (nI (max (hi1 (n1 - 1)) (ehi b)))))), (l3, .inl (cI, 2400, .inl kf)), (l4, .inl (cI, 2400, .inl kg)), (l5, .inl (cI, 4800, .inl (upd ef1 (nI b).toNatClampNeg (-1)))), (l6, .inl (cI, 4800, .inl eg)), (l7, .inl (cZ, 1120, .inl mt)), (l8, .inl (cI, 4, .inl fr)), (l9, .inl (cI, 4, .inl tt))] := hD
                      rw [nI_clamp (show b < 2 ^ 31 by omega)] at hP hD
                      refine lv_goto (tgt := 20) hx hb dM_gathers_206 (by decide) ?_
                      exact ih20 n1 lo1 (va_up hi1 (n1 - 1) (max (hi1 (n1 - 1)) (ehi b))) f1 (upd g1 (n1 - 1) (nI (max (hi1 (n1 - 1)) (ehi b)))) (upd ef1 b (-1)) (nI (max (hi1 (n1 - 1)) (ehi b))) (nI 1) (va_up dn b true) _ _ _ ⟨⟨cr_GI_merge hV hG hb1 hb2 hb3 (by omega) (by omega), Or.inl rfl⟩, hP, hD, hS, lv_sub hl [2, 0, 1] rfl⟩ (by rw [cr_cntb_up dn b hb2 mn hb1]; omega)
                    · rw [nI_leI (by omega) (by omega)] at c_138
                      refine lv_aload_n hx hb dM_gathers_141 rfl (lv_at hl 1 rfl) ?_
                      refine va_get (D := (dC, dI)) (ci := 2) (v := .ref l6) (C := RX2) (T := TM) (N := 15) hx hb hts (wsM00_in _) hown hK hP 0 rfl rfl 8 (by decide) (hts (.fieldLink RX2 25 "CharRowsModel" "newHigh" "[I") (by decide +kernel)) (fun _ h9 => h9) rfl dM_gathers_142 ?_
                      refine lv_iload_n hx hb dM_gathers_145 rfl (lv_at hl 3 rfl) ?_
                      refine va_iald hx hb hK hP 6 0 rfl rfl (vp_in_nI (by omega) (by omega)) dM_gathers_146 ?_
                      refine cr_top (y := nI (ehi b)) (by rw [nI_clamp (by omega)]; exact (hE1 b (by omega)).2.1) ?_
                      refine lv_goto (tgt := 151) hx hb dM_gathers_147 (by decide) ?_
                      refine cr_top (y := nI (max (hi1 (n1 - 1)) (ehi b))) (congrArg nI (by omega)) ?_
                      refine lv_istore_n (lv' := [(1, .int (nI (max (hi1 (n1 - 1)) (ehi b)))), (2, .int (nI 1)), (0, .ref mo), (3, .int (nI b)), (4, .int (nI k))]) hx hb dM_gathers_151 rfl hl (by decide) rfl (fun ls hl => ?_)
                      refine lv_goto (tgt := 187) hx hb dM_gathers_152 (by decide) ?_
                      refine lv_aload_n hx hb dM_gathers_187 rfl (lv_at hl 2 rfl) ?_
                      refine va_get (D := (dC, dI)) (ci := 2) (v := .ref l2) (C := RX2) (T := TM) (N := 15) hx hb hts (wsM00_in _) hown hK hP 0 rfl rfl 2 (by decide) (hts (.fieldLink RX2 13 "CharRowsModel" "high" "[I") (by decide +kernel)) (fun _ h9 => h9) rfl dM_gathers_188 ?_
                      refine lv_aload_n hx hb dM_gathers_191 rfl (lv_at hl 2 rfl) ?_
                      refine va_get (D := (dC, dI)) (ci := 2) (v := .int (nI n1)) (C := RX2) (T := TM) (N := 15) hx hb hts (wsM00_in _) hown hK hP 0 rfl rfl 3 (by decide) (hts (.fieldLink RX2 45 "CharRowsModel" "size" "I") (by decide +kernel)) (fun _ h9 => h9) rfl dM_gathers_192 ?_
                      refine lv_iconst (v := nI 1) hx hb dM_gathers_195 (by decide) ?_
                      refine lv_isub hx hb dM_gathers_196 ?_
                      refine cr_top (y := nI (n1 - 1)) (pk_sub (by omega)) ?_
                      refine lv_iload_n hx hb dM_gathers_197 rfl (lv_at hl 0 rfl) ?_
                      refine va_iast hx hb hK hP hD hS 2 0 rfl rfl (vp_in_nI (by omega) (by omega)) dM_gathers_198 (fun H locs hP hD hS => ?_)
                      have hP : va_P (dC, dI) crCl [(mo, .inr (2, [.int th, .ref l1, .ref l2, .int (nI n1), .ref l3, .ref l4, .int (nI nk), .ref l5, .ref l6, .int (nI mn), .ref l7, .ref l8, .ref l9, .int by0, .int fd])), (l1, .inl (cI, 2400, .inl f1)), (l2, .inl (cI, 2400, .inl (upd g1 (nI (n1 - 1)).toNatClampNeg (nI (max (hi1 (n1 - 1)) (ehi b)))))), (l3, .inl (cI, 2400, .inl kf)), (l4, .inl (cI, 2400, .inl kg)), (l5, .inl (cI, 4800, .inl ef1)), (l6, .inl (cI, 4800, .inl eg)), (l7, .inl (cZ, 1120, .inl mt)), (l8, .inl (cI, 4, .inl fr)), (l9, .inl (cI, 4, .inl tt))] H := hP
                      have hD : va_D A [(mo, .inr (2, [.int th, .ref l1, .ref l2, .int (nI n1), .ref l3, .ref l4, .int (nI nk), .ref l5, .ref l6, .int (nI mn), .ref l7, .ref l8, .ref l9, .int by0, .int fd])), (l1, .inl (cI, 2400, .inl f1)), (l2, .inl (cI, 2400, .inl (upd g1 (nI (n1 - 1)).toNatClampNeg (nI (max (hi1 (n1 - 1)) (ehi b)))))), (l3, .inl (cI, 2400, .inl kf)), (l4, .inl (cI, 2400, .inl kg)), (l5, .inl (cI, 4800, .inl ef1)), (l6, .inl (cI, 4800, .inl eg)), (l7, .inl (cZ, 1120, .inl mt)), (l8, .inl (cI, 4, .inl fr)), (l9, .inl (cI, 4, .inl tt))] := hD
                      rw [nI_clamp (show n1 - 1 < 2 ^ 31 by omega)] at hP hD
                      refine lv_aload_n hx hb dM_gathers_199 rfl (lv_at hl 2 rfl) ?_
                      refine va_get (D := (dC, dI)) (ci := 2) (v := .ref l5) (C := RX2) (T := TM) (N := 15) hx hb hts (wsM00_in _) hown hK hP 0 rfl rfl 7 (by decide) (hts (.fieldLink RX2 22 "CharRowsModel" "newLow" "[I") (by decide +kernel)) (fun _ h9 => h9) rfl dM_gathers_200 ?_
                      refine lv_iload_n hx hb dM_gathers_203 rfl (lv_at hl 3 rfl) ?_
                      refine lv_iconst (v := (-1)) hx hb dM_gathers_204 (by decide) ?_
                      refine va_iast hx hb hK hP hD hS 5 0 rfl rfl (vp_in_nI (by omega) (by omega)) dM_gathers_205 (fun H locs hP hD hS => ?_)
                      have hP : va_P (dC, dI) crCl [(mo, .inr (2, [.int th, .ref l1, .ref l2, .int (nI n1), .ref l3, .ref l4, .int (nI nk), .ref l5, .ref l6, .int (nI mn), .ref l7, .ref l8, .ref l9, .int by0, .int fd])), (l1, .inl (cI, 2400, .inl f1)), (l2, .inl (cI, 2400, .inl (upd g1 (n1 - 1) (nI (max (hi1 (n1 - 1)) (ehi b)))))), (l3, .inl (cI, 2400, .inl kf)), (l4, .inl (cI, 2400, .inl kg)), (l5, .inl (cI, 4800, .inl (upd ef1 (nI b).toNatClampNeg (-1)))), (l6, .inl (cI, 4800, .inl eg)), (l7, .inl (cZ, 1120, .inl mt)), (l8, .inl (cI, 4, .inl fr)), (l9, .inl (cI, 4, .inl tt))] H := hP
                      have hD : va_D A [(mo, .inr (2, [.int th, .ref l1, .ref l2, .int (nI n1), .ref l3, .ref l4, .int (nI nk), .ref l5, .ref l6, .int (nI mn), .ref l7, .ref l8, .ref l9, .int by0, .int fd])), (l1, .inl (cI, 2400, .inl f1)), (l2, .inl (cI, 2400, .inl (upd g1 (n1 - 1) (nI (max (hi1 (n1 - 1)) (ehi b)))))), (l3, .inl (cI, 2400, .inl kf)), (l4, .inl (cI, 2400, .inl kg)), (l5, .inl (cI, 4800, .inl (upd ef1 (nI b).toNatClampNeg (-1)))), (l6, .inl (cI, 4800, .inl eg)), (l7, .inl (cZ, 1120, .inl mt)), (l8, .inl (cI, 4, .inl fr)), (l9, .inl (cI, 4, .inl tt))] := hD
                      rw [nI_clamp (show b < 2 ^ 31 by omega)] at hP hD
                      refine lv_goto (tgt := 20) hx hb dM_gathers_206 (by decide) ?_
                      exact ih20 n1 lo1 (va_up hi1 (n1 - 1) (max (hi1 (n1 - 1)) (ehi b))) f1 (upd g1 (n1 - 1) (nI (max (hi1 (n1 - 1)) (ehi b)))) (upd ef1 b (-1)) (nI (max (hi1 (n1 - 1)) (ehi b))) (nI 1) (va_up dn b true) _ _ _ ⟨⟨cr_GI_merge hV hG hb1 hb2 hb3 (by omega) (by omega), Or.inl rfl⟩, hP, hD, hS, lv_sub hl [2, 0, 1] rfl⟩ (by rw [cr_cntb_up dn b hb2 mn hb1]; omega)
              · exact absurd c_106 (by decide)
          · rw [nI_leI (by omega) (by omega)] at c_35
            refine lv_aload_n hx hb dM_gathers_38 rfl (lv_at hl 0 rfl) ?_
            refine va_get (D := (dC, dI)) (ci := 2) (v := .ref l5) (C := RX2) (T := TM) (N := 15) hx hb hts (wsM00_in _) hown hK hP 0 rfl rfl 7 (by decide) (hts (.fieldLink RX2 22 "CharRowsModel" "newLow" "[I") (by decide +kernel)) (fun _ h9 => h9) rfl dM_gathers_39 ?_
            refine lv_iload hx hb dM_gathers_42 (lv_at hl 4 rfl) ?_
            refine va_iald hx hb hK hP 5 0 rfl rfl (vp_in_nI (by omega) (by omega)) dM_gathers_44 ?_
            cases hdk : dn k
            · refine cr_top (y := nI (elo k)) (by rw [nI_clamp (by omega), hG.1 k (by omega), hdk]; rfl) ?_
              refine lv_if_lt (tgt := 73) hx hb dM_gathers_45 (by decide) (fun c_45 => ?_) (fun c_45 => ?_)
              · exact absurd c_45 (nI_pos (by have := hV k (by omega); unfold cr_Vr at this; omega))
              · refine lv_iload_n hx hb dM_gathers_48 rfl (lv_at hl 3 rfl) ?_
                refine lv_iconst (v := (-1)) hx hb dM_gathers_49 (by decide) ?_
                refine lv_icmp_eq (tgt := 69) hx hb dM_gathers_50 (by decide) (fun c_50 => ?_) (fun c_50 => ?_)
                · exact absurd c_50 (cr_ne_m1 (by omega))
                · refine lv_aload_n hx hb dM_gathers_53 rfl (lv_at hl 0 rfl) ?_
                  refine va_get (D := (dC, dI)) (ci := 2) (v := .ref l5) (C := RX2) (T := TM) (N := 15) hx hb hts (wsM00_in _) hown hK hP 0 rfl rfl 7 (by decide) (hts (.fieldLink RX2 22 "CharRowsModel" "newLow" "[I") (by decide +kernel)) (fun _ h9 => h9) rfl dM_gathers_54 ?_
                  refine lv_iload hx hb dM_gathers_57 (lv_at hl 4 rfl) ?_
                  refine va_iald hx hb hK hP 5 0 rfl rfl (vp_in_nI (by omega) (by omega)) dM_gathers_59 ?_
                  refine cr_top (y := nI (elo k)) (by rw [nI_clamp (by omega), hG.1 k (by omega), hdk]; rfl) ?_
                  refine lv_aload_n hx hb dM_gathers_60 rfl (lv_at hl 0 rfl) ?_
                  refine va_get (D := (dC, dI)) (ci := 2) (v := .ref l5) (C := RX2) (T := TM) (N := 15) hx hb hts (wsM00_in _) hown hK hP 0 rfl rfl 7 (by decide) (hts (.fieldLink RX2 22 "CharRowsModel" "newLow" "[I") (by decide +kernel)) (fun _ h9 => h9) rfl dM_gathers_61 ?_
                  refine lv_iload_n hx hb dM_gathers_64 rfl (lv_at hl 3 rfl) ?_
                  refine va_iald hx hb hK hP 5 0 rfl rfl (vp_in_nI (by omega) (by omega)) dM_gathers_65 ?_
                  refine cr_top (y := nI (elo b)) (by rw [nI_clamp (by omega), hG.1 b (by omega), hb2]; rfl) ?_
                  refine lv_icmp_ge (tgt := 73) hx hb dM_gathers_66 (by decide) (fun c_66 => ?_) (fun c_66 => ?_)
                  · have hv1 := hV k (by omega)
                    have hv2 := hV b (by omega)
                    unfold cr_Vr at hv1 hv2
                    rw [nI_leI (by omega) (by omega)] at c_66
                    refine lv_iconst (v := nI 0) hx hb dM_gathers_73 (by decide) ?_
                    refine lv_istore (lv' := [(5, .int (nI 0)), (0, .ref mo), (1, .int la), (2, .int (nI 1)), (3, .int (nI b)), (4, .int (nI k))]) hx hb dM_gathers_74 hl (by decide) rfl (fun ls hl => ?_)
                    refine lv_iload hx hb dM_gathers_76 (lv_at hl 0 rfl) ?_
                    refine lv_if_eq (tgt := 86) hx hb dM_gathers_78 (by decide) (fun c_78 => ?_) (fun c_78 => ?_)
                    · refine lv_iload_n hx hb dM_gathers_86 rfl (lv_at hl 4 rfl) ?_
                      refine lv_istore_n (lv' := [(3, .int (nI b)), (5, .int (nI 0)), (0, .ref mo), (1, .int la), (2, .int (nI 1)), (4, .int (nI k))]) hx hb dM_gathers_87 rfl hl (by decide) rfl (fun ls hl => ?_)
                      refine lv_iinc (v := nI (k + 1)) (lv' := [(4, .int (nI (k + 1))), (3, .int (nI b)), (5, .int (nI 0)), (0, .ref mo), (1, .int la), (2, .int (nI 1))]) hx hb dM_gathers_88 hl (k := 5) rfl (nI_add k 1) (by decide) rfl (fun ls hl => ?_)
                      refine lv_goto (tgt := 29) hx hb dM_gathers_91 (by decide) ?_
                      exact ih29 (k + 1) (nI b) _ _ _ ⟨⟨by omega, Or.inr ⟨b, rfl, by omega, hb2, cr_min_keep hb3 (Or.inr (by omega))⟩⟩, hP, hD, hS, lv_sub hl [3, 4, 5, 1, 0] rfl⟩ (by omega)
                    · exact absurd (by decide) c_78
                  · have hv1 := hV k (by omega)
                    have hv2 := hV b (by omega)
                    unfold cr_Vr at hv1 hv2
                    rw [nI_leI (by omega) (by omega)] at c_66
                    refine lv_iconst (v := nI 1) hx hb dM_gathers_69 (by decide) ?_
                    refine lv_goto (tgt := 74) hx hb dM_gathers_70 (by decide) ?_
                    refine lv_istore (lv' := [(5, .int (nI 1)), (0, .ref mo), (1, .int la), (2, .int (nI 1)), (3, .int (nI b)), (4, .int (nI k))]) hx hb dM_gathers_74 hl (by decide) rfl (fun ls hl => ?_)
                    refine lv_iload hx hb dM_gathers_76 (lv_at hl 0 rfl) ?_
                    refine lv_if_eq (tgt := 86) hx hb dM_gathers_78 (by decide) (fun c_78 => ?_) (fun c_78 => ?_)
                    · exact absurd c_78 (by decide)
                    · refine lv_iload hx hb dM_gathers_81 (lv_at hl 5 rfl) ?_
                      refine lv_goto (tgt := 87) hx hb dM_gathers_83 (by decide) ?_
                      refine lv_istore_n (lv' := [(3, .int (nI k)), (5, .int (nI 1)), (0, .ref mo), (1, .int la), (2, .int (nI 1)), (4, .int (nI k))]) hx hb dM_gathers_87 rfl hl (by decide) rfl (fun ls hl => ?_)
                      refine lv_iinc (v := nI (k + 1)) (lv' := [(4, .int (nI (k + 1))), (3, .int (nI k)), (5, .int (nI 1)), (0, .ref mo), (1, .int la), (2, .int (nI 1))]) hx hb dM_gathers_88 hl (k := 5) rfl (nI_add k 1) (by decide) rfl (fun ls hl => ?_)
                      refine lv_goto (tgt := 29) hx hb dM_gathers_91 (by decide) ?_
                      exact ih29 (k + 1) (nI k) _ _ _ ⟨⟨by omega, Or.inr ⟨k, rfl, by omega, hdk, cr_min_less hb3 hdk (by omega)⟩⟩, hP, hD, hS, lv_sub hl [3, 4, 5, 1, 0] rfl⟩ (by omega)
            · refine cr_top (y := (-1)) (by rw [nI_clamp (by omega), hG.1 k (by omega), hdk]; rfl) ?_
              refine lv_if_lt (tgt := 73) hx hb dM_gathers_45 (by decide) (fun c_45 => ?_) (fun c_45 => ?_)
              · refine lv_iconst (v := nI 0) hx hb dM_gathers_73 (by decide) ?_
                refine lv_istore (lv' := [(5, .int (nI 0)), (0, .ref mo), (1, .int la), (2, .int (nI 1)), (3, .int (nI b)), (4, .int (nI k))]) hx hb dM_gathers_74 hl (by decide) rfl (fun ls hl => ?_)
                refine lv_iload hx hb dM_gathers_76 (lv_at hl 0 rfl) ?_
                refine lv_if_eq (tgt := 86) hx hb dM_gathers_78 (by decide) (fun c_78 => ?_) (fun c_78 => ?_)
                · refine lv_iload_n hx hb dM_gathers_86 rfl (lv_at hl 4 rfl) ?_
                  refine lv_istore_n (lv' := [(3, .int (nI b)), (5, .int (nI 0)), (0, .ref mo), (1, .int la), (2, .int (nI 1)), (4, .int (nI k))]) hx hb dM_gathers_87 rfl hl (by decide) rfl (fun ls hl => ?_)
                  refine lv_iinc (v := nI (k + 1)) (lv' := [(4, .int (nI (k + 1))), (3, .int (nI b)), (5, .int (nI 0)), (0, .ref mo), (1, .int la), (2, .int (nI 1))]) hx hb dM_gathers_88 hl (k := 5) rfl (nI_add k 1) (by decide) rfl (fun ls hl => ?_)
                  refine lv_goto (tgt := 29) hx hb dM_gathers_91 (by decide) ?_
                  exact ih29 (k + 1) (nI b) _ _ _ ⟨⟨by omega, Or.inr ⟨b, rfl, by omega, hb2, cr_min_keep hb3 (Or.inl hdk)⟩⟩, hP, hD, hS, lv_sub hl [3, 4, 5, 1, 0] rfl⟩ (by omega)
                · exact absurd (by decide) c_78
              · exact absurd (by decide) c_45
    · refine lv_iload_n hx hb dM_gathers_20 rfl (lv_at hl 2 rfl) ?_
      refine lv_if_eq (tgt := 209) hx hb dM_gathers_21 (by decide) (fun c_21 => ?_) (fun c_21 => ?_)
      · refine lv_aload_n hx hb dM_gathers_209 rfl (lv_at hl 0 rfl) ?_
        refine lv_iconst (v := nI 0) hx hb dM_gathers_210 (by decide) ?_
        refine va_put (D := (dC, dI)) (ci := 2) (v := .int (nI 0)) (ty := .int) (C := RX2) (T := TM) (N := 15) hx hb hts (wsM00_in _) tyM tyM_ok nmM hown hK hP hD hS 0 rfl rfl 9 (by decide) (hts (.fieldLink RX2 42 "CharRowsModel" "many" "I") (by decide +kernel)) (fun _ h9 => h9) rfl (by decide +kernel) rfl rfl (Nat.le_of_ble_eq_true rfl) dM_gathers_211 (fun H locs hP hD hS => ?_)
        have hP : va_P (dC, dI) crCl [(mo, .inr (2, [.int th, .ref l1, .ref l2, .int (nI n1), .ref l3, .ref l4, .int (nI nk), .ref l5, .ref l6, .int (nI 0), .ref l7, .ref l8, .ref l9, .int by0, .int fd])), (l1, .inl (cI, 2400, .inl f1)), (l2, .inl (cI, 2400, .inl g1)), (l3, .inl (cI, 2400, .inl kf)), (l4, .inl (cI, 2400, .inl kg)), (l5, .inl (cI, 4800, .inl ef1)), (l6, .inl (cI, 4800, .inl eg)), (l7, .inl (cZ, 1120, .inl mt)), (l8, .inl (cI, 4, .inl fr)), (l9, .inl (cI, 4, .inl tt))] H := hP
        have hD : va_D A [(mo, .inr (2, [.int th, .ref l1, .ref l2, .int (nI n1), .ref l3, .ref l4, .int (nI nk), .ref l5, .ref l6, .int (nI 0), .ref l7, .ref l8, .ref l9, .int by0, .int fd])), (l1, .inl (cI, 2400, .inl f1)), (l2, .inl (cI, 2400, .inl g1)), (l3, .inl (cI, 2400, .inl kf)), (l4, .inl (cI, 2400, .inl kg)), (l5, .inl (cI, 4800, .inl ef1)), (l6, .inl (cI, 4800, .inl eg)), (l7, .inl (cZ, 1120, .inl mt)), (l8, .inl (cI, 4, .inl fr)), (l9, .inl (cI, 4, .inl tt))] := hD
        refine lv_aload_n hx hb dM_gathers_214 rfl (lv_at hl 0 rfl) ?_
        refine va_get (D := (dC, dI)) (ci := 2) (v := .int (nI n1)) (C := RX2) (T := TM) (N := 15) hx hb hts (wsM00_in _) hown hK hP 0 rfl rfl 3 (by decide) (hts (.fieldLink RX2 45 "CharRowsModel" "size" "I") (by decide +kernel)) (fun _ h9 => h9) rfl dM_gathers_215 ?_
        exact W.iret (v := nI n1) hx hb hr (fun t9 ht9 hW9 => ⟨⟨nI n1, [(mo, .inr (2, [.int th, .ref l1, .ref l2, .int (nI n1), .ref l3, .ref l4, .int (nI nk), .ref l5, .ref l6, .int (nI 0), .ref l7, .ref l8, .ref l9, .int by0, .int fd])), (l1, .inl (cI, 2400, .inl f1)), (l2, .inl (cI, 2400, .inl g1)), (l3, .inl (cI, 2400, .inl kf)), (l4, .inl (cI, 2400, .inl kg)), (l5, .inl (cI, 4800, .inl ef1)), (l6, .inl (cI, 4800, .inl eg)), (l7, .inl (cZ, 1120, .inl mt)), (l8, .inl (cI, 4, .inl fr)), (l9, .inl (cI, 4, .inl tt))], rfl, ⟨n1, f1, g1, ef1, rfl, rfl, Nat.le_trans hG.2.2.2.2.1 (cr_cntb_le dn mn), cr_GI_set hG hall hE2⟩, by rw [ht9]; exact hP, va_K.moved hW9.alike hK, hD⟩, hS.F ht9⟩) hS.2.2 dM_gathers_218
      · exact absurd (by decide) c_21
  · rw [show (0 : Int32) = nI 0 from rfl, nI_leI (by omega) (by omega)] at c_11
    refine lv_iconst (v := nI 1) hx hb dM_gathers_14 (by decide) ?_
    refine lv_goto (tgt := 19) hx hb dM_gathers_15 (by decide) ?_
    refine lv_istore_n (lv' := [(2, .int (nI 1)), (1, .int (-1)), (0, .ref mo)]) hx hb dM_gathers_19 rfl hl (by decide) rfl (fun ls hl => ?_)
    refine cr_lp9 (fun (n1 : Nat) (lo1 : Nat → Nat) (hi1 : Nat → Nat) (f1 : Nat → Int32) (g1 : Nat → Int32) (ef1 : Nat → Int32) (la : Int32) (mr : Int32) (dn : Nat → Bool) => 2 * (mn - cr_cntb dn mn) + (if mr = nI 1 then 1 else 0)) (fun (n1 : Nat) (lo1 : Nat → Nat) (hi1 : Nat → Nat) (f1 : Nat → Int32) (g1 : Nat → Int32) (ef1 : Nat → Int32) (la : Int32) (mr : Int32) (dn : Nat → Bool) H locs ls => (cr_GI mn elo ehi n1 lo1 hi1 f1 g1 ef1 la dn ∧ (mr = nI 1 ∨ (mr = nI 0 ∧ ∀ k, k < mn → dn k = true))) ∧ va_P (dC, dI) crCl [(mo, .inr (2, [.int th, .ref l1, .ref l2, .int (nI n1), .ref l3, .ref l4, .int (nI nk), .ref l5, .ref l6, .int (nI mn), .ref l7, .ref l8, .ref l9, .int by0, .int fd])), (l1, .inl (cI, 2400, .inl f1)), (l2, .inl (cI, 2400, .inl g1)), (l3, .inl (cI, 2400, .inl kf)), (l4, .inl (cI, 2400, .inl kg)), (l5, .inl (cI, 4800, .inl ef1)), (l6, .inl (cI, 4800, .inl eg)), (l7, .inl (cZ, 1120, .inl mt)), (l8, .inl (cI, 4, .inl fr)), (l9, .inl (cI, 4, .inl tt))] H ∧ va_D A [(mo, .inr (2, [.int th, .ref l1, .ref l2, .int (nI n1), .ref l3, .ref l4, .int (nI nk), .ref l5, .ref l6, .int (nI mn), .ref l7, .ref l8, .ref l9, .int by0, .int fd])), (l1, .inl (cI, 2400, .inl f1)), (l2, .inl (cI, 2400, .inl g1)), (l3, .inl (cI, 2400, .inl kf)), (l4, .inl (cI, 2400, .inl kg)), (l5, .inl (cI, 4800, .inl ef1)), (l6, .inl (cI, 4800, .inl eg)), (l7, .inl (cZ, 1120, .inl mt)), (l8, .inl (cI, 4, .inl fr)), (l9, .inl (cI, 4, .inl tt))] ∧ va_S A s.heap H locs ∧ lv_has ls 6 [(0, .ref mo), (1, .int la), (2, .int mr)]) ?_ 0 (fun _ => 0) (fun _ => 0) f g ef (-1) (nI 1) (fun _ => false) ⟨⟨cr_GI_0 hE1, Or.inl rfl⟩, hP, hD, hS, lv_sub hl [2, 1, 0] rfl⟩
    intro n1 lo1 hi1 f1 g1 ef1 la mr dn H locs ls hI20 ih20
    obtain ⟨⟨hG, hmr⟩, hP, hD, hS, hl⟩ := hI20
    rcases hmr with rfl | ⟨rfl, hall⟩
    · refine lv_iload_n hx hb dM_gathers_20 rfl (lv_at hl 2 rfl) ?_
      refine lv_if_eq (tgt := 209) hx hb dM_gathers_21 (by decide) (fun c_21 => ?_) (fun c_21 => ?_)
      · exact absurd c_21 (by decide)
      · refine lv_iconst (v := (-1)) hx hb dM_gathers_24 (by decide) ?_
        refine lv_istore_n (lv' := [(3, .int (-1)), (0, .ref mo), (1, .int la), (2, .int (nI 1))]) hx hb dM_gathers_25 rfl hl (by decide) rfl (fun ls hl => ?_)
        refine lv_iconst (v := nI 0) hx hb dM_gathers_26 (by decide) ?_
        refine lv_istore (lv' := [(4, .int (nI 0)), (3, .int (-1)), (0, .ref mo), (1, .int la), (2, .int (nI 1))]) hx hb dM_gathers_27 hl (by decide) rfl (fun ls hl => ?_)
        refine cr_lp2 (fun (k : Nat) (bs : Int32) => mn - k) (fun (k : Nat) (bs : Int32) H locs ls => (k ≤ mn ∧ ((bs = -1 ∧ ∀ j, j < k → dn j = true) ∨ ∃ b, bs = nI b ∧ b < k ∧ dn b = false ∧ ∀ j, j < k → dn j = false → elo b ≤ elo j)) ∧ va_P (dC, dI) crCl [(mo, .inr (2, [.int th, .ref l1, .ref l2, .int (nI n1), .ref l3, .ref l4, .int (nI nk), .ref l5, .ref l6, .int (nI mn), .ref l7, .ref l8, .ref l9, .int by0, .int fd])), (l1, .inl (cI, 2400, .inl f1)), (l2, .inl (cI, 2400, .inl g1)), (l3, .inl (cI, 2400, .inl kf)), (l4, .inl (cI, 2400, .inl kg)), (l5, .inl (cI, 4800, .inl ef1)), (l6, .inl (cI, 4800, .inl eg)), (l7, .inl (cZ, 1120, .inl mt)), (l8, .inl (cI, 4, .inl fr)), (l9, .inl (cI, 4, .inl tt))] H ∧ va_D A [(mo, .inr (2, [.int th, .ref l1, .ref l2, .int (nI n1), .ref l3, .ref l4, .int (nI nk), .ref l5, .ref l6, .int (nI mn), .ref l7, .ref l8, .ref l9, .int by0, .int fd])), (l1, .inl (cI, 2400, .inl f1)), (l2, .inl (cI, 2400, .inl g1)), (l3, .inl (cI, 2400, .inl kf)), (l4, .inl (cI, 2400, .inl kg)), (l5, .inl (cI, 4800, .inl ef1)), (l6, .inl (cI, 4800, .inl eg)), (l7, .inl (cZ, 1120, .inl mt)), (l8, .inl (cI, 4, .inl fr)), (l9, .inl (cI, 4, .inl tt))] ∧ va_S A s.heap H locs ∧ lv_has ls 6 [(0, .ref mo), (1, .int la), (2, .int (nI 1)), (3, .int bs), (4, .int (nI k))]) ?_ 0 (-1) ⟨⟨Nat.zero_le _, Or.inl ⟨rfl, fun j hj => absurd hj (Nat.not_lt_zero j)⟩⟩, hP, hD, hS, lv_sub hl [2, 3, 4, 1, 0] rfl⟩
        intro k bs H locs ls hI29 ih29
        obtain ⟨⟨hk, hbs⟩, hP, hD, hS, hl⟩ := hI29
        rcases hbs with ⟨rfl, hbn⟩ | ⟨b, rfl, hb1, hb2, hb3⟩
        · refine lv_iload hx hb dM_gathers_29 (lv_at hl 4 rfl) ?_
          refine lv_aload_n hx hb dM_gathers_31 rfl (lv_at hl 0 rfl) ?_
          refine va_get (D := (dC, dI)) (ci := 2) (v := .int (nI mn)) (C := RX2) (T := TM) (N := 15) hx hb hts (wsM00_in _) hown hK hP 0 rfl rfl 9 (by decide) (hts (.fieldLink RX2 42 "CharRowsModel" "many" "I") (by decide +kernel)) (fun _ h9 => h9) rfl dM_gathers_32 ?_
          refine lv_icmp_ge (tgt := 94) hx hb dM_gathers_35 (by decide) (fun c_35 => ?_) (fun c_35 => ?_)
          · rw [nI_leI (by omega) (by omega)] at c_35
            refine lv_iload_n hx hb dM_gathers_94 rfl (lv_at hl 3 rfl) ?_
            refine lv_iconst (v := (-1)) hx hb dM_gathers_95 (by decide) ?_
            refine lv_icmp_eq (tgt := 103) hx hb dM_gathers_96 (by decide) (fun c_96 => ?_) (fun c_96 => ?_)
            · have hball : ∀ j, j < mn → dn j = true := fun j hj => hbn j (by omega)
              refine lv_iconst (v := nI 0) hx hb dM_gathers_103 (by decide) ?_
              refine lv_istore_n (lv' := [(2, .int (nI 0)), (0, .ref mo), (1, .int la), (3, .int (-1)), (4, .int (nI k))]) hx hb dM_gathers_104 rfl hl (by decide) rfl (fun ls hl => ?_)
              refine lv_iload_n hx hb dM_gathers_105 rfl (lv_at hl 0 rfl) ?_
              refine lv_if_ne (tgt := 112) hx hb dM_gathers_106 (by decide) (fun c_106 => ?_) (fun c_106 => ?_)
              · exact absurd (by decide) c_106
              · refine lv_goto (tgt := 20) hx hb dM_gathers_109 (by decide) ?_
                exact ih20 n1 lo1 hi1 f1 g1 ef1 la (nI 0) dn _ _ _ ⟨⟨hG, Or.inr ⟨rfl, hball⟩⟩, hP, hD, hS, lv_sub hl [1, 2, 0] rfl⟩ (by rw [if_neg (show ¬ nI 0 = nI 1 by decide), if_pos (show nI 1 = nI 1 from rfl)]; omega)
            · exact absurd (by decide) c_96
          · rw [nI_leI (by omega) (by omega)] at c_35
            refine lv_aload_n hx hb dM_gathers_38 rfl (lv_at hl 0 rfl) ?_
            refine va_get (D := (dC, dI)) (ci := 2) (v := .ref l5) (C := RX2) (T := TM) (N := 15) hx hb hts (wsM00_in _) hown hK hP 0 rfl rfl 7 (by decide) (hts (.fieldLink RX2 22 "CharRowsModel" "newLow" "[I") (by decide +kernel)) (fun _ h9 => h9) rfl dM_gathers_39 ?_
            refine lv_iload hx hb dM_gathers_42 (lv_at hl 4 rfl) ?_
            refine va_iald hx hb hK hP 5 0 rfl rfl (vp_in_nI (by omega) (by omega)) dM_gathers_44 ?_
            cases hdk : dn k
            · refine cr_top (y := nI (elo k)) (by rw [nI_clamp (by omega), hG.1 k (by omega), hdk]; rfl) ?_
              refine lv_if_lt (tgt := 73) hx hb dM_gathers_45 (by decide) (fun c_45 => ?_) (fun c_45 => ?_)
              · exact absurd c_45 (nI_pos (by have := hV k (by omega); unfold cr_Vr at this; omega))
              · refine lv_iload_n hx hb dM_gathers_48 rfl (lv_at hl 3 rfl) ?_
                refine lv_iconst (v := (-1)) hx hb dM_gathers_49 (by decide) ?_
                refine lv_icmp_eq (tgt := 69) hx hb dM_gathers_50 (by decide) (fun c_50 => ?_) (fun c_50 => ?_)
                · refine lv_iconst (v := nI 1) hx hb dM_gathers_69 (by decide) ?_
                  refine lv_goto (tgt := 74) hx hb dM_gathers_70 (by decide) ?_
                  refine lv_istore (lv' := [(5, .int (nI 1)), (0, .ref mo), (1, .int la), (2, .int (nI 1)), (3, .int (-1)), (4, .int (nI k))]) hx hb dM_gathers_74 hl (by decide) rfl (fun ls hl => ?_)
                  refine lv_iload hx hb dM_gathers_76 (lv_at hl 0 rfl) ?_
                  refine lv_if_eq (tgt := 86) hx hb dM_gathers_78 (by decide) (fun c_78 => ?_) (fun c_78 => ?_)
                  · exact absurd c_78 (by decide)
                  · refine lv_iload hx hb dM_gathers_81 (lv_at hl 5 rfl) ?_
                    refine lv_goto (tgt := 87) hx hb dM_gathers_83 (by decide) ?_
                    refine lv_istore_n (lv' := [(3, .int (nI k)), (5, .int (nI 1)), (0, .ref mo), (1, .int la), (2, .int (nI 1)), (4, .int (nI k))]) hx hb dM_gathers_87 rfl hl (by decide) rfl (fun ls hl => ?_)
                    refine lv_iinc (v := nI (k + 1)) (lv' := [(4, .int (nI (k + 1))), (3, .int (nI k)), (5, .int (nI 1)), (0, .ref mo), (1, .int la), (2, .int (nI 1))]) hx hb dM_gathers_88 hl (k := 5) rfl (nI_add k 1) (by decide) rfl (fun ls hl => ?_)
                    refine lv_goto (tgt := 29) hx hb dM_gathers_91 (by decide) ?_
                    exact ih29 (k + 1) (nI k) _ _ _ ⟨⟨by omega, Or.inr ⟨k, rfl, by omega, hdk, cr_min_first hbn hdk⟩⟩, hP, hD, hS, lv_sub hl [3, 4, 5, 1, 0] rfl⟩ (by omega)
                · exact absurd (by decide) c_50
            · refine cr_top (y := (-1)) (by rw [nI_clamp (by omega), hG.1 k (by omega), hdk]; rfl) ?_
              refine lv_if_lt (tgt := 73) hx hb dM_gathers_45 (by decide) (fun c_45 => ?_) (fun c_45 => ?_)
              · refine lv_iconst (v := nI 0) hx hb dM_gathers_73 (by decide) ?_
                refine lv_istore (lv' := [(5, .int (nI 0)), (0, .ref mo), (1, .int la), (2, .int (nI 1)), (3, .int (-1)), (4, .int (nI k))]) hx hb dM_gathers_74 hl (by decide) rfl (fun ls hl => ?_)
                refine lv_iload hx hb dM_gathers_76 (lv_at hl 0 rfl) ?_
                refine lv_if_eq (tgt := 86) hx hb dM_gathers_78 (by decide) (fun c_78 => ?_) (fun c_78 => ?_)
                · refine lv_iload_n hx hb dM_gathers_86 rfl (lv_at hl 4 rfl) ?_
                  refine lv_istore_n (lv' := [(3, .int (-1)), (5, .int (nI 0)), (0, .ref mo), (1, .int la), (2, .int (nI 1)), (4, .int (nI k))]) hx hb dM_gathers_87 rfl hl (by decide) rfl (fun ls hl => ?_)
                  refine lv_iinc (v := nI (k + 1)) (lv' := [(4, .int (nI (k + 1))), (3, .int (-1)), (5, .int (nI 0)), (0, .ref mo), (1, .int la), (2, .int (nI 1))]) hx hb dM_gathers_88 hl (k := 5) rfl (nI_add k 1) (by decide) rfl (fun ls hl => ?_)
                  refine lv_goto (tgt := 29) hx hb dM_gathers_91 (by decide) ?_
                  exact ih29 (k + 1) (-1) _ _ _ ⟨⟨by omega, Or.inl ⟨rfl, cr_lt_0 hbn hdk⟩⟩, hP, hD, hS, lv_sub hl [3, 4, 5, 1, 0] rfl⟩ (by omega)
                · exact absurd (by decide) c_78
              · exact absurd (by decide) c_45
        · refine lv_iload hx hb dM_gathers_29 (lv_at hl 4 rfl) ?_
          refine lv_aload_n hx hb dM_gathers_31 rfl (lv_at hl 0 rfl) ?_
          refine va_get (D := (dC, dI)) (ci := 2) (v := .int (nI mn)) (C := RX2) (T := TM) (N := 15) hx hb hts (wsM00_in _) hown hK hP 0 rfl rfl 9 (by decide) (hts (.fieldLink RX2 42 "CharRowsModel" "many" "I") (by decide +kernel)) (fun _ h9 => h9) rfl dM_gathers_32 ?_
          refine lv_icmp_ge (tgt := 94) hx hb dM_gathers_35 (by decide) (fun c_35 => ?_) (fun c_35 => ?_)
          · rw [nI_leI (by omega) (by omega)] at c_35
            refine lv_iload_n hx hb dM_gathers_94 rfl (lv_at hl 3 rfl) ?_
            refine lv_iconst (v := (-1)) hx hb dM_gathers_95 (by decide) ?_
            refine lv_icmp_eq (tgt := 103) hx hb dM_gathers_96 (by decide) (fun c_96 => ?_) (fun c_96 => ?_)
            · exact absurd c_96 (cr_ne_m1 (by omega))
            · refine lv_iconst (v := nI 1) hx hb dM_gathers_99 (by decide) ?_
              refine lv_goto (tgt := 104) hx hb dM_gathers_100 (by decide) ?_
              refine lv_istore_n (lv' := [(2, .int (nI 1)), (0, .ref mo), (1, .int la), (3, .int (nI b)), (4, .int (nI k))]) hx hb dM_gathers_104 rfl hl (by decide) rfl (fun ls hl => ?_)
              refine lv_iload_n hx hb dM_gathers_105 rfl (lv_at hl 0 rfl) ?_
              refine lv_if_ne (tgt := 112) hx hb dM_gathers_106 (by decide) (fun c_106 => ?_) (fun c_106 => ?_)
              · have hb3 : ∀ j, j < mn → dn j = false → elo b ≤ elo j := fun j hj => hb3 j (by omega)
                have hb1 : b < mn := by omega
                have hvb := hV b hb1
                unfold cr_Vr at hvb
                have hcl := cr_cntb_lt dn b mn hb2 hb1
                have hn1 := hG.2.2.2.2.1
                refine lv_aload_n hx hb dM_gathers_112 rfl (lv_at hl 1 rfl) ?_
                refine va_get (D := (dC, dI)) (ci := 2) (v := .int (nI n1)) (C := RX2) (T := TM) (N := 15) hx hb hts (wsM00_in _) hown hK hP 0 rfl rfl 3 (by decide) (hts (.fieldLink RX2 45 "CharRowsModel" "size" "I") (by decide +kernel)) (fun _ h9 => h9) rfl dM_gathers_113 ?_
                refine lv_if_le (tgt := 155) hx hb dM_gathers_116 (by decide) (fun c_116 => ?_) (fun c_116 => ?_)
                · rw [show (0 : Int32) = nI 0 from rfl, nI_leI (by omega) (by omega)] at c_116
                  refine lv_aload_n hx hb dM_gathers_155 rfl (lv_at hl 1 rfl) ?_
                  refine va_get (D := (dC, dI)) (ci := 2) (v := .ref l1) (C := RX2) (T := TM) (N := 15) hx hb hts (wsM00_in _) hown hK hP 0 rfl rfl 1 (by decide) (hts (.fieldLink RX2 7 "CharRowsModel" "low" "[I") (by decide +kernel)) (fun _ h9 => h9) rfl dM_gathers_156 ?_
                  refine lv_aload_n hx hb dM_gathers_159 rfl (lv_at hl 1 rfl) ?_
                  refine va_get (D := (dC, dI)) (ci := 2) (v := .int (nI n1)) (C := RX2) (T := TM) (N := 15) hx hb hts (wsM00_in _) hown hK hP 0 rfl rfl 3 (by decide) (hts (.fieldLink RX2 45 "CharRowsModel" "size" "I") (by decide +kernel)) (fun _ h9 => h9) rfl dM_gathers_160 ?_
                  refine lv_aload_n hx hb dM_gathers_163 rfl (lv_at hl 1 rfl) ?_
                  refine va_get (D := (dC, dI)) (ci := 2) (v := .ref l5) (C := RX2) (T := TM) (N := 15) hx hb hts (wsM00_in _) hown hK hP 0 rfl rfl 7 (by decide) (hts (.fieldLink RX2 22 "CharRowsModel" "newLow" "[I") (by decide +kernel)) (fun _ h9 => h9) rfl dM_gathers_164 ?_
                  refine lv_iload_n hx hb dM_gathers_167 rfl (lv_at hl 3 rfl) ?_
                  refine va_iald hx hb hK hP 5 0 rfl rfl (vp_in_nI (by omega) (by omega)) dM_gathers_168 ?_
                  refine cr_top (y := nI (elo b)) (by rw [nI_clamp (by omega), hG.1 b (by omega), hb2]; rfl) ?_
                  refine va_iast hx hb hK hP hD hS 1 0 rfl rfl (vp_in_nI (by omega) (by omega)) dM_gathers_169 (fun H locs hP hD hS => ?_)
                  have hP : va_P (dC, dI) crCl [(mo, .inr (2, [.int th, .ref l1, .ref l2, .int (nI n1), .ref l3, .ref l4, .int (nI nk), .ref l5, .ref l6, .int (nI mn), .ref l7, .ref l8, .ref l9, .int by0, .int fd])), (l1, .inl (cI, 2400, .inl (upd f1 (nI n1).toNatClampNeg (nI (elo b))))), (l2, .inl (cI, 2400, .inl g1)), (l3, .inl (cI, 2400, .inl kf)), (l4, .inl (cI, 2400, .inl kg)), (l5, .inl (cI, 4800, .inl ef1)), (l6, .inl (cI, 4800, .inl eg)), (l7, .inl (cZ, 1120, .inl mt)), (l8, .inl (cI, 4, .inl fr)), (l9, .inl (cI, 4, .inl tt))] H := hP
                  have hD : va_D A [(mo, .inr (2, [.int th, .ref l1, .ref l2, .int (nI n1), .ref l3, .ref l4, .int (nI nk), .ref l5, .ref l6, .int (nI mn), .ref l7, .ref l8, .ref l9, .int by0, .int fd])), (l1, .inl (cI, 2400, .inl (upd f1 (nI n1).toNatClampNeg (nI (elo b))))), (l2, .inl (cI, 2400, .inl g1)), (l3, .inl (cI, 2400, .inl kf)), (l4, .inl (cI, 2400, .inl kg)), (l5, .inl (cI, 4800, .inl ef1)), (l6, .inl (cI, 4800, .inl eg)), (l7, .inl (cZ, 1120, .inl mt)), (l8, .inl (cI, 4, .inl fr)), (l9, .inl (cI, 4, .inl tt))] := hD
                  rw [nI_clamp (show n1 < 2 ^ 31 by omega)] at hP hD
                  refine lv_aload_n hx hb dM_gathers_170 rfl (lv_at hl 1 rfl) ?_
                  refine va_get (D := (dC, dI)) (ci := 2) (v := .ref l6) (C := RX2) (T := TM) (N := 15) hx hb hts (wsM00_in _) hown hK hP 0 rfl rfl 8 (by decide) (hts (.fieldLink RX2 25 "CharRowsModel" "newHigh" "[I") (by decide +kernel)) (fun _ h9 => h9) rfl dM_gathers_171 ?_
                  refine lv_iload_n hx hb dM_gathers_174 rfl (lv_at hl 3 rfl) ?_
                  refine va_iald hx hb hK hP 6 0 rfl rfl (vp_in_nI (by omega) (by omega)) dM_gathers_175 ?_
                  refine cr_top (y := nI (ehi b)) (by rw [nI_clamp (by omega)]; exact (hE1 b (by omega)).2.1) ?_
                  refine lv_istore_n (lv' := [(1, .int (nI (ehi b))), (2, .int (nI 1)), (0, .ref mo), (3, .int (nI b)), (4, .int (nI k))]) hx hb dM_gathers_176 rfl hl (by decide) rfl (fun ls hl => ?_)
                  refine lv_aload_n hx hb dM_gathers_177 rfl (lv_at hl 2 rfl) ?_
                  refine lv_dup hx hb dM_gathers_178 rfl ?_
                  refine va_get (D := (dC, dI)) (ci := 2) (v := .int (nI n1)) (C := RX2) (T := TM) (N := 15) hx hb hts (wsM00_in _) hown hK hP 0 rfl rfl 3 (by decide) (hts (.fieldLink RX2 45 "CharRowsModel" "size" "I") (by decide +kernel)) (fun _ h9 => h9) rfl dM_gathers_179 ?_
                  refine lv_iconst (v := nI 1) hx hb dM_gathers_182 (by decide) ?_
                  refine lv_iadd hx hb dM_gathers_183 ?_
                  refine cr_top (y := nI (n1 + 1)) (nI_add n1 1) ?_
                  refine va_put (D := (dC, dI)) (ci := 2) (v := .int (nI (n1 + 1))) (ty := .int) (C := RX2) (T := TM) (N := 15) hx hb hts (wsM00_in _) tyM tyM_ok nmM hown hK hP hD hS 0 rfl rfl 3 (by decide) (hts (.fieldLink RX2 45 "CharRowsModel" "size" "I") (by decide +kernel)) (fun _ h9 => h9) rfl (by decide +kernel) rfl rfl (Nat.le_of_ble_eq_true rfl) dM_gathers_184 (fun H locs hP hD hS => ?_)
                  have hP : va_P (dC, dI) crCl [(mo, .inr (2, [.int th, .ref l1, .ref l2, .int (nI (n1 + 1)), .ref l3, .ref l4, .int (nI nk), .ref l5, .ref l6, .int (nI mn), .ref l7, .ref l8, .ref l9, .int by0, .int fd])), (l1, .inl (cI, 2400, .inl (upd f1 n1 (nI (elo b))))), (l2, .inl (cI, 2400, .inl g1)), (l3, .inl (cI, 2400, .inl kf)), (l4, .inl (cI, 2400, .inl kg)), (l5, .inl (cI, 4800, .inl ef1)), (l6, .inl (cI, 4800, .inl eg)), (l7, .inl (cZ, 1120, .inl mt)), (l8, .inl (cI, 4, .inl fr)), (l9, .inl (cI, 4, .inl tt))] H := hP
                  have hD : va_D A [(mo, .inr (2, [.int th, .ref l1, .ref l2, .int (nI (n1 + 1)), .ref l3, .ref l4, .int (nI nk), .ref l5, .ref l6, .int (nI mn), .ref l7, .ref l8, .ref l9, .int by0, .int fd])), (l1, .inl (cI, 2400, .inl (upd f1 n1 (nI (elo b))))), (l2, .inl (cI, 2400, .inl g1)), (l3, .inl (cI, 2400, .inl kf)), (l4, .inl (cI, 2400, .inl kg)), (l5, .inl (cI, 4800, .inl ef1)), (l6, .inl (cI, 4800, .inl eg)), (l7, .inl (cZ, 1120, .inl mt)), (l8, .inl (cI, 4, .inl fr)), (l9, .inl (cI, 4, .inl tt))] := hD
                  refine lv_aload_n hx hb dM_gathers_187 rfl (lv_at hl 2 rfl) ?_
                  refine va_get (D := (dC, dI)) (ci := 2) (v := .ref l2) (C := RX2) (T := TM) (N := 15) hx hb hts (wsM00_in _) hown hK hP 0 rfl rfl 2 (by decide) (hts (.fieldLink RX2 13 "CharRowsModel" "high" "[I") (by decide +kernel)) (fun _ h9 => h9) rfl dM_gathers_188 ?_
                  refine lv_aload_n hx hb dM_gathers_191 rfl (lv_at hl 2 rfl) ?_
                  refine va_get (D := (dC, dI)) (ci := 2) (v := .int (nI (n1 + 1))) (C := RX2) (T := TM) (N := 15) hx hb hts (wsM00_in _) hown hK hP 0 rfl rfl 3 (by decide) (hts (.fieldLink RX2 45 "CharRowsModel" "size" "I") (by decide +kernel)) (fun _ h9 => h9) rfl dM_gathers_192 ?_
                  refine lv_iconst (v := nI 1) hx hb dM_gathers_195 (by decide) ?_
                  refine lv_isub hx hb dM_gathers_196 ?_
                  refine cr_top (y := nI ((n1 + 1) - 1)) (pk_sub (by omega)) ?_
                  refine lv_iload_n hx hb dM_gathers_197 rfl (lv_at hl 0 rfl) ?_
                  refine va_iast hx hb hK hP hD hS 2 0 rfl rfl (vp_in_nI (by omega) (by omega)) dM_gathers_198 (fun H locs hP hD hS => ?_)
                  have hP : va_P (dC, dI) crCl [(mo, .inr (2, [.int th, .ref l1, .ref l2, .int (nI (n1 + 1)), .ref l3, .ref l4, .int (nI nk), .ref l5, .ref l6, .int (nI mn), .ref l7, .ref l8, .ref l9, .int by0, .int fd])), (l1, .inl (cI, 2400, .inl (upd f1 n1 (nI (elo b))))), (l2, .inl (cI, 2400, .inl (upd g1 (nI ((n1 + 1) - 1)).toNatClampNeg (nI (ehi b))))), (l3, .inl (cI, 2400, .inl kf)), (l4, .inl (cI, 2400, .inl kg)), (l5, .inl (cI, 4800, .inl ef1)), (l6, .inl (cI, 4800, .inl eg)), (l7, .inl (cZ, 1120, .inl mt)), (l8, .inl (cI, 4, .inl fr)), (l9, .inl (cI, 4, .inl tt))] H := hP
                  have hD : va_D A [(mo, .inr (2, [.int th, .ref l1, .ref l2, .int (nI (n1 + 1)), .ref l3, .ref l4, .int (nI nk), .ref l5, .ref l6, .int (nI mn), .ref l7, .ref l8, .ref l9, .int by0, .int fd])), (l1, .inl (cI, 2400, .inl (upd f1 n1 (nI (elo b))))), (l2, .inl (cI, 2400, .inl (upd g1 (nI ((n1 + 1) - 1)).toNatClampNeg (nI (ehi b))))), (l3, .inl (cI, 2400, .inl kf)), (l4, .inl (cI, 2400, .inl kg)), (l5, .inl (cI, 4800, .inl ef1)), (l6, .inl (cI, 4800, .inl eg)), (l7, .inl (cZ, 1120, .inl mt)), (l8, .inl (cI, 4, .inl fr)), (l9, .inl (cI, 4, .inl tt))] := hD
                  rw [show n1 + 1 - 1 = n1 by omega, nI_clamp (show n1 < 2 ^ 31 by omega)] at hP hD
                  refine lv_aload_n hx hb dM_gathers_199 rfl (lv_at hl 2 rfl) ?_
                  refine va_get (D := (dC, dI)) (ci := 2) (v := .ref l5) (C := RX2) (T := TM) (N := 15) hx hb hts (wsM00_in _) hown hK hP 0 rfl rfl 7 (by decide) (hts (.fieldLink RX2 22 "CharRowsModel" "newLow" "[I") (by decide +kernel)) (fun _ h9 => h9) rfl dM_gathers_200 ?_
                  refine lv_iload_n hx hb dM_gathers_203 rfl (lv_at hl 3 rfl) ?_
                  refine lv_iconst (v := (-1)) hx hb dM_gathers_204 (by decide) ?_
                  refine va_iast hx hb hK hP hD hS 5 0 rfl rfl (vp_in_nI (by omega) (by omega)) dM_gathers_205 (fun H locs hP hD hS => ?_)
                  have hP : va_P (dC, dI) crCl [(mo, .inr (2, [.int th, .ref l1, .ref l2, .int (nI (n1 + 1)), .ref l3, .ref l4, .int (nI nk), .ref l5, .ref l6, .int (nI mn), .ref l7, .ref l8, .ref l9, .int by0, .int fd])), (l1, .inl (cI, 2400, .inl (upd f1 n1 (nI (elo b))))), (l2, .inl (cI, 2400, .inl (upd g1 n1 (nI (ehi b))))), (l3, .inl (cI, 2400, .inl kf)), (l4, .inl (cI, 2400, .inl kg)), (l5, .inl (cI, 4800, .inl (upd ef1 (nI b).toNatClampNeg (-1)))), (l6, .inl (cI, 4800, .inl eg)), (l7, .inl (cZ, 1120, .inl mt)), (l8, .inl (cI, 4, .inl fr)), (l9, .inl (cI, 4, .inl tt))] H := hP
                  have hD : va_D A [(mo, .inr (2, [.int th, .ref l1, .ref l2, .int (nI (n1 + 1)), .ref l3, .ref l4, .int (nI nk), .ref l5, .ref l6, .int (nI mn), .ref l7, .ref l8, .ref l9, .int by0, .int fd])), (l1, .inl (cI, 2400, .inl (upd f1 n1 (nI (elo b))))), (l2, .inl (cI, 2400, .inl (upd g1 n1 (nI (ehi b))))), (l3, .inl (cI, 2400, .inl kf)), (l4, .inl (cI, 2400, .inl kg)), (l5, .inl (cI, 4800, .inl (upd ef1 (nI b).toNatClampNeg (-1)))), (l6, .inl (cI, 4800, .inl eg)), (l7, .inl (cZ, 1120, .inl mt)), (l8, .inl (cI, 4, .inl fr)), (l9, .inl (cI, 4, .inl tt))] := hD
                  rw [nI_clamp (show b < 2 ^ 31 by omega)] at hP hD
                  refine lv_goto (tgt := 20) hx hb dM_gathers_206 (by decide) ?_
                  exact ih20 (n1 + 1) (va_up lo1 n1 (elo b)) (va_up hi1 n1 (ehi b)) (upd f1 n1 (nI (elo b))) (upd g1 n1 (nI (ehi b))) (upd ef1 b (-1)) (nI (ehi b)) (nI 1) (va_up dn b true) _ _ _ ⟨⟨cr_GI_push hV hG hb1 hb2 hb3 (by omega), Or.inl rfl⟩, hP, hD, hS, lv_sub hl [2, 0, 1] rfl⟩ (by rw [cr_cntb_up dn b hb2 mn hb1]; omega)
                · rw [show (0 : Int32) = nI 0 from rfl, nI_leI (by omega) (by omega)] at c_116
                  have hla := (hG.2.2.2.2.2 (by omega)).1
                  have hok := hG.2.2.1.1 (n1 - 1) (by omega)
                  have hlo := (hG.2.2.2.2.2 (by omega)).2 b hb1 hb2
                  subst hla
                  refine lv_aload_n hx hb dM_gathers_119 rfl (lv_at hl 1 rfl) ?_
                  refine va_get (D := (dC, dI)) (ci := 2) (v := .ref l5) (C := RX2) (T := TM) (N := 15) hx hb hts (wsM00_in _) hown hK hP 0 rfl rfl 7 (by decide) (hts (.fieldLink RX2 22 "CharRowsModel" "newLow" "[I") (by decide +kernel)) (fun _ h9 => h9) rfl dM_gathers_120 ?_
                  refine lv_iload_n hx hb dM_gathers_123 rfl (lv_at hl 3 rfl) ?_
                  refine va_iald hx hb hK hP 5 0 rfl rfl (vp_in_nI (by omega) (by omega)) dM_gathers_124 ?_
                  refine cr_top (y := nI (elo b)) (by rw [nI_clamp (by omega), hG.1 b (by omega), hb2]; rfl) ?_
                  refine lv_iload_n hx hb dM_gathers_125 rfl (lv_at hl 2 rfl) ?_
                  refine lv_iconst (v := nI 1) hx hb dM_gathers_126 (by decide) ?_
                  refine lv_iadd hx hb dM_gathers_127 ?_
                  refine cr_top (y := nI ((hi1 (n1 - 1)) + 1)) (nI_add (hi1 (n1 - 1)) 1) ?_
                  refine lv_icmp_gt (tgt := 155) hx hb dM_gathers_128 (by decide) (fun c_128 => ?_) (fun c_128 => ?_)
                  · rw [nI_ltI (by omega) (by omega)] at c_128
                    refine lv_aload_n hx hb dM_gathers_155 rfl (lv_at hl 1 rfl) ?_
                    refine va_get (D := (dC, dI)) (ci := 2) (v := .ref l1) (C := RX2) (T := TM) (N := 15) hx hb hts (wsM00_in _) hown hK hP 0 rfl rfl 1 (by decide) (hts (.fieldLink RX2 7 "CharRowsModel" "low" "[I") (by decide +kernel)) (fun _ h9 => h9) rfl dM_gathers_156 ?_
                    refine lv_aload_n hx hb dM_gathers_159 rfl (lv_at hl 1 rfl) ?_
                    refine va_get (D := (dC, dI)) (ci := 2) (v := .int (nI n1)) (C := RX2) (T := TM) (N := 15) hx hb hts (wsM00_in _) hown hK hP 0 rfl rfl 3 (by decide) (hts (.fieldLink RX2 45 "CharRowsModel" "size" "I") (by decide +kernel)) (fun _ h9 => h9) rfl dM_gathers_160 ?_
                    refine lv_aload_n hx hb dM_gathers_163 rfl (lv_at hl 1 rfl) ?_
                    refine va_get (D := (dC, dI)) (ci := 2) (v := .ref l5) (C := RX2) (T := TM) (N := 15) hx hb hts (wsM00_in _) hown hK hP 0 rfl rfl 7 (by decide) (hts (.fieldLink RX2 22 "CharRowsModel" "newLow" "[I") (by decide +kernel)) (fun _ h9 => h9) rfl dM_gathers_164 ?_
                    refine lv_iload_n hx hb dM_gathers_167 rfl (lv_at hl 3 rfl) ?_
                    refine va_iald hx hb hK hP 5 0 rfl rfl (vp_in_nI (by omega) (by omega)) dM_gathers_168 ?_
                    refine cr_top (y := nI (elo b)) (by rw [nI_clamp (by omega), hG.1 b (by omega), hb2]; rfl) ?_
                    refine va_iast hx hb hK hP hD hS 1 0 rfl rfl (vp_in_nI (by omega) (by omega)) dM_gathers_169 (fun H locs hP hD hS => ?_)
                    have hP : va_P (dC, dI) crCl [(mo, .inr (2, [.int th, .ref l1, .ref l2, .int (nI n1), .ref l3, .ref l4, .int (nI nk), .ref l5, .ref l6, .int (nI mn), .ref l7, .ref l8, .ref l9, .int by0, .int fd])), (l1, .inl (cI, 2400, .inl (upd f1 (nI n1).toNatClampNeg (nI (elo b))))), (l2, .inl (cI, 2400, .inl g1)), (l3, .inl (cI, 2400, .inl kf)), (l4, .inl (cI, 2400, .inl kg)), (l5, .inl (cI, 4800, .inl ef1)), (l6, .inl (cI, 4800, .inl eg)), (l7, .inl (cZ, 1120, .inl mt)), (l8, .inl (cI, 4, .inl fr)), (l9, .inl (cI, 4, .inl tt))] H := hP
                    have hD : va_D A [(mo, .inr (2, [.int th, .ref l1, .ref l2, .int (nI n1), .ref l3, .ref l4, .int (nI nk), .ref l5, .ref l6, .int (nI mn), .ref l7, .ref l8, .ref l9, .int by0, .int fd])), (l1, .inl (cI, 2400, .inl (upd f1 (nI n1).toNatClampNeg (nI (elo b))))), (l2, .inl (cI, 2400, .inl g1)), (l3, .inl (cI, 2400, .inl kf)), (l4, .inl (cI, 2400, .inl kg)), (l5, .inl (cI, 4800, .inl ef1)), (l6, .inl (cI, 4800, .inl eg)), (l7, .inl (cZ, 1120, .inl mt)), (l8, .inl (cI, 4, .inl fr)), (l9, .inl (cI, 4, .inl tt))] := hD
                    rw [nI_clamp (show n1 < 2 ^ 31 by omega)] at hP hD
                    refine lv_aload_n hx hb dM_gathers_170 rfl (lv_at hl 1 rfl) ?_
                    refine va_get (D := (dC, dI)) (ci := 2) (v := .ref l6) (C := RX2) (T := TM) (N := 15) hx hb hts (wsM00_in _) hown hK hP 0 rfl rfl 8 (by decide) (hts (.fieldLink RX2 25 "CharRowsModel" "newHigh" "[I") (by decide +kernel)) (fun _ h9 => h9) rfl dM_gathers_171 ?_
                    refine lv_iload_n hx hb dM_gathers_174 rfl (lv_at hl 3 rfl) ?_
                    refine va_iald hx hb hK hP 6 0 rfl rfl (vp_in_nI (by omega) (by omega)) dM_gathers_175 ?_
                    refine cr_top (y := nI (ehi b)) (by rw [nI_clamp (by omega)]; exact (hE1 b (by omega)).2.1) ?_
                    refine lv_istore_n (lv' := [(1, .int (nI (ehi b))), (2, .int (nI 1)), (0, .ref mo), (3, .int (nI b)), (4, .int (nI k))]) hx hb dM_gathers_176 rfl hl (by decide) rfl (fun ls hl => ?_)
                    refine lv_aload_n hx hb dM_gathers_177 rfl (lv_at hl 2 rfl) ?_
                    refine lv_dup hx hb dM_gathers_178 rfl ?_
                    refine va_get (D := (dC, dI)) (ci := 2) (v := .int (nI n1)) (C := RX2) (T := TM) (N := 15) hx hb hts (wsM00_in _) hown hK hP 0 rfl rfl 3 (by decide) (hts (.fieldLink RX2 45 "CharRowsModel" "size" "I") (by decide +kernel)) (fun _ h9 => h9) rfl dM_gathers_179 ?_
                    refine lv_iconst (v := nI 1) hx hb dM_gathers_182 (by decide) ?_
                    refine lv_iadd hx hb dM_gathers_183 ?_
                    refine cr_top (y := nI (n1 + 1)) (nI_add n1 1) ?_
                    refine va_put (D := (dC, dI)) (ci := 2) (v := .int (nI (n1 + 1))) (ty := .int) (C := RX2) (T := TM) (N := 15) hx hb hts (wsM00_in _) tyM tyM_ok nmM hown hK hP hD hS 0 rfl rfl 3 (by decide) (hts (.fieldLink RX2 45 "CharRowsModel" "size" "I") (by decide +kernel)) (fun _ h9 => h9) rfl (by decide +kernel) rfl rfl (Nat.le_of_ble_eq_true rfl) dM_gathers_184 (fun H locs hP hD hS => ?_)
                    have hP : va_P (dC, dI) crCl [(mo, .inr (2, [.int th, .ref l1, .ref l2, .int (nI (n1 + 1)), .ref l3, .ref l4, .int (nI nk), .ref l5, .ref l6, .int (nI mn), .ref l7, .ref l8, .ref l9, .int by0, .int fd])), (l1, .inl (cI, 2400, .inl (upd f1 n1 (nI (elo b))))), (l2, .inl (cI, 2400, .inl g1)), (l3, .inl (cI, 2400, .inl kf)), (l4, .inl (cI, 2400, .inl kg)), (l5, .inl (cI, 4800, .inl ef1)), (l6, .inl (cI, 4800, .inl eg)), (l7, .inl (cZ, 1120, .inl mt)), (l8, .inl (cI, 4, .inl fr)), (l9, .inl (cI, 4, .inl tt))] H := hP
                    have hD : va_D A [(mo, .inr (2, [.int th, .ref l1, .ref l2, .int (nI (n1 + 1)), .ref l3, .ref l4, .int (nI nk), .ref l5, .ref l6, .int (nI mn), .ref l7, .ref l8, .ref l9, .int by0, .int fd])), (l1, .inl (cI, 2400, .inl (upd f1 n1 (nI (elo b))))), (l2, .inl (cI, 2400, .inl g1)), (l3, .inl (cI, 2400, .inl kf)), (l4, .inl (cI, 2400, .inl kg)), (l5, .inl (cI, 4800, .inl ef1)), (l6, .inl (cI, 4800, .inl eg)), (l7, .inl (cZ, 1120, .inl mt)), (l8, .inl (cI, 4, .inl fr)), (l9, .inl (cI, 4, .inl tt))] := hD
                    refine lv_aload_n hx hb dM_gathers_187 rfl (lv_at hl 2 rfl) ?_
                    refine va_get (D := (dC, dI)) (ci := 2) (v := .ref l2) (C := RX2) (T := TM) (N := 15) hx hb hts (wsM00_in _) hown hK hP 0 rfl rfl 2 (by decide) (hts (.fieldLink RX2 13 "CharRowsModel" "high" "[I") (by decide +kernel)) (fun _ h9 => h9) rfl dM_gathers_188 ?_
                    refine lv_aload_n hx hb dM_gathers_191 rfl (lv_at hl 2 rfl) ?_
                    refine va_get (D := (dC, dI)) (ci := 2) (v := .int (nI (n1 + 1))) (C := RX2) (T := TM) (N := 15) hx hb hts (wsM00_in _) hown hK hP 0 rfl rfl 3 (by decide) (hts (.fieldLink RX2 45 "CharRowsModel" "size" "I") (by decide +kernel)) (fun _ h9 => h9) rfl dM_gathers_192 ?_
                    refine lv_iconst (v := nI 1) hx hb dM_gathers_195 (by decide) ?_
                    refine lv_isub hx hb dM_gathers_196 ?_
                    refine cr_top (y := nI ((n1 + 1) - 1)) (pk_sub (by omega)) ?_
                    refine lv_iload_n hx hb dM_gathers_197 rfl (lv_at hl 0 rfl) ?_
                    refine va_iast hx hb hK hP hD hS 2 0 rfl rfl (vp_in_nI (by omega) (by omega)) dM_gathers_198 (fun H locs hP hD hS => ?_)
                    have hP : va_P (dC, dI) crCl [(mo, .inr (2, [.int th, .ref l1, .ref l2, .int (nI (n1 + 1)), .ref l3, .ref l4, .int (nI nk), .ref l5, .ref l6, .int (nI mn), .ref l7, .ref l8, .ref l9, .int by0, .int fd])), (l1, .inl (cI, 2400, .inl (upd f1 n1 (nI (elo b))))), (l2, .inl (cI, 2400, .inl (upd g1 (nI ((n1 + 1) - 1)).toNatClampNeg (nI (ehi b))))), (l3, .inl (cI, 2400, .inl kf)), (l4, .inl (cI, 2400, .inl kg)), (l5, .inl (cI, 4800, .inl ef1)), (l6, .inl (cI, 4800, .inl eg)), (l7, .inl (cZ, 1120, .inl mt)), (l8, .inl (cI, 4, .inl fr)), (l9, .inl (cI, 4, .inl tt))] H := hP
                    have hD : va_D A [(mo, .inr (2, [.int th, .ref l1, .ref l2, .int (nI (n1 + 1)), .ref l3, .ref l4, .int (nI nk), .ref l5, .ref l6, .int (nI mn), .ref l7, .ref l8, .ref l9, .int by0, .int fd])), (l1, .inl (cI, 2400, .inl (upd f1 n1 (nI (elo b))))), (l2, .inl (cI, 2400, .inl (upd g1 (nI ((n1 + 1) - 1)).toNatClampNeg (nI (ehi b))))), (l3, .inl (cI, 2400, .inl kf)), (l4, .inl (cI, 2400, .inl kg)), (l5, .inl (cI, 4800, .inl ef1)), (l6, .inl (cI, 4800, .inl eg)), (l7, .inl (cZ, 1120, .inl mt)), (l8, .inl (cI, 4, .inl fr)), (l9, .inl (cI, 4, .inl tt))] := hD
                    rw [show n1 + 1 - 1 = n1 by omega, nI_clamp (show n1 < 2 ^ 31 by omega)] at hP hD
                    refine lv_aload_n hx hb dM_gathers_199 rfl (lv_at hl 2 rfl) ?_
                    refine va_get (D := (dC, dI)) (ci := 2) (v := .ref l5) (C := RX2) (T := TM) (N := 15) hx hb hts (wsM00_in _) hown hK hP 0 rfl rfl 7 (by decide) (hts (.fieldLink RX2 22 "CharRowsModel" "newLow" "[I") (by decide +kernel)) (fun _ h9 => h9) rfl dM_gathers_200 ?_
                    refine lv_iload_n hx hb dM_gathers_203 rfl (lv_at hl 3 rfl) ?_
                    refine lv_iconst (v := (-1)) hx hb dM_gathers_204 (by decide) ?_
                    refine va_iast hx hb hK hP hD hS 5 0 rfl rfl (vp_in_nI (by omega) (by omega)) dM_gathers_205 (fun H locs hP hD hS => ?_)
                    have hP : va_P (dC, dI) crCl [(mo, .inr (2, [.int th, .ref l1, .ref l2, .int (nI (n1 + 1)), .ref l3, .ref l4, .int (nI nk), .ref l5, .ref l6, .int (nI mn), .ref l7, .ref l8, .ref l9, .int by0, .int fd])), (l1, .inl (cI, 2400, .inl (upd f1 n1 (nI (elo b))))), (l2, .inl (cI, 2400, .inl (upd g1 n1 (nI (ehi b))))), (l3, .inl (cI, 2400, .inl kf)), (l4, .inl (cI, 2400, .inl kg)), (l5, .inl (cI, 4800, .inl (upd ef1 (nI b).toNatClampNeg (-1)))), (l6, .inl (cI, 4800, .inl eg)), (l7, .inl (cZ, 1120, .inl mt)), (l8, .inl (cI, 4, .inl fr)), (l9, .inl (cI, 4, .inl tt))] H := hP
                    have hD : va_D A [(mo, .inr (2, [.int th, .ref l1, .ref l2, .int (nI (n1 + 1)), .ref l3, .ref l4, .int (nI nk), .ref l5, .ref l6, .int (nI mn), .ref l7, .ref l8, .ref l9, .int by0, .int fd])), (l1, .inl (cI, 2400, .inl (upd f1 n1 (nI (elo b))))), (l2, .inl (cI, 2400, .inl (upd g1 n1 (nI (ehi b))))), (l3, .inl (cI, 2400, .inl kf)), (l4, .inl (cI, 2400, .inl kg)), (l5, .inl (cI, 4800, .inl (upd ef1 (nI b).toNatClampNeg (-1)))), (l6, .inl (cI, 4800, .inl eg)), (l7, .inl (cZ, 1120, .inl mt)), (l8, .inl (cI, 4, .inl fr)), (l9, .inl (cI, 4, .inl tt))] := hD
                    rw [nI_clamp (show b < 2 ^ 31 by omega)] at hP hD
                    refine lv_goto (tgt := 20) hx hb dM_gathers_206 (by decide) ?_
                    exact ih20 (n1 + 1) (va_up lo1 n1 (elo b)) (va_up hi1 n1 (ehi b)) (upd f1 n1 (nI (elo b))) (upd g1 n1 (nI (ehi b))) (upd ef1 b (-1)) (nI (ehi b)) (nI 1) (va_up dn b true) _ _ _ ⟨⟨cr_GI_push hV hG hb1 hb2 hb3 (by omega), Or.inl rfl⟩, hP, hD, hS, lv_sub hl [2, 0, 1] rfl⟩ (by rw [cr_cntb_up dn b hb2 mn hb1]; omega)
                  · rw [nI_ltI (by omega) (by omega)] at c_128
                    refine lv_aload_n hx hb dM_gathers_131 rfl (lv_at hl 1 rfl) ?_
                    refine va_get (D := (dC, dI)) (ci := 2) (v := .ref l6) (C := RX2) (T := TM) (N := 15) hx hb hts (wsM00_in _) hown hK hP 0 rfl rfl 8 (by decide) (hts (.fieldLink RX2 25 "CharRowsModel" "newHigh" "[I") (by decide +kernel)) (fun _ h9 => h9) rfl dM_gathers_132 ?_
                    refine lv_iload_n hx hb dM_gathers_135 rfl (lv_at hl 3 rfl) ?_
                    refine va_iald hx hb hK hP 6 0 rfl rfl (vp_in_nI (by omega) (by omega)) dM_gathers_136 ?_
                    refine cr_top (y := nI (ehi b)) (by rw [nI_clamp (by omega)]; exact (hE1 b (by omega)).2.1) ?_
                    refine lv_iload_n hx hb dM_gathers_137 rfl (lv_at hl 2 rfl) ?_
                    refine lv_icmp_le (tgt := 150) hx hb dM_gathers_138 (by decide) (fun c_138 => ?_) (fun c_138 => ?_)
                    · rw [nI_leI (by omega) (by omega)] at c_138
                      refine lv_iload_n hx hb dM_gathers_150 rfl (lv_at hl 2 rfl) ?_
                      refine cr_top (y := nI (max (hi1 (n1 - 1)) (ehi b))) (congrArg nI (by omega)) ?_
                      refine lv_istore_n (lv' := [(1, .int (nI (max (hi1 (n1 - 1)) (ehi b)))), (2, .int (nI 1)), (0, .ref mo), (3, .int (nI b)), (4, .int (nI k))]) hx hb dM_gathers_151 rfl hl (by decide) rfl (fun ls hl => ?_)
                      refine lv_goto (tgt := 187) hx hb dM_gathers_152 (by decide) ?_
                      refine lv_aload_n hx hb dM_gathers_187 rfl (lv_at hl 2 rfl) ?_
                      refine va_get (D := (dC, dI)) (ci := 2) (v := .ref l2) (C := RX2) (T := TM) (N := 15) hx hb hts (wsM00_in _) hown hK hP 0 rfl rfl 2 (by decide) (hts (.fieldLink RX2 13 "CharRowsModel" "high" "[I") (by decide +kernel)) (fun _ h9 => h9) rfl dM_gathers_188 ?_
                      refine lv_aload_n hx hb dM_gathers_191 rfl (lv_at hl 2 rfl) ?_
                      refine va_get (D := (dC, dI)) (ci := 2) (v := .int (nI n1)) (C := RX2) (T := TM) (N := 15) hx hb hts (wsM00_in _) hown hK hP 0 rfl rfl 3 (by decide) (hts (.fieldLink RX2 45 "CharRowsModel" "size" "I") (by decide +kernel)) (fun _ h9 => h9) rfl dM_gathers_192 ?_
                      refine lv_iconst (v := nI 1) hx hb dM_gathers_195 (by decide) ?_
                      refine lv_isub hx hb dM_gathers_196 ?_
                      refine cr_top (y := nI (n1 - 1)) (pk_sub (by omega)) ?_
                      refine lv_iload_n hx hb dM_gathers_197 rfl (lv_at hl 0 rfl) ?_
                      refine va_iast hx hb hK hP hD hS 2 0 rfl rfl (vp_in_nI (by omega) (by omega)) dM_gathers_198 (fun H locs hP hD hS => ?_)
                      have hP : va_P (dC, dI) crCl [(mo, .inr (2, [.int th, .ref l1, .ref l2, .int (nI n1), .ref l3, .ref l4, .int (nI nk), .ref l5, .ref l6, .int (nI mn), .ref l7, .ref l8, .ref l9, .int by0, .int fd])), (l1, .inl (cI, 2400, .inl f1)), (l2, .inl (cI, 2400, .inl (upd g1 (nI (n1 - 1)).toNatClampNeg (nI (max (hi1 (n1 - 1)) (ehi b)))))), (l3, .inl (cI, 2400, .inl kf)), (l4, .inl (cI, 2400, .inl kg)), (l5, .inl (cI, 4800, .inl ef1)), (l6, .inl (cI, 4800, .inl eg)), (l7, .inl (cZ, 1120, .inl mt)), (l8, .inl (cI, 4, .inl fr)), (l9, .inl (cI, 4, .inl tt))] H := hP
                      have hD : va_D A [(mo, .inr (2, [.int th, .ref l1, .ref l2, .int (nI n1), .ref l3, .ref l4, .int (nI nk), .ref l5, .ref l6, .int (nI mn), .ref l7, .ref l8, .ref l9, .int by0, .int fd])), (l1, .inl (cI, 2400, .inl f1)), (l2, .inl (cI, 2400, .inl (upd g1 (nI (n1 - 1)).toNatClampNeg (nI (max (hi1 (n1 - 1)) (ehi b)))))), (l3, .inl (cI, 2400, .inl kf)), (l4, .inl (cI, 2400, .inl kg)), (l5, .inl (cI, 4800, .inl ef1)), (l6, .inl (cI, 4800, .inl eg)), (l7, .inl (cZ, 1120, .inl mt)), (l8, .inl (cI, 4, .inl fr)), (l9, .inl (cI, 4, .inl tt))] := hD
                      rw [nI_clamp (show n1 - 1 < 2 ^ 31 by omega)] at hP hD
                      refine lv_aload_n hx hb dM_gathers_199 rfl (lv_at hl 2 rfl) ?_
                      refine va_get (D := (dC, dI)) (ci := 2) (v := .ref l5) (C := RX2) (T := TM) (N := 15) hx hb hts (wsM00_in _) hown hK hP 0 rfl rfl 7 (by decide) (hts (.fieldLink RX2 22 "CharRowsModel" "newLow" "[I") (by decide +kernel)) (fun _ h9 => h9) rfl dM_gathers_200 ?_
                      refine lv_iload_n hx hb dM_gathers_203 rfl (lv_at hl 3 rfl) ?_
                      refine lv_iconst (v := (-1)) hx hb dM_gathers_204 (by decide) ?_
                      refine va_iast hx hb hK hP hD hS 5 0 rfl rfl (vp_in_nI (by omega) (by omega)) dM_gathers_205 (fun H locs hP hD hS => ?_)
                      have hP : va_P (dC, dI) crCl [(mo, .inr (2, [.int th, .ref l1, .ref l2, .int (nI n1), .ref l3, .ref l4, .int (nI nk), .ref l5, .ref l6, .int (nI mn), .ref l7, .ref l8, .ref l9, .int by0, .int fd])), (l1, .inl (cI, 2400, .inl f1)), (l2, .inl (cI, 2400, .inl (upd g1 (n1 - 1) (nI (max (hi1 (n1 - 1)) (ehi b)))))), (l3, .inl (cI, 2400, .inl kf)), (l4, .inl (cI, 2400, .inl kg)), (l5, .inl (cI, 4800, .inl (upd ef1 (nI b).toNatClampNeg (-1)))), (l6, .inl (cI, 4800, .inl eg)), (l7, .inl (cZ, 1120, .inl mt)), (l8, .inl (cI, 4, .inl fr)), (l9, .inl (cI, 4, .inl tt))] H := hP
                      have hD : va_D A [(mo, .inr (2, [.int th, .ref l1, .ref l2, .int (nI n1), .ref l3, .ref l4, .int (nI nk), .ref l5, .ref l6, .int (nI mn), .ref l7, .ref l8, .ref l9, .int by0, .int fd])), (l1, .inl (cI, 2400, .inl f1)), (l2, .inl (cI, 2400, .inl (upd g1 (n1 - 1) (nI (max (hi1 (n1 - 1)) (ehi b)))))), (l3, .inl (cI, 2400, .inl kf)), (l4, .inl (cI, 2400, .inl kg)), (l5, .inl (cI, 4800, .inl (upd ef1 (nI b).toNatClampNeg (-1)))), (l6, .inl (cI, 4800, .inl eg)), (l7, .inl (cZ, 1120, .inl mt)), (l8, .inl (cI, 4, .inl fr)), (l9, .inl (cI, 4, .inl tt))] := hD
                      rw [nI_clamp (show b < 2 ^ 31 by omega)] at hP hD
                      refine lv_goto (tgt := 20) hx hb dM_gathers_206 (by decide) ?_
                      exact ih20 n1 lo1 (va_up hi1 (n1 - 1) (max (hi1 (n1 - 1)) (ehi b))) f1 (upd g1 (n1 - 1) (nI (max (hi1 (n1 - 1)) (ehi b)))) (upd ef1 b (-1)) (nI (max (hi1 (n1 - 1)) (ehi b))) (nI 1) (va_up dn b true) _ _ _ ⟨⟨cr_GI_merge hV hG hb1 hb2 hb3 (by omega) (by omega), Or.inl rfl⟩, hP, hD, hS, lv_sub hl [2, 0, 1] rfl⟩ (by rw [cr_cntb_up dn b hb2 mn hb1]; omega)
                    · rw [nI_leI (by omega) (by omega)] at c_138
                      refine lv_aload_n hx hb dM_gathers_141 rfl (lv_at hl 1 rfl) ?_
                      refine va_get (D := (dC, dI)) (ci := 2) (v := .ref l6) (C := RX2) (T := TM) (N := 15) hx hb hts (wsM00_in _) hown hK hP 0 rfl rfl 8 (by decide) (hts (.fieldLink RX2 25 "CharRowsModel" "newHigh" "[I") (by decide +kernel)) (fun _ h9 => h9) rfl dM_gathers_142 ?_
                      refine lv_iload_n hx hb dM_gathers_145 rfl (lv_at hl 3 rfl) ?_
                      refine va_iald hx hb hK hP 6 0 rfl rfl (vp_in_nI (by omega) (by omega)) dM_gathers_146 ?_
                      refine cr_top (y := nI (ehi b)) (by rw [nI_clamp (by omega)]; exact (hE1 b (by omega)).2.1) ?_
                      refine lv_goto (tgt := 151) hx hb dM_gathers_147 (by decide) ?_
                      refine cr_top (y := nI (max (hi1 (n1 - 1)) (ehi b))) (congrArg nI (by omega)) ?_
                      refine lv_istore_n (lv' := [(1, .int (nI (max (hi1 (n1 - 1)) (ehi b)))), (2, .int (nI 1)), (0, .ref mo), (3, .int (nI b)), (4, .int (nI k))]) hx hb dM_gathers_151 rfl hl (by decide) rfl (fun ls hl => ?_)
                      refine lv_goto (tgt := 187) hx hb dM_gathers_152 (by decide) ?_
                      refine lv_aload_n hx hb dM_gathers_187 rfl (lv_at hl 2 rfl) ?_
                      refine va_get (D := (dC, dI)) (ci := 2) (v := .ref l2) (C := RX2) (T := TM) (N := 15) hx hb hts (wsM00_in _) hown hK hP 0 rfl rfl 2 (by decide) (hts (.fieldLink RX2 13 "CharRowsModel" "high" "[I") (by decide +kernel)) (fun _ h9 => h9) rfl dM_gathers_188 ?_
                      refine lv_aload_n hx hb dM_gathers_191 rfl (lv_at hl 2 rfl) ?_
                      refine va_get (D := (dC, dI)) (ci := 2) (v := .int (nI n1)) (C := RX2) (T := TM) (N := 15) hx hb hts (wsM00_in _) hown hK hP 0 rfl rfl 3 (by decide) (hts (.fieldLink RX2 45 "CharRowsModel" "size" "I") (by decide +kernel)) (fun _ h9 => h9) rfl dM_gathers_192 ?_
                      refine lv_iconst (v := nI 1) hx hb dM_gathers_195 (by decide) ?_
                      refine lv_isub hx hb dM_gathers_196 ?_
                      refine cr_top (y := nI (n1 - 1)) (pk_sub (by omega)) ?_
                      refine lv_iload_n hx hb dM_gathers_197 rfl (lv_at hl 0 rfl) ?_
                      refine va_iast hx hb hK hP hD hS 2 0 rfl rfl (vp_in_nI (by omega) (by omega)) dM_gathers_198 (fun H locs hP hD hS => ?_)
                      have hP : va_P (dC, dI) crCl [(mo, .inr (2, [.int th, .ref l1, .ref l2, .int (nI n1), .ref l3, .ref l4, .int (nI nk), .ref l5, .ref l6, .int (nI mn), .ref l7, .ref l8, .ref l9, .int by0, .int fd])), (l1, .inl (cI, 2400, .inl f1)), (l2, .inl (cI, 2400, .inl (upd g1 (nI (n1 - 1)).toNatClampNeg (nI (max (hi1 (n1 - 1)) (ehi b)))))), (l3, .inl (cI, 2400, .inl kf)), (l4, .inl (cI, 2400, .inl kg)), (l5, .inl (cI, 4800, .inl ef1)), (l6, .inl (cI, 4800, .inl eg)), (l7, .inl (cZ, 1120, .inl mt)), (l8, .inl (cI, 4, .inl fr)), (l9, .inl (cI, 4, .inl tt))] H := hP
                      have hD : va_D A [(mo, .inr (2, [.int th, .ref l1, .ref l2, .int (nI n1), .ref l3, .ref l4, .int (nI nk), .ref l5, .ref l6, .int (nI mn), .ref l7, .ref l8, .ref l9, .int by0, .int fd])), (l1, .inl (cI, 2400, .inl f1)), (l2, .inl (cI, 2400, .inl (upd g1 (nI (n1 - 1)).toNatClampNeg (nI (max (hi1 (n1 - 1)) (ehi b)))))), (l3, .inl (cI, 2400, .inl kf)), (l4, .inl (cI, 2400, .inl kg)), (l5, .inl (cI, 4800, .inl ef1)), (l6, .inl (cI, 4800, .inl eg)), (l7, .inl (cZ, 1120, .inl mt)), (l8, .inl (cI, 4, .inl fr)), (l9, .inl (cI, 4, .inl tt))] := hD
                      rw [nI_clamp (show n1 - 1 < 2 ^ 31 by omega)] at hP hD
                      refine lv_aload_n hx hb dM_gathers_199 rfl (lv_at hl 2 rfl) ?_
                      refine va_get (D := (dC, dI)) (ci := 2) (v := .ref l5) (C := RX2) (T := TM) (N := 15) hx hb hts (wsM00_in _) hown hK hP 0 rfl rfl 7 (by decide) (hts (.fieldLink RX2 22 "CharRowsModel" "newLow" "[I") (by decide +kernel)) (fun _ h9 => h9) rfl dM_gathers_200 ?_
                      refine lv_iload_n hx hb dM_gathers_203 rfl (lv_at hl 3 rfl) ?_
                      refine lv_iconst (v := (-1)) hx hb dM_gathers_204 (by decide) ?_
                      refine va_iast hx hb hK hP hD hS 5 0 rfl rfl (vp_in_nI (by omega) (by omega)) dM_gathers_205 (fun H locs hP hD hS => ?_)
                      have hP : va_P (dC, dI) crCl [(mo, .inr (2, [.int th, .ref l1, .ref l2, .int (nI n1), .ref l3, .ref l4, .int (nI nk), .ref l5, .ref l6, .int (nI mn), .ref l7, .ref l8, .ref l9, .int by0, .int fd])), (l1, .inl (cI, 2400, .inl f1)), (l2, .inl (cI, 2400, .inl (upd g1 (n1 - 1) (nI (max (hi1 (n1 - 1)) (ehi b)))))), (l3, .inl (cI, 2400, .inl kf)), (l4, .inl (cI, 2400, .inl kg)), (l5, .inl (cI, 4800, .inl (upd ef1 (nI b).toNatClampNeg (-1)))), (l6, .inl (cI, 4800, .inl eg)), (l7, .inl (cZ, 1120, .inl mt)), (l8, .inl (cI, 4, .inl fr)), (l9, .inl (cI, 4, .inl tt))] H := hP
                      have hD : va_D A [(mo, .inr (2, [.int th, .ref l1, .ref l2, .int (nI n1), .ref l3, .ref l4, .int (nI nk), .ref l5, .ref l6, .int (nI mn), .ref l7, .ref l8, .ref l9, .int by0, .int fd])), (l1, .inl (cI, 2400, .inl f1)), (l2, .inl (cI, 2400, .inl (upd g1 (n1 - 1) (nI (max (hi1 (n1 - 1)) (ehi b)))))), (l3, .inl (cI, 2400, .inl kf)), (l4, .inl (cI, 2400, .inl kg)), (l5, .inl (cI, 4800, .inl (upd ef1 (nI b).toNatClampNeg (-1)))), (l6, .inl (cI, 4800, .inl eg)), (l7, .inl (cZ, 1120, .inl mt)), (l8, .inl (cI, 4, .inl fr)), (l9, .inl (cI, 4, .inl tt))] := hD
                      rw [nI_clamp (show b < 2 ^ 31 by omega)] at hP hD
                      refine lv_goto (tgt := 20) hx hb dM_gathers_206 (by decide) ?_
                      exact ih20 n1 lo1 (va_up hi1 (n1 - 1) (max (hi1 (n1 - 1)) (ehi b))) f1 (upd g1 (n1 - 1) (nI (max (hi1 (n1 - 1)) (ehi b)))) (upd ef1 b (-1)) (nI (max (hi1 (n1 - 1)) (ehi b))) (nI 1) (va_up dn b true) _ _ _ ⟨⟨cr_GI_merge hV hG hb1 hb2 hb3 (by omega) (by omega), Or.inl rfl⟩, hP, hD, hS, lv_sub hl [2, 0, 1] rfl⟩ (by rw [cr_cntb_up dn b hb2 mn hb1]; omega)
              · exact absurd c_106 (by decide)
          · rw [nI_leI (by omega) (by omega)] at c_35
            refine lv_aload_n hx hb dM_gathers_38 rfl (lv_at hl 0 rfl) ?_
            refine va_get (D := (dC, dI)) (ci := 2) (v := .ref l5) (C := RX2) (T := TM) (N := 15) hx hb hts (wsM00_in _) hown hK hP 0 rfl rfl 7 (by decide) (hts (.fieldLink RX2 22 "CharRowsModel" "newLow" "[I") (by decide +kernel)) (fun _ h9 => h9) rfl dM_gathers_39 ?_
            refine lv_iload hx hb dM_gathers_42 (lv_at hl 4 rfl) ?_
            refine va_iald hx hb hK hP 5 0 rfl rfl (vp_in_nI (by omega) (by omega)) dM_gathers_44 ?_
            cases hdk : dn k
            · refine cr_top (y := nI (elo k)) (by rw [nI_clamp (by omega), hG.1 k (by omega), hdk]; rfl) ?_
              refine lv_if_lt (tgt := 73) hx hb dM_gathers_45 (by decide) (fun c_45 => ?_) (fun c_45 => ?_)
              · exact absurd c_45 (nI_pos (by have := hV k (by omega); unfold cr_Vr at this; omega))
              · refine lv_iload_n hx hb dM_gathers_48 rfl (lv_at hl 3 rfl) ?_
                refine lv_iconst (v := (-1)) hx hb dM_gathers_49 (by decide) ?_
                refine lv_icmp_eq (tgt := 69) hx hb dM_gathers_50 (by decide) (fun c_50 => ?_) (fun c_50 => ?_)
                · exact absurd c_50 (cr_ne_m1 (by omega))
                · refine lv_aload_n hx hb dM_gathers_53 rfl (lv_at hl 0 rfl) ?_
                  refine va_get (D := (dC, dI)) (ci := 2) (v := .ref l5) (C := RX2) (T := TM) (N := 15) hx hb hts (wsM00_in _) hown hK hP 0 rfl rfl 7 (by decide) (hts (.fieldLink RX2 22 "CharRowsModel" "newLow" "[I") (by decide +kernel)) (fun _ h9 => h9) rfl dM_gathers_54 ?_
                  refine lv_iload hx hb dM_gathers_57 (lv_at hl 4 rfl) ?_
                  refine va_iald hx hb hK hP 5 0 rfl rfl (vp_in_nI (by omega) (by omega)) dM_gathers_59 ?_
                  refine cr_top (y := nI (elo k)) (by rw [nI_clamp (by omega), hG.1 k (by omega), hdk]; rfl) ?_
                  refine lv_aload_n hx hb dM_gathers_60 rfl (lv_at hl 0 rfl) ?_
                  refine va_get (D := (dC, dI)) (ci := 2) (v := .ref l5) (C := RX2) (T := TM) (N := 15) hx hb hts (wsM00_in _) hown hK hP 0 rfl rfl 7 (by decide) (hts (.fieldLink RX2 22 "CharRowsModel" "newLow" "[I") (by decide +kernel)) (fun _ h9 => h9) rfl dM_gathers_61 ?_
                  refine lv_iload_n hx hb dM_gathers_64 rfl (lv_at hl 3 rfl) ?_
                  refine va_iald hx hb hK hP 5 0 rfl rfl (vp_in_nI (by omega) (by omega)) dM_gathers_65 ?_
                  refine cr_top (y := nI (elo b)) (by rw [nI_clamp (by omega), hG.1 b (by omega), hb2]; rfl) ?_
                  refine lv_icmp_ge (tgt := 73) hx hb dM_gathers_66 (by decide) (fun c_66 => ?_) (fun c_66 => ?_)
                  · have hv1 := hV k (by omega)
                    have hv2 := hV b (by omega)
                    unfold cr_Vr at hv1 hv2
                    rw [nI_leI (by omega) (by omega)] at c_66
                    refine lv_iconst (v := nI 0) hx hb dM_gathers_73 (by decide) ?_
                    refine lv_istore (lv' := [(5, .int (nI 0)), (0, .ref mo), (1, .int la), (2, .int (nI 1)), (3, .int (nI b)), (4, .int (nI k))]) hx hb dM_gathers_74 hl (by decide) rfl (fun ls hl => ?_)
                    refine lv_iload hx hb dM_gathers_76 (lv_at hl 0 rfl) ?_
                    refine lv_if_eq (tgt := 86) hx hb dM_gathers_78 (by decide) (fun c_78 => ?_) (fun c_78 => ?_)
                    · refine lv_iload_n hx hb dM_gathers_86 rfl (lv_at hl 4 rfl) ?_
                      refine lv_istore_n (lv' := [(3, .int (nI b)), (5, .int (nI 0)), (0, .ref mo), (1, .int la), (2, .int (nI 1)), (4, .int (nI k))]) hx hb dM_gathers_87 rfl hl (by decide) rfl (fun ls hl => ?_)
                      refine lv_iinc (v := nI (k + 1)) (lv' := [(4, .int (nI (k + 1))), (3, .int (nI b)), (5, .int (nI 0)), (0, .ref mo), (1, .int la), (2, .int (nI 1))]) hx hb dM_gathers_88 hl (k := 5) rfl (nI_add k 1) (by decide) rfl (fun ls hl => ?_)
                      refine lv_goto (tgt := 29) hx hb dM_gathers_91 (by decide) ?_
                      exact ih29 (k + 1) (nI b) _ _ _ ⟨⟨by omega, Or.inr ⟨b, rfl, by omega, hb2, cr_min_keep hb3 (Or.inr (by omega))⟩⟩, hP, hD, hS, lv_sub hl [3, 4, 5, 1, 0] rfl⟩ (by omega)
                    · exact absurd (by decide) c_78
                  · have hv1 := hV k (by omega)
                    have hv2 := hV b (by omega)
                    unfold cr_Vr at hv1 hv2
                    rw [nI_leI (by omega) (by omega)] at c_66
                    refine lv_iconst (v := nI 1) hx hb dM_gathers_69 (by decide) ?_
                    refine lv_goto (tgt := 74) hx hb dM_gathers_70 (by decide) ?_
                    refine lv_istore (lv' := [(5, .int (nI 1)), (0, .ref mo), (1, .int la), (2, .int (nI 1)), (3, .int (nI b)), (4, .int (nI k))]) hx hb dM_gathers_74 hl (by decide) rfl (fun ls hl => ?_)
                    refine lv_iload hx hb dM_gathers_76 (lv_at hl 0 rfl) ?_
                    refine lv_if_eq (tgt := 86) hx hb dM_gathers_78 (by decide) (fun c_78 => ?_) (fun c_78 => ?_)
                    · exact absurd c_78 (by decide)
                    · refine lv_iload hx hb dM_gathers_81 (lv_at hl 5 rfl) ?_
                      refine lv_goto (tgt := 87) hx hb dM_gathers_83 (by decide) ?_
                      refine lv_istore_n (lv' := [(3, .int (nI k)), (5, .int (nI 1)), (0, .ref mo), (1, .int la), (2, .int (nI 1)), (4, .int (nI k))]) hx hb dM_gathers_87 rfl hl (by decide) rfl (fun ls hl => ?_)
                      refine lv_iinc (v := nI (k + 1)) (lv' := [(4, .int (nI (k + 1))), (3, .int (nI k)), (5, .int (nI 1)), (0, .ref mo), (1, .int la), (2, .int (nI 1))]) hx hb dM_gathers_88 hl (k := 5) rfl (nI_add k 1) (by decide) rfl (fun ls hl => ?_)
                      refine lv_goto (tgt := 29) hx hb dM_gathers_91 (by decide) ?_
                      exact ih29 (k + 1) (nI k) _ _ _ ⟨⟨by omega, Or.inr ⟨k, rfl, by omega, hdk, cr_min_less hb3 hdk (by omega)⟩⟩, hP, hD, hS, lv_sub hl [3, 4, 5, 1, 0] rfl⟩ (by omega)
            · refine cr_top (y := (-1)) (by rw [nI_clamp (by omega), hG.1 k (by omega), hdk]; rfl) ?_
              refine lv_if_lt (tgt := 73) hx hb dM_gathers_45 (by decide) (fun c_45 => ?_) (fun c_45 => ?_)
              · refine lv_iconst (v := nI 0) hx hb dM_gathers_73 (by decide) ?_
                refine lv_istore (lv' := [(5, .int (nI 0)), (0, .ref mo), (1, .int la), (2, .int (nI 1)), (3, .int (nI b)), (4, .int (nI k))]) hx hb dM_gathers_74 hl (by decide) rfl (fun ls hl => ?_)
                refine lv_iload hx hb dM_gathers_76 (lv_at hl 0 rfl) ?_
                refine lv_if_eq (tgt := 86) hx hb dM_gathers_78 (by decide) (fun c_78 => ?_) (fun c_78 => ?_)
                · refine lv_iload_n hx hb dM_gathers_86 rfl (lv_at hl 4 rfl) ?_
                  refine lv_istore_n (lv' := [(3, .int (nI b)), (5, .int (nI 0)), (0, .ref mo), (1, .int la), (2, .int (nI 1)), (4, .int (nI k))]) hx hb dM_gathers_87 rfl hl (by decide) rfl (fun ls hl => ?_)
                  refine lv_iinc (v := nI (k + 1)) (lv' := [(4, .int (nI (k + 1))), (3, .int (nI b)), (5, .int (nI 0)), (0, .ref mo), (1, .int la), (2, .int (nI 1))]) hx hb dM_gathers_88 hl (k := 5) rfl (nI_add k 1) (by decide) rfl (fun ls hl => ?_)
                  refine lv_goto (tgt := 29) hx hb dM_gathers_91 (by decide) ?_
                  exact ih29 (k + 1) (nI b) _ _ _ ⟨⟨by omega, Or.inr ⟨b, rfl, by omega, hb2, cr_min_keep hb3 (Or.inl hdk)⟩⟩, hP, hD, hS, lv_sub hl [3, 4, 5, 1, 0] rfl⟩ (by omega)
                · exact absurd (by decide) c_78
              · exact absurd (by decide) c_45
    · refine lv_iload_n hx hb dM_gathers_20 rfl (lv_at hl 2 rfl) ?_
      refine lv_if_eq (tgt := 209) hx hb dM_gathers_21 (by decide) (fun c_21 => ?_) (fun c_21 => ?_)
      · refine lv_aload_n hx hb dM_gathers_209 rfl (lv_at hl 0 rfl) ?_
        refine lv_iconst (v := nI 0) hx hb dM_gathers_210 (by decide) ?_
        refine va_put (D := (dC, dI)) (ci := 2) (v := .int (nI 0)) (ty := .int) (C := RX2) (T := TM) (N := 15) hx hb hts (wsM00_in _) tyM tyM_ok nmM hown hK hP hD hS 0 rfl rfl 9 (by decide) (hts (.fieldLink RX2 42 "CharRowsModel" "many" "I") (by decide +kernel)) (fun _ h9 => h9) rfl (by decide +kernel) rfl rfl (Nat.le_of_ble_eq_true rfl) dM_gathers_211 (fun H locs hP hD hS => ?_)
        have hP : va_P (dC, dI) crCl [(mo, .inr (2, [.int th, .ref l1, .ref l2, .int (nI n1), .ref l3, .ref l4, .int (nI nk), .ref l5, .ref l6, .int (nI 0), .ref l7, .ref l8, .ref l9, .int by0, .int fd])), (l1, .inl (cI, 2400, .inl f1)), (l2, .inl (cI, 2400, .inl g1)), (l3, .inl (cI, 2400, .inl kf)), (l4, .inl (cI, 2400, .inl kg)), (l5, .inl (cI, 4800, .inl ef1)), (l6, .inl (cI, 4800, .inl eg)), (l7, .inl (cZ, 1120, .inl mt)), (l8, .inl (cI, 4, .inl fr)), (l9, .inl (cI, 4, .inl tt))] H := hP
        have hD : va_D A [(mo, .inr (2, [.int th, .ref l1, .ref l2, .int (nI n1), .ref l3, .ref l4, .int (nI nk), .ref l5, .ref l6, .int (nI 0), .ref l7, .ref l8, .ref l9, .int by0, .int fd])), (l1, .inl (cI, 2400, .inl f1)), (l2, .inl (cI, 2400, .inl g1)), (l3, .inl (cI, 2400, .inl kf)), (l4, .inl (cI, 2400, .inl kg)), (l5, .inl (cI, 4800, .inl ef1)), (l6, .inl (cI, 4800, .inl eg)), (l7, .inl (cZ, 1120, .inl mt)), (l8, .inl (cI, 4, .inl fr)), (l9, .inl (cI, 4, .inl tt))] := hD
        refine lv_aload_n hx hb dM_gathers_214 rfl (lv_at hl 0 rfl) ?_
        refine va_get (D := (dC, dI)) (ci := 2) (v := .int (nI n1)) (C := RX2) (T := TM) (N := 15) hx hb hts (wsM00_in _) hown hK hP 0 rfl rfl 3 (by decide) (hts (.fieldLink RX2 45 "CharRowsModel" "size" "I") (by decide +kernel)) (fun _ h9 => h9) rfl dM_gathers_215 ?_
        exact W.iret (v := nI n1) hx hb hr (fun t9 ht9 hW9 => ⟨⟨nI n1, [(mo, .inr (2, [.int th, .ref l1, .ref l2, .int (nI n1), .ref l3, .ref l4, .int (nI nk), .ref l5, .ref l6, .int (nI 0), .ref l7, .ref l8, .ref l9, .int by0, .int fd])), (l1, .inl (cI, 2400, .inl f1)), (l2, .inl (cI, 2400, .inl g1)), (l3, .inl (cI, 2400, .inl kf)), (l4, .inl (cI, 2400, .inl kg)), (l5, .inl (cI, 4800, .inl ef1)), (l6, .inl (cI, 4800, .inl eg)), (l7, .inl (cZ, 1120, .inl mt)), (l8, .inl (cI, 4, .inl fr)), (l9, .inl (cI, 4, .inl tt))], rfl, ⟨n1, f1, g1, ef1, rfl, rfl, Nat.le_trans hG.2.2.2.2.1 (cr_cntb_le dn mn), cr_GI_set hG hall hE2⟩, by rw [ht9]; exact hP, va_K.moved hW9.alike hK, hD⟩, hS.F ht9⟩) hS.2.2 dM_gathers_218
      · exact absurd (by decide) c_21

