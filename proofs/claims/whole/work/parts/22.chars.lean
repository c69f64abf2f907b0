set_option maxHeartbeats 4000000 in
set_option maxRecDepth 100000 in
theorem c_putCharacters (l : Launch) (dC : Nat → ClassId) (dI : Nat → Nat → Nat) (sz : Nat) (r a b : Nat) (cI : ClassId) (n : Nat) (f g : Nat → Int32) (S : Nat → Prop) (hSet : cr_Set n f g S) (hn : n + 1 < 768) (p0 : Nat) (y : Int32) (hp : p0 ≤ 1114112) (hy : y.toInt ≤ 1114111) : Met l yX1_putCharacters wsX1_putCharacters ({ frames := 5, cells := 0, slots := 0, locals := 180 }) (va_Pc [.ref r, .int (nI p0), .int y] (cr_preN dC dI [(cI, .int)] [(r, .inr (0, [.ref a, .ref b, .int (nI n)])), (a, .inl (cI, 768, .inl f)), (b, .inl (cI, 768, .inl g))] sz)) (va_Qv (fun (u : va_W) => ∃ (n' : Nat) (f' g' : Nat → Int32), u = [(r, .inr (0, [.ref a, .ref b, .int (nI n')])), (a, .inl (cI, 768, .inl f')), (b, .inl (cI, 768, .inl g'))] ∧ n' ≤ n + 2 ∧ cr_Set n' f' g' (fun c => (S c ∨ (p0 ≤ c ∧ (c : Int) ≤ y.toInt ∧ cr_ch c)))) (cr_at dC dI [(cI, .int)] (va_A [(r, .inr (0, [.ref a, .ref b, .int (nI n)])), (a, .inl (cI, 768, .inl f)), (b, .inl (cI, 768, .inl g))] sz)) (va_A [(r, .inr (0, [.ref a, .ref b, .int (nI n)])), (a, .inl (cI, 768, .inl f)), (b, .inl (cI, 768, .inl g))] sz)) 0 0 (va_A [(r, .inr (0, [.ref a, .ref b, .int (nI n)])), (a, .inl (cI, 768, .inl f)), (b, .inl (cI, 768, .inl g))] sz) := by
  refine Met.ofW (cc := cX1_putCharacters) (maxL := 3) (ret := none) (by decide) rfl ?_
  intro p e s m args below meth c s₁ B hml hv
  obtain ⟨rfl, ⟨hsz, hP, hK, hD0⟩, hN⟩ := hv
  have hx := B.exec
  have hb := B.bytes
  have hr := B.returns
  have hts := atoms_spec (ws := wsX1_putCharacters) B.pre
  have hown : s.vm.findClass RX1 = some m.cls := findClass_of_methodNamed B.named
  have hlocks := B.notSynchronized
  subst hsz
  have hD := hD0.self (sz := s.heap.size)
  generalize hAe : va_A [(r, .inr (0, [.ref a, .ref b, .int (nI n)])), (a, .inl (cI, 768, .inl f)), (b, .inl (cI, 768, .inl g))] s.heap.size = A at hD ⊢
  have hA : ∀ q : Nat, s.heap.size ≤ q → A q := fun q h => by rw [← hAe]; exact Or.inr h
  have hS : va_S A s.heap s.heap [] := va_S.rf
  have hP : va_P (dC, dI) crCl [(r, .inr (0, [.ref a, .ref b, .int (nI n)])), (a, .inl (cI, 768, .inl f)), (b, .inl (cI, 768, .inl g))] s.heap := hP
  have hl := lv_entry ([.ref r, .int (nI p0), .int y]) (n := 3) (Nat.le_of_ble_eq_true rfl)
  rw [lg_entry_eq]
  generalize (lg_sl ([.ref r, .int (nI p0), .int y]) ++ List.replicate (3 - (lg_sl ([.ref r, .int (nI p0), .int y])).length) Slot.unset).toArray = ls at hl ⊢
  have hl : lv_has ls 3 [(0, .ref r), (1, .int (nI p0)), (2, .int y)] := hl
  refine lv_aload_n hx hb dX1_putCharacters_0 rfl (lv_at hl 0 rfl) ?_
  refine lv_iload_n hx hb dX1_putCharacters_1 rfl (lv_at hl 1 rfl) ?_
  refine lv_iload_n hx hb dX1_putCharacters_2 rfl (lv_at hl 2 rfl) ?_
  refine lv_ldc (v := nI 55295) hx hb hown (hts (.constant RX1 94 (nI 55295)) (by decide +kernel)) dX1_putCharacters_3 ?_
  refine va_mmin hx hb (hml.trans hl.1.symm) hown (hts (.methodLink RX1 95 Lib.Math.min.name) (by decide +kernel)) (hts (.static Lib.Math.min.name) (by decide +kernel)) (hts (.initialized "java/lang/Math") (by decide +kernel)) (hts (.code Lib.Math.min.name Lib.Math.min.code 2 (some .int)) (by decide +kernel)) (Nat.le_of_ble_eq_true rfl) (Nat.le_of_ble_eq_true rfl) (Nat.zero_le _) (Nat.zero_le _) dX1_putCharacters_5 ?_
  obtain ⟨ym, hym⟩ : ∃ z, z = (if nI 55295 < y then nI 55295 else y) := ⟨_, rfl⟩
  refine cr_top hym.symm ?_
  have hym2 : ym.toInt = min y.toInt 55295 := by rw [hym]; exact cr_minI y
  have hPc := hP.sub (ws' := [(r, .inr (0, [.ref a, .ref b, .int (nI n)])), (a, .inl (cI, 768, .inl f)), (b, .inl (cI, 768, .inl g))]) [0, 1, 2] rfl
  have hDc := hD.sub (ws' := [(r, .inr (0, [.ref a, .ref b, .int (nI n)])), (a, .inl (cI, 768, .inl f)), (b, .inl (cI, 768, .inl g))]) [0, 1, 2] (by decide) rfl
  have hFc := va_free (wc := [(r, .inr (0, [.ref a, .ref b, .int (nI n)])), (a, .inl (cI, 768, .inl f)), (b, .inl (cI, 768, .inl g))]) hD hS hA [0, 1, 2] rfl
  refine va_callv (va_runVN (As := [.int (nI p0), .int ym]) (rest := []) ⟨hx, hb, hml, hown, hts⟩ (c_put l dC dI _ r a b cI n f g S hSet (by omega) (nI p0) ym (by rw [nI_toInt (by omega)]; omega)) (⟨va_cnB (host := "CharRows") 2 hts gX1_putCharacters_X0_put_n58 rfl rfl rfl (hN _ nw_58) (hts (.initialized RX0) (by decide +kernel)) (by decide +kernel) ⟨Nat.le_of_ble_eq_true rfl, Nat.le_of_ble_eq_true rfl⟩, hts (.instanceMethod yX0_put) (by decide +kernel), hts (.selects RX0 yX0_put yX0_put) (by decide +kernel)⟩) (cr_preV hPc hK hDc (ci := 0) (q0 := 0) rfl rfl) rfl rfl hl.1 rfl (lv_room (Nat.le_of_ble_eq_true rfl)) dX1_putCharacters_8 ⟨Nat.zero_le _, Nat.zero_le _⟩) hS (fun q _ h => hFc q h) hFc (fun u_8 t_8 H_8 locs ht_8 hvm_8 hw_8 hB_8 hz_8 hk_8 hS => ?_)
  obtain ⟨n1, f1, g1, rfl, hn1, hSet1⟩ := hw_8
  obtain ⟨hP, hD⟩ := cr_back (wr := []) (w1 := [(r, .inr (0, [.ref a, .ref b, .int (nI n1)])), (a, .inl (cI, 768, .inl f1)), (b, .inl (cI, 768, .inl g1))]) hP hD [0, 1, 2] [] rfl rfl (by decide) (by decide) hk_8 hFc hB_8 ht_8
  clear hPc hDc hFc
  generalize H_8 = H at hP hS ⊢
  have hP := hP.sub (ws' := [(r, .inr (0, [.ref a, .ref b, .int (nI n1)])), (a, .inl (cI, 768, .inl f1)), (b, .inl (cI, 768, .inl g1))]) [0, 1, 2] rfl
  have hD := hD.sub (ws' := [(r, .inr (0, [.ref a, .ref b, .int (nI n1)])), (a, .inl (cI, 768, .inl f1)), (b, .inl (cI, 768, .inl g1))]) [0, 1, 2] (by decide) rfl
  refine lv_aload_n hx hb dX1_putCharacters_11 rfl (lv_at hl 0 rfl) ?_
  refine lv_iload_n hx hb dX1_putCharacters_12 rfl (lv_at hl 1 rfl) ?_
  refine lv_ldc (v := nI 57344) hx hb hown (hts (.constant RX1 100 (nI 57344)) (by decide +kernel)) dX1_putCharacters_13 ?_
  refine va_mmax hx hb (hml.trans hl.1.symm) hown (hts (.methodLink RX1 101 Lib.Math.max.name) (by decide +kernel)) (hts (.static Lib.Math.max.name) (by decide +kernel)) (hts (.initialized "java/lang/Math") (by decide +kernel)) (hts (.code Lib.Math.max.name Lib.Math.max.code 2 (some .int)) (by decide +kernel)) (Nat.le_of_ble_eq_true rfl) (Nat.le_of_ble_eq_true rfl) (Nat.zero_le _) (Nat.zero_le _) dX1_putCharacters_15 ?_
  refine cr_top (y := nI (max p0 57344)) (cr_max _ _ (by omega) (by omega)) ?_
  refine lv_iload_n hx hb dX1_putCharacters_18 rfl (lv_at hl 2 rfl) ?_
  have hPc := hP.sub (ws' := [(r, .inr (0, [.ref a, .ref b, .int (nI n1)])), (a, .inl (cI, 768, .inl f1)), (b, .inl (cI, 768, .inl g1))]) [0, 1, 2] rfl
  have hDc := hD.sub (ws' := [(r, .inr (0, [.ref a, .ref b, .int (nI n1)])), (a, .inl (cI, 768, .inl f1)), (b, .inl (cI, 768, .inl g1))]) [0, 1, 2] (by decide) rfl
  have hFc := va_free (wc := [(r, .inr (0, [.ref a, .ref b, .int (nI n1)])), (a, .inl (cI, 768, .inl f1)), (b, .inl (cI, 768, .inl g1))]) hD hS hA [0, 1, 2] rfl
  refine va_callv (va_runVN (As := [.int (nI (max p0 57344)), .int y]) (rest := []) ⟨hx, hb, hml, hown, hts⟩ (c_put l dC dI _ r a b cI n1 f1 g1 _ hSet1 (by omega) (nI (max p0 57344)) y (by rw [nI_toInt (by omega)]; omega)) (⟨va_cnB (host := "CharRows") 2 hts gX1_putCharacters_X0_put_n58 rfl rfl rfl (hN _ nw_58) (hts (.initialized RX0) (by decide +kernel)) (by decide +kernel) ⟨Nat.le_of_ble_eq_true rfl, Nat.le_of_ble_eq_true rfl⟩, hts (.instanceMethod yX0_put) (by decide +kernel), hts (.selects RX0 yX0_put yX0_put) (by decide +kernel)⟩) (cr_preV hPc hK hDc (ci := 0) (q0 := 0) rfl rfl) rfl rfl hl.1 rfl (lv_room (Nat.le_of_ble_eq_true rfl)) dX1_putCharacters_19 ⟨Nat.zero_le _, Nat.zero_le _⟩) hS (fun q _ h => hFc q h) hFc (fun u_19 t_19 H_19 locs ht_19 hvm_19 hw_19 hB_19 hz_19 hk_19 hS => ?_)
  obtain ⟨n2, f2, g2, rfl, hn2, hSet2⟩ := hw_19
  obtain ⟨hP, hD⟩ := cr_back (wr := []) (w1 := [(r, .inr (0, [.ref a, .ref b, .int (nI n2)])), (a, .inl (cI, 768, .inl f2)), (b, .inl (cI, 768, .inl g2))]) hP hD [0, 1, 2] [] rfl rfl (by decide) (by decide) hk_19 hFc hB_19 ht_19
  clear hPc hDc hFc
  generalize H_19 = H at hP hS ⊢
  have hP := hP.sub (ws' := [(r, .inr (0, [.ref a, .ref b, .int (nI n2)])), (a, .inl (cI, 768, .inl f2)), (b, .inl (cI, 768, .inl g2))]) [0, 1, 2] rfl
  have hD := hD.sub (ws' := [(r, .inr (0, [.ref a, .ref b, .int (nI n2)])), (a, .inl (cI, 768, .inl f2)), (b, .inl (cI, 768, .inl g2))]) [0, 1, 2] (by decide) rfl
  exact W.vret hx hb hr (fun t9 ht9 hW9 => ⟨⟨[(r, .inr (0, [.ref a, .ref b, .int (nI n2)])), (a, .inl (cI, 768, .inl f2)), (b, .inl (cI, 768, .inl g2))], rfl, ⟨n2, f2, g2, rfl, by omega, hSet2.iff (fun c => by rw [nI_toInt (by omega), nI_toInt (by omega), hym2]; exact cr_or3 (by unfold cr_ch; omega))⟩, by rw [ht9]; exact hP, va_K.moved hW9.alike hK, hD⟩, hS.F ht9⟩) hS.2.2 dX1_putCharacters_22

set_option maxHeartbeats 4000000 in
set_option maxRecDepth 100000 in
theorem c_clear (l : Launch) (dC : Nat → ClassId) (dI : Nat → Nat → Nat) (sz : Nat) (x r r2 r3 a b : Nat) (cI : ClassId) (n : Nat) (f g : Nat → Int32) : Met l yX1_clear wsX1_clear ({ frames := 2, cells := 0, slots := 0, locals := 60 }) (va_Pc [.ref x] (cr_preN dC dI [(cI, .int)] [(x, .inr (1, [.ref r, .ref r2, .ref r3])), (r, .inr (0, [.ref a, .ref b, .int (nI n)])), (a, .inl (cI, 768, .inl f)), (b, .inl (cI, 768, .inl g))] sz)) (va_Qv (fun (u : va_W) => u = [(x, .inr (1, [.ref r, .ref r2, .ref r3])), (r, .inr (0, [.ref a, .ref b, .int (nI 0)])), (a, .inl (cI, 768, .inl f)), (b, .inl (cI, 768, .inl g))]) (cr_at dC dI [(cI, .int)] (va_A [(x, .inr (1, [.ref r, .ref r2, .ref r3])), (r, .inr (0, [.ref a, .ref b, .int (nI n)])), (a, .inl (cI, 768, .inl f)), (b, .inl (cI, 768, .inl g))] sz)) (va_A [(x, .inr (1, [.ref r, .ref r2, .ref r3])), (r, .inr (0, [.ref a, .ref b, .int (nI n)])), (a, .inl (cI, 768, .inl f)), (b, .inl (cI, 768, .inl g))] sz)) 0 0 (va_A [(x, .inr (1, [.ref r, .ref r2, .ref r3])), (r, .inr (0, [.ref a, .ref b, .int (nI n)])), (a, .inl (cI, 768, .inl f)), (b, .inl (cI, 768, .inl g))] sz) := by
  refine Met.ofW (cc := cX1_clear) (maxL := 1) (ret := none) (by decide) rfl ?_
  intro p e s m args below meth c s₁ B hml hv
  obtain ⟨rfl, ⟨hsz, hP, hK, hD0⟩, hN⟩ := hv
  have hx := B.exec
  have hb := B.bytes
  have hr := B.returns
  have hts := atoms_spec (ws := wsX1_clear) B.pre
  have hown : s.vm.findClass RX1 = some m.cls := findClass_of_methodNamed B.named
  have hlocks := B.notSynchronized
  subst hsz
  have hD := hD0.self (sz := s.heap.size)
  generalize hAe : va_A [(x, .inr (1, [.ref r, .ref r2, .ref r3])), (r, .inr (0, [.ref a, .ref b, .int (nI n)])), (a, .inl (cI, 768, .inl f)), (b, .inl (cI, 768, .inl g))] s.heap.size = A at hD ⊢
  have hA : ∀ q : Nat, s.heap.size ≤ q → A q := fun q h => by rw [← hAe]; exact Or.inr h
  have hS : va_S A s.heap s.heap [] := va_S.rf
  have hP : va_P (dC, dI) crCl [(x, .inr (1, [.ref r, .ref r2, .ref r3])), (r, .inr (0, [.ref a, .ref b, .int (nI n)])), (a, .inl (cI, 768, .inl f)), (b, .inl (cI, 768, .inl g))] s.heap := hP
  have hl := lv_entry ([.ref x]) (n := 1) (Nat.le_of_ble_eq_true rfl)
  rw [lg_entry_eq]
  generalize (lg_sl ([.ref x]) ++ List.replicate (1 - (lg_sl ([.ref x])).length) Slot.unset).toArray = ls at hl ⊢
  have hl : lv_has ls 1 [(0, .ref x)] := hl
  refine lv_aload_n hx hb dX1_clear_0 rfl (lv_at hl 0 rfl) ?_
  refine va_get (D := (dC, dI)) (ci := 1) (v := .ref r) (C := RX1) (T := TX1) (N := 3) hx hb hts (by decide +kernel) hown hK hP 0 rfl rfl 0 (by decide) (hts (.fieldLink RX1 10 "CharRows" "held" "LCharRows$Ranges;") (by decide +kernel)) (fun _ h9 => h9) rfl dX1_clear_1 ?_
  have hPc := hP.sub (ws' := [(r, .inr (0, [.ref a, .ref b, .int (nI n)])), (a, .inl (cI, 768, .inl f)), (b, .inl (cI, 768, .inl g))]) [1, 2, 3] rfl
  have hDc := hD.sub (ws' := [(r, .inr (0, [.ref a, .ref b, .int (nI n)])), (a, .inl (cI, 768, .inl f)), (b, .inl (cI, 768, .inl g))]) [1, 2, 3] (by decide) rfl
  have hFc := va_free (wc := [(r, .inr (0, [.ref a, .ref b, .int (nI n)])), (a, .inl (cI, 768, .inl f)), (b, .inl (cI, 768, .inl g))]) hD hS hA [1, 2, 3] rfl
  refine va_callv (va_runVN (As := []) (rest := []) ⟨hx, hb, hml, hown, hts⟩ (c_empty l dC dI _ r a b cI (nI n) f g) (⟨va_cnB (host := "CharRows") 0 hts gX1_clear_X0_empty_n38 rfl rfl rfl (hN _ nw_38) (hts (.initialized RX0) (by decide +kernel)) (by decide +kernel) ⟨Nat.le_of_ble_eq_true rfl, Nat.le_of_ble_eq_true rfl⟩, hts (.instanceMethod yX0_empty) (by decide +kernel), hts (.selects RX0 yX0_empty yX0_empty) (by decide +kernel)⟩) (cr_preV hPc hK hDc (ci := 0) (q0 := 0) rfl rfl) rfl rfl hl.1 rfl (lv_room (Nat.le_of_ble_eq_true rfl)) dX1_clear_4 ⟨Nat.zero_le _, Nat.zero_le _⟩) hS (fun q _ h => hFc q h) hFc (fun u_4 t_4 H_4 locs ht_4 hvm_4 hw_4 hB_4 hz_4 hk_4 hS => ?_)
  subst hw_4
  obtain ⟨hP, hD⟩ := cr_back (wr := [(x, .inr (1, [.ref r, .ref r2, .ref r3]))]) (w1 := [(r, .inr (0, [.ref a, .ref b, .int (nI 0)])), (a, .inl (cI, 768, .inl f)), (b, .inl (cI, 768, .inl g))]) hP hD [1, 2, 3] [0] rfl rfl (by decide) (by decide) hk_4 hFc hB_4 ht_4
  clear hPc hDc hFc
  generalize H_4 = H at hP hS ⊢
  have hP := hP.sub (ws' := [(x, .inr (1, [.ref r, .ref r2, .ref r3])), (r, .inr (0, [.ref a, .ref b, .int (nI 0)])), (a, .inl (cI, 768, .inl f)), (b, .inl (cI, 768, .inl g))]) [0, 1, 2, 3] rfl
  have hD := hD.sub (ws' := [(x, .inr (1, [.ref r, .ref r2, .ref r3])), (r, .inr (0, [.ref a, .ref b, .int (nI 0)])), (a, .inl (cI, 768, .inl f)), (b, .inl (cI, 768, .inl g))]) [0, 1, 2, 3] (by decide) rfl
  exact W.vret hx hb hr (fun t9 ht9 hW9 => ⟨⟨[(x, .inr (1, [.ref r, .ref r2, .ref r3])), (r, .inr (0, [.ref a, .ref b, .int (nI 0)])), (a, .inl (cI, 768, .inl f)), (b, .inl (cI, 768, .inl g))], rfl, rfl, by rw [ht9]; exact hP, va_K.moved hW9.alike hK, hD⟩, hS.F ht9⟩) hS.2.2 dX1_clear_7

set_option maxHeartbeats 4000000 in
set_option maxRecDepth 100000 in
theorem c_add (l : Launch) (dC : Nat → ClassId) (dI : Nat → Nat → Nat) (sz : Nat) (x r r2 r3 a b : Nat) (cI : ClassId) (n : Nat) (f g : Nat → Int32) (S : Nat → Prop) (hSet : cr_Set n f g S) (hn : n + 1 < 768) (p0 q0 : Nat) (hpq : p0 ≤ q0) (hq : q0 ≤ 1114111) : Met l yX1_add wsX1_add ({ frames := 6, cells := 0, slots := 0, locals := 220 }) (va_Pc [.ref x, .int (nI p0), .int (nI q0)] (cr_preN dC dI [(cI, .int)] [(x, .inr (1, [.ref r, .ref r2, .ref r3])), (r, .inr (0, [.ref a, .ref b, .int (nI n)])), (a, .inl (cI, 768, .inl f)), (b, .inl (cI, 768, .inl g))] sz)) (va_Qi (fun (rr : Int32) (u : va_W) => ∃ (n' : Nat) (f' g' : Nat → Int32), rr = nI n' ∧ u = [(x, .inr (1, [.ref r, .ref r2, .ref r3])), (r, .inr (0, [.ref a, .ref b, .int (nI n')])), (a, .inl (cI, 768, .inl f')), (b, .inl (cI, 768, .inl g'))] ∧ n' ≤ 768 ∧ cr_Set n' f' g' (fun c => (S c ∨ (p0 ≤ c ∧ c ≤ q0 ∧ cr_ch c)))) (cr_at dC dI [(cI, .int)] (va_A [(x, .inr (1, [.ref r, .ref r2, .ref r3])), (r, .inr (0, [.ref a, .ref b, .int (nI n)])), (a, .inl (cI, 768, .inl f)), (b, .inl (cI, 768, .inl g))] sz)) (va_A [(x, .inr (1, [.ref r, .ref r2, .ref r3])), (r, .inr (0, [.ref a, .ref b, .int (nI n)])), (a, .inl (cI, 768, .inl f)), (b, .inl (cI, 768, .inl g))] sz)) 0 0 (va_A [(x, .inr (1, [.ref r, .ref r2, .ref r3])), (r, .inr (0, [.ref a, .ref b, .int (nI n)])), (a, .inl (cI, 768, .inl f)), (b, .inl (cI, 768, .inl g))] sz) := by
  refine Met.ofW (cc := cX1_add) (maxL := 3) (ret := (some .int)) (by decide) rfl ?_
  intro p e s m args below meth c s₁ B hml hv
  obtain ⟨rfl, ⟨hsz, hP, hK, hD0⟩, hN⟩ := hv
  have hx := B.exec
  have hb := B.bytes
  have hr := B.returns
  have hts := atoms_spec (ws := wsX1_add) B.pre
  have hown : s.vm.findClass RX1 = some m.cls := findClass_of_methodNamed B.named
  have hlocks := B.notSynchronized
  subst hsz
  have hD := hD0.self (sz := s.heap.size)
  generalize hAe : va_A [(x, .inr (1, [.ref r, .ref r2, .ref r3])), (r, .inr (0, [.ref a, .ref b, .int (nI n)])), (a, .inl (cI, 768, .inl f)), (b, .inl (cI, 768, .inl g))] s.heap.size = A at hD ⊢
  have hA : ∀ q : Nat, s.heap.size ≤ q → A q := fun q h => by rw [← hAe]; exact Or.inr h
  have hS : va_S A s.heap s.heap [] := va_S.rf
  have hP : va_P (dC, dI) crCl [(x, .inr (1, [.ref r, .ref r2, .ref r3])), (r, .inr (0, [.ref a, .ref b, .int (nI n)])), (a, .inl (cI, 768, .inl f)), (b, .inl (cI, 768, .inl g))] s.heap := hP
  have hl := lv_entry ([.ref x, .int (nI p0), .int (nI q0)]) (n := 3) (Nat.le_of_ble_eq_true rfl)
  rw [lg_entry_eq]
  generalize (lg_sl ([.ref x, .int (nI p0), .int (nI q0)]) ++ List.replicate (3 - (lg_sl ([.ref x, .int (nI p0), .int (nI q0)])).length) Slot.unset).toArray = ls at hl ⊢
  have hl : lv_has ls 3 [(0, .ref x), (1, .int (nI p0)), (2, .int (nI q0))] := hl
  refine lv_iload_n hx hb dX1_add_0 rfl (lv_at hl 1 rfl) ?_
  refine lv_if_lt (tgt := 15) hx hb dX1_add_1 (by decide) (fun c_1 => ?_) (fun c_1 => ?_)
  · exact absurd c_1 (nI_pos (by omega))
  · refine lv_iload_n hx hb dX1_add_4 rfl (lv_at hl 2 rfl) ?_
    refine lv_iload_n hx hb dX1_add_5 rfl (lv_at hl 1 rfl) ?_
    refine lv_icmp_lt (tgt := 15) hx hb dX1_add_6 (by decide) (fun c_6 => ?_) (fun c_6 => ?_)
    · exact absurd ((nI_ltI (by omega) (by omega)).1 c_6) (by omega)
    · refine lv_iload_n hx hb dX1_add_9 rfl (lv_at hl 2 rfl) ?_
      refine lv_ldc (v := nI 1114111) hx hb hown (hts (.constant RX1 22 (nI 1114111)) (by decide +kernel)) dX1_add_10 ?_
      refine lv_icmp_le (tgt := 25) hx hb dX1_add_12 (by decide) (fun c_12 => ?_) (fun c_12 => ?_)
      · refine lv_aload_n hx hb dX1_add_25 rfl (lv_at hl 0 rfl) ?_
        refine va_get (D := (dC, dI)) (ci := 1) (v := .ref r) (C := RX1) (T := TX1) (N := 3) hx hb hts (by decide +kernel) hown hK hP 0 rfl rfl 0 (by decide) (hts (.fieldLink RX1 10 "CharRows" "held" "LCharRows$Ranges;") (by decide +kernel)) (fun _ h9 => h9) rfl dX1_add_26 ?_
        refine lv_iload_n hx hb dX1_add_29 rfl (lv_at hl 1 rfl) ?_
        refine lv_iload_n hx hb dX1_add_30 rfl (lv_at hl 2 rfl) ?_
        have hPc := hP.sub (ws' := [(r, .inr (0, [.ref a, .ref b, .int (nI n)])), (a, .inl (cI, 768, .inl f)), (b, .inl (cI, 768, .inl g))]) [1, 2, 3] rfl
        have hDc := hD.sub (ws' := [(r, .inr (0, [.ref a, .ref b, .int (nI n)])), (a, .inl (cI, 768, .inl f)), (b, .inl (cI, 768, .inl g))]) [1, 2, 3] (by decide) rfl
        have hFc := va_free (wc := [(r, .inr (0, [.ref a, .ref b, .int (nI n)])), (a, .inl (cI, 768, .inl f)), (b, .inl (cI, 768, .inl g))]) hD hS hA [1, 2, 3] rfl
        refine va_callv (va_runS (As := [.ref r, .int (nI p0), .int (nI q0)]) (rest := []) ⟨hx, hb, hml, hown, hts⟩ (c_putCharacters l dC dI _ r a b cI n f g S hSet hn p0 (nI q0) (by omega) (by rw [nI_toInt (by omega)]; omega)) (va_cwS 3 hts gX1_add_X1_putCharacters rfl rfl rfl (by decide +kernel) ⟨Nat.le_of_ble_eq_true rfl, Nat.le_of_ble_eq_true rfl⟩) (cr_preSN hN hPc hK hDc) rfl rfl hl.1 rfl (lv_room (Nat.le_of_ble_eq_true rfl)) dX1_add_31 ⟨Nat.zero_le _, Nat.zero_le _⟩) hS (fun q _ h => hFc q h) hFc (fun u_31 t_31 H_31 locs ht_31 hvm_31 hw_31 hB_31 hz_31 hk_31 hS => ?_)
        obtain ⟨n1, f1, g1, rfl, hn1, hSet1⟩ := hw_31
        obtain ⟨hP, hD⟩ := cr_back (wr := [(x, .inr (1, [.ref r, .ref r2, .ref r3]))]) (w1 := [(r, .inr (0, [.ref a, .ref b, .int (nI n1)])), (a, .inl (cI, 768, .inl f1)), (b, .inl (cI, 768, .inl g1))]) hP hD [1, 2, 3] [0] rfl rfl (by decide) (by decide) hk_31 hFc hB_31 ht_31
        clear hPc hDc hFc
        generalize H_31 = H at hP hS ⊢
        have hP := hP.sub (ws' := [(x, .inr (1, [.ref r, .ref r2, .ref r3])), (r, .inr (0, [.ref a, .ref b, .int (nI n1)])), (a, .inl (cI, 768, .inl f1)), (b, .inl (cI, 768, .inl g1))]) [0, 1, 2, 3] rfl
        have hD := hD.sub (ws' := [(x, .inr (1, [.ref r, .ref r2, .ref r3])), (r, .inr (0, [.ref a, .ref b, .int (nI n1)])), (a, .inl (cI, 768, .inl f1)), (b, .inl (cI, 768, .inl g1))]) [0, 1, 2, 3] (by decide) rfl
        refine lv_aload_n hx hb dX1_add_34 rfl (lv_at hl 0 rfl) ?_
        refine va_get (D := (dC, dI)) (ci := 1) (v := .ref r) (C := RX1) (T := TX1) (N := 3) hx hb hts (by decide +kernel) hown hK hP 0 rfl rfl 0 (by decide) (hts (.fieldLink RX1 10 "CharRows" "held" "LCharRows$Ranges;") (by decide +kernel)) (fun _ h9 => h9) rfl dX1_add_35 ?_
        refine va_getN (D := (dC, dI)) (ci := 0) (v := .int (nI n1)) (C := RX0) (T := TX0) (N := 3) hx hb hts (by decide +kernel) hown hK hP 1 rfl rfl 2 (by decide) (va_Nw.use rfl (hN _ nw_34)) (fun _ h9 => h9) rfl dX1_add_38 ?_
        exact W.iret (v := nI n1) hx hb hr (fun t9 ht9 hW9 => ⟨⟨nI n1, [(x, .inr (1, [.ref r, .ref r2, .ref r3])), (r, .inr (0, [.ref a, .ref b, .int (nI n1)])), (a, .inl (cI, 768, .inl f1)), (b, .inl (cI, 768, .inl g1))], rfl, ⟨n1, f1, g1, rfl, rfl, by omega, hSet1.iff (fun c => by rw [nI_toInt (by omega)]; exact or_congr_right (by unfold cr_ch; omega))⟩, by rw [ht9]; exact hP, va_K.moved hW9.alike hK, hD⟩, hS.F ht9⟩) hS.2.2 dX1_add_41
      · exact absurd ((nI_leI (by omega) (by omega)).2 hq) c_12

set_option maxHeartbeats 4000000 in
set_option maxRecDepth 100000 in
theorem c_has (l : Launch) (dC : Nat → ClassId) (dI : Nat → Nat → Nat) (sz : Nat) (x r r2 r3 a b : Nat) (cI : ClassId) (n : Nat) (f g : Nat → Int32) (S : Nat → Prop) (hSet : cr_Set n f g S) (hn : n ≤ 768) (y : Int32) : Met l yX1_has wsX1_has ({ frames := 3, cells := 0, slots := 0, locals := 100 }) (va_Pc [.ref x, .int y] (cr_preN dC dI [(cI, .int)] [(x, .inr (1, [.ref r, .ref r2, .ref r3])), (r, .inr (0, [.ref a, .ref b, .int (nI n)])), (a, .inl (cI, 768, .inl f)), (b, .inl (cI, 768, .inl g))] sz)) (va_Qi (fun (rr : Int32) (u : va_W) => u = [(x, .inr (1, [.ref r, .ref r2, .ref r3])), (r, .inr (0, [.ref a, .ref b, .int (nI n)])), (a, .inl (cI, 768, .inl f)), (b, .inl (cI, 768, .inl g))] ∧ cr_zb rr (cr_Hs S y)) (cr_at dC dI [(cI, .int)] (va_A [(x, .inr (1, [.ref r, .ref r2, .ref r3])), (r, .inr (0, [.ref a, .ref b, .int (nI n)])), (a, .inl (cI, 768, .inl f)), (b, .inl (cI, 768, .inl g))] sz)) (va_A [(x, .inr (1, [.ref r, .ref r2, .ref r3])), (r, .inr (0, [.ref a, .ref b, .int (nI n)])), (a, .inl (cI, 768, .inl f)), (b, .inl (cI, 768, .inl g))] sz)) 0 0 (va_A [(x, .inr (1, [.ref r, .ref r2, .ref r3])), (r, .inr (0, [.ref a, .ref b, .int (nI n)])), (a, .inl (cI, 768, .inl f)), (b, .inl (cI, 768, .inl g))] sz) := by
  refine Met.ofW (cc := cX1_has) (maxL := 2) (ret := (some .boolean)) (by decide) rfl ?_
  intro p e s m args below meth c s₁ B hml hv
  obtain ⟨rfl, ⟨hsz, hP, hK, hD0⟩, hN⟩ := hv
  have hx := B.exec
  have hb := B.bytes
  have hr := B.returns
  have hts := atoms_spec (ws := wsX1_has) B.pre
  have hown : s.vm.findClass RX1 = some m.cls := findClass_of_methodNamed B.named
  have hlocks := B.notSynchronized
  subst hsz
  have hD := hD0.self (sz := s.heap.size)
  generalize hAe : va_A [(x, .inr (1, [.ref r, .ref r2, .ref r3])), (r, .inr (0, [.ref a, .ref b, .int (nI n)])), (a, .inl (cI, 768, .inl f)), (b, .inl (cI, 768, .inl g))] s.heap.size = A at hD ⊢
  have hA : ∀ q : Nat, s.heap.size ≤ q → A q := fun q h => by rw [← hAe]; exact Or.inr h
  have hS : va_S A s.heap s.heap [] := va_S.rf
  have hP : va_P (dC, dI) crCl [(x, .inr (1, [.ref r, .ref r2, .ref r3])), (r, .inr (0, [.ref a, .ref b, .int (nI n)])), (a, .inl (cI, 768, .inl f)), (b, .inl (cI, 768, .inl g))] s.heap := hP
  have hl := lv_entry ([.ref x, .int y]) (n := 2) (Nat.le_of_ble_eq_true rfl)
  rw [lg_entry_eq]
  generalize (lg_sl ([.ref x, .int y]) ++ List.replicate (2 - (lg_sl ([.ref x, .int y])).length) Slot.unset).toArray = ls at hl ⊢
  have hl : lv_has ls 2 [(0, .ref x), (1, .int y)] := hl
  refine lv_aload_n hx hb dX1_has_0 rfl (lv_at hl 0 rfl) ?_
  refine va_get (D := (dC, dI)) (ci := 1) (v := .ref r) (C := RX1) (T := TX1) (N := 3) hx hb hts (by decide +kernel) hown hK hP 0 rfl rfl 0 (by decide) (hts (.fieldLink RX1 10 "CharRows" "held" "LCharRows$Ranges;") (by decide +kernel)) (fun _ h9 => h9) rfl dX1_has_1 ?_
  refine lv_iload_n hx hb dX1_has_4 rfl (lv_at hl 1 rfl) ?_
  have hPc := hP.sub (ws' := [(r, .inr (0, [.ref a, .ref b, .int (nI n)])), (a, .inl (cI, 768, .inl f)), (b, .inl (cI, 768, .inl g))]) [1, 2, 3] rfl
  have hDc := hD.sub (ws' := [(r, .inr (0, [.ref a, .ref b, .int (nI n)])), (a, .inl (cI, 768, .inl f)), (b, .inl (cI, 768, .inl g))]) [1, 2, 3] (by decide) rfl
  have hFc := va_free (wc := [(r, .inr (0, [.ref a, .ref b, .int (nI n)])), (a, .inl (cI, 768, .inl f)), (b, .inl (cI, 768, .inl g))]) hD hS hA [1, 2, 3] rfl
  refine va_calli (va_runVN (As := [.int y]) (rest := []) ⟨hx, hb, hml, hown, hts⟩ (c_holds l dC dI _ r a b cI n f g S hSet hn y) (⟨va_cnB (host := "CharRows") 1 hts gX1_has_X0_holds_n62 rfl rfl rfl (hN _ nw_62) (hts (.initialized RX0) (by decide +kernel)) (by decide +kernel) ⟨Nat.le_of_ble_eq_true rfl, Nat.le_of_ble_eq_true rfl⟩, hts (.instanceMethod yX0_holds) (by decide +kernel), hts (.selects RX0 yX0_holds yX0_holds) (by decide +kernel)⟩) (cr_preV hPc hK hDc (ci := 0) (q0 := 0) rfl rfl) rfl rfl hl.1 rfl (lv_room (Nat.le_of_ble_eq_true rfl)) dX1_has_5 ⟨Nat.zero_le _, Nat.zero_le _⟩) hS (fun q _ h => hFc q h) hFc (fun r_5 u_5 t_5 H_5 locs ht_5 hvm_5 hw_5 hB_5 hz_5 hk_5 hS => ?_)
  obtain ⟨rfl, hzb⟩ := hw_5
  have hzr : narrow .boolean (.int r_5) = .int r_5 := cr_zb_nar hzb
  obtain ⟨hP, hD⟩ := cr_back (wr := [(x, .inr (1, [.ref r, .ref r2, .ref r3]))]) (w1 := [(r, .inr (0, [.ref a, .ref b, .int (nI n)])), (a, .inl (cI, 768, .inl f)), (b, .inl (cI, 768, .inl g))]) hP hD [1, 2, 3] [0] rfl rfl (by decide) (by decide) hk_5 hFc hB_5 ht_5
  clear hPc hDc hFc
  generalize H_5 = H at hP hS ⊢
  have hP := hP.sub (ws' := [(x, .inr (1, [.ref r, .ref r2, .ref r3])), (r, .inr (0, [.ref a, .ref b, .int (nI n)])), (a, .inl (cI, 768, .inl f)), (b, .inl (cI, 768, .inl g))]) [0, 1, 2, 3] rfl
  have hD := hD.sub (ws' := [(x, .inr (1, [.ref r, .ref r2, .ref r3])), (r, .inr (0, [.ref a, .ref b, .int (nI n)])), (a, .inl (cI, 768, .inl f)), (b, .inl (cI, 768, .inl g))]) [0, 1, 2, 3] (by decide) rfl
  exact W.zret (v := r_5) (ty := .boolean) hx hb hr hzr (fun t9 ht9 hW9 => ⟨⟨r_5, [(x, .inr (1, [.ref r, .ref r2, .ref r3])), (r, .inr (0, [.ref a, .ref b, .int (nI n)])), (a, .inl (cI, 768, .inl f)), (b, .inl (cI, 768, .inl g))], rfl, ⟨rfl, hzb⟩, by rw [ht9]; exact hP, va_K.moved hW9.alike hK, hD⟩, hS.F ht9⟩) hS.2.2 dX1_has_8

set_option maxHeartbeats 4000000 in
set_option maxRecDepth 100000 in
theorem c_ranges (l : Launch) (dC : Nat → ClassId) (dI : Nat → Nat → Nat) (sz : Nat) (x r r2 r3 a b : Nat) (cI : ClassId) (n : Nat) (f g : Nat → Int32) : Met l yX1_ranges wsX1_ranges ({ frames := 1, cells := 0, slots := 0, locals := 20 }) (va_Pc [.ref x] (cr_preN dC dI [(cI, .int)] [(x, .inr (1, [.ref r, .ref r2, .ref r3])), (r, .inr (0, [.ref a, .ref b, .int (nI n)])), (a, .inl (cI, 768, .inl f)), (b, .inl (cI, 768, .inl g))] sz)) (va_Qi (fun (rr : Int32) (u : va_W) => u = [(x, .inr (1, [.ref r, .ref r2, .ref r3])), (r, .inr (0, [.ref a, .ref b, .int (nI n)])), (a, .inl (cI, 768, .inl f)), (b, .inl (cI, 768, .inl g))] ∧ rr = nI n) (cr_at dC dI [(cI, .int)] (va_A [(x, .inr (1, [.ref r, .ref r2, .ref r3])), (r, .inr (0, [.ref a, .ref b, .int (nI n)])), (a, .inl (cI, 768, .inl f)), (b, .inl (cI, 768, .inl g))] sz)) (va_A [(x, .inr (1, [.ref r, .ref r2, .ref r3])), (r, .inr (0, [.ref a, .ref b, .int (nI n)])), (a, .inl (cI, 768, .inl f)), (b, .inl (cI, 768, .inl g))] sz)) 0 0 (va_A [(x, .inr (1, [.ref r, .ref r2, .ref r3])), (r, .inr (0, [.ref a, .ref b, .int (nI n)])), (a, .inl (cI, 768, .inl f)), (b, .inl (cI, 768, .inl g))] sz) := by
  refine Met.ofW (cc := cX1_ranges) (maxL := 1) (ret := (some .int)) (by decide) rfl ?_
  intro p e s m args below meth c s₁ B hml hv
  obtain ⟨rfl, ⟨hsz, hP, hK, hD0⟩, hN⟩ := hv
  have hx := B.exec
  have hb := B.bytes
  have hr := B.returns
  have hts := atoms_spec (ws := wsX1_ranges) B.pre
  have hown : s.vm.findClass RX1 = some m.cls := findClass_of_methodNamed B.named
  have hlocks := B.notSynchronized
  subst hsz
  have hD := hD0.self (sz := s.heap.size)
  generalize hAe : va_A [(x, .inr (1, [.ref r, .ref r2, .ref r3])), (r, .inr (0, [.ref a, .ref b, .int (nI n)])), (a, .inl (cI, 768, .inl f)), (b, .inl (cI, 768, .inl g))] s.heap.size = A at hD ⊢
  have hA : ∀ q : Nat, s.heap.size ≤ q → A q := fun q h => by rw [← hAe]; exact Or.inr h
  have hS : va_S A s.heap s.heap [] := va_S.rf
  have hP : va_P (dC, dI) crCl [(x, .inr (1, [.ref r, .ref r2, .ref r3])), (r, .inr (0, [.ref a, .ref b, .int (nI n)])), (a, .inl (cI, 768, .inl f)), (b, .inl (cI, 768, .inl g))] s.heap := hP
  have hl := lv_entry ([.ref x]) (n := 1) (Nat.le_of_ble_eq_true rfl)
  rw [lg_entry_eq]
  generalize (lg_sl ([.ref x]) ++ List.replicate (1 - (lg_sl ([.ref x])).length) Slot.unset).toArray = ls at hl ⊢
  have hl : lv_has ls 1 [(0, .ref x)] := hl
  refine lv_aload_n hx hb dX1_ranges_0 rfl (lv_at hl 0 rfl) ?_
  refine va_get (D := (dC, dI)) (ci := 1) (v := .ref r) (C := RX1) (T := TX1) (N := 3) hx hb hts (by decide +kernel) hown hK hP 0 rfl rfl 0 (by decide) (hts (.fieldLink RX1 10 "CharRows" "held" "LCharRows$Ranges;") (by decide +kernel)) (fun _ h9 => h9) rfl dX1_ranges_1 ?_
  refine va_getN (D := (dC, dI)) (ci := 0) (v := .int (nI n)) (C := RX0) (T := TX0) (N := 3) hx hb hts (by decide +kernel) hown hK hP 1 rfl rfl 2 (by decide) (va_Nw.use rfl (hN _ nw_34)) (fun _ h9 => h9) rfl dX1_ranges_4 ?_
  exact W.iret (v := nI n) hx hb hr (fun t9 ht9 hW9 => ⟨⟨nI n, [(x, .inr (1, [.ref r, .ref r2, .ref r3])), (r, .inr (0, [.ref a, .ref b, .int (nI n)])), (a, .inl (cI, 768, .inl f)), (b, .inl (cI, 768, .inl g))], rfl, ⟨rfl, rfl⟩, by rw [ht9]; exact hP, va_K.moved hW9.alike hK, hD⟩, hS.F ht9⟩) hS.2.2 dX1_ranges_7

set_option maxHeartbeats 4000000 in
set_option maxRecDepth 100000 in
theorem c_range (l : Launch) (dC : Nat → ClassId) (dI : Nat → Nat → Nat) (sz : Nat) (x r r2 r3 a b : Nat) (cI : ClassId) (n : Nat) (f g : Nat → Int32) (hn : n ≤ 768) (k w : Int32) : Met l yX1_range wsX1_range ({ frames := 1, cells := 0, slots := 0, locals := 20 }) (va_Pc [.ref x, .int k, .int w] (cr_preN dC dI [(cI, .int)] [(x, .inr (1, [.ref r, .ref r2, .ref r3])), (r, .inr (0, [.ref a, .ref b, .int (nI n)])), (a, .inl (cI, 768, .inl f)), (b, .inl (cI, 768, .inl g))] sz)) (va_Qi (fun (rr : Int32) (u : va_W) => u = [(x, .inr (1, [.ref r, .ref r2, .ref r3])), (r, .inr (0, [.ref a, .ref b, .int (nI n)])), (a, .inl (cI, 768, .inl f)), (b, .inl (cI, 768, .inl g))] ∧ rr = cr_rng n f g k w) (cr_at dC dI [(cI, .int)] (va_A [(x, .inr (1, [.ref r, .ref r2, .ref r3])), (r, .inr (0, [.ref a, .ref b, .int (nI n)])), (a, .inl (cI, 768, .inl f)), (b, .inl (cI, 768, .inl g))] sz)) (va_A [(x, .inr (1, [.ref r, .ref r2, .ref r3])), (r, .inr (0, [.ref a, .ref b, .int (nI n)])), (a, .inl (cI, 768, .inl f)), (b, .inl (cI, 768, .inl g))] sz)) 0 0 (va_A [(x, .inr (1, [.ref r, .ref r2, .ref r3])), (r, .inr (0, [.ref a, .ref b, .int (nI n)])), (a, .inl (cI, 768, .inl f)), (b, .inl (cI, 768, .inl g))] sz) := by
  refine Met.ofW (cc := cX1_range) (maxL := 3) (ret := (some .int)) (by decide) rfl ?_
  intro p e s m args below meth c s₁ B hml hv
  obtain ⟨rfl, ⟨hsz, hP, hK, hD0⟩, hN⟩ := hv
  have hx := B.exec
  have hb := B.bytes
  have hr := B.returns
  have hts := atoms_spec (ws := wsX1_range) B.pre
  have hown : s.vm.findClass RX1 = some m.cls := findClass_of_methodNamed B.named
  have hlocks := B.notSynchronized
  subst hsz
  have hD := hD0.self (sz := s.heap.size)
  generalize hAe : va_A [(x, .inr (1, [.ref r, .ref r2, .ref r3])), (r, .inr (0, [.ref a, .ref b, .int (nI n)])), (a, .inl (cI, 768, .inl f)), (b, .inl (cI, 768, .inl g))] s.heap.size = A at hD ⊢
  have hA : ∀ q : Nat, s.heap.size ≤ q → A q := fun q h => by rw [← hAe]; exact Or.inr h
  have hS : va_S A s.heap s.heap [] := va_S.rf
  have hP : va_P (dC, dI) crCl [(x, .inr (1, [.ref r, .ref r2, .ref r3])), (r, .inr (0, [.ref a, .ref b, .int (nI n)])), (a, .inl (cI, 768, .inl f)), (b, .inl (cI, 768, .inl g))] s.heap := hP
  have hl := lv_entry ([.ref x, .int k, .int w]) (n := 3) (Nat.le_of_ble_eq_true rfl)
  rw [lg_entry_eq]
  generalize (lg_sl ([.ref x, .int k, .int w]) ++ List.replicate (3 - (lg_sl ([.ref x, .int k, .int w])).length) Slot.unset).toArray = ls at hl ⊢
  have hl : lv_has ls 3 [(0, .ref x), (1, .int k), (2, .int w)] := hl
  refine lv_iload_n hx hb dX1_range_0 rfl (lv_at hl 1 rfl) ?_
  refine lv_if_lt (tgt := 15) hx hb dX1_range_1 (by decide) (fun c_1 => ?_) (fun c_1 => ?_)
  · refine lv_iconst (v := (-1)) hx hb dX1_range_15 (by decide) ?_
    exact W.iret (v := (-1)) hx hb hr (fun t9 ht9 hW9 => ⟨⟨(-1), [(x, .inr (1, [.ref r, .ref r2, .ref r3])), (r, .inr (0, [.ref a, .ref b, .int (nI n)])), (a, .inl (cI, 768, .inl f)), (b, .inl (cI, 768, .inl g))], rfl, ⟨rfl, (cr_rng_neg c_1).symm⟩, by rw [ht9]; exact hP, va_K.moved hW9.alike hK, hD⟩, hS.F ht9⟩) hS.2.2 dX1_range_16
  · refine lv_iload_n hx hb dX1_range_4 rfl (lv_at hl 1 rfl) ?_
    refine lv_aload_n hx hb dX1_range_5 rfl (lv_at hl 0 rfl) ?_
    refine va_get (D := (dC, dI)) (ci := 1) (v := .ref r) (C := RX1) (T := TX1) (N := 3) hx hb hts (by decide +kernel) hown hK hP 0 rfl rfl 0 (by decide) (hts (.fieldLink RX1 10 "CharRows" "held" "LCharRows$Ranges;") (by decide +kernel)) (fun _ h9 => h9) rfl dX1_range_6 ?_
    refine va_getN (D := (dC, dI)) (ci := 0) (v := .int (nI n)) (C := RX0) (T := TX0) (N := 3) hx hb hts (by decide +kernel) hown hK hP 1 rfl rfl 2 (by decide) (va_Nw.use rfl (hN _ nw_34)) (fun _ h9 => h9) rfl dX1_range_9 ?_
    refine lv_icmp_lt (tgt := 17) hx hb dX1_range_12 (by decide) (fun c_12 => ?_) (fun c_12 => ?_)
    · refine lv_iload_n hx hb dX1_range_17 rfl (lv_at hl 2 rfl) ?_
      refine lv_if_ne (tgt := 31) hx hb dX1_range_18 (by decide) (fun c_18 => ?_) (fun c_18 => ?_)
      · refine lv_iload_n hx hb dX1_range_31 rfl (lv_at hl 2 rfl) ?_
        refine lv_iconst (v := nI 1) hx hb dX1_range_32 (by decide) ?_
        refine lv_icmp_ne (tgt := 48) hx hb dX1_range_33 (by decide) (fun c_33 => ?_) (fun c_33 => ?_)
        · refine lv_iconst (v := (-1)) hx hb dX1_range_48 (by decide) ?_
          exact W.iret (v := (-1)) hx hb hr (fun t9 ht9 hW9 => ⟨⟨(-1), [(x, .inr (1, [.ref r, .ref r2, .ref r3])), (r, .inr (0, [.ref a, .ref b, .int (nI n)])), (a, .inl (cI, 768, .inl f)), (b, .inl (cI, 768, .inl g))], rfl, ⟨rfl, (cr_rng_2 c_1 c_12 c_18 c_33).symm⟩, by rw [ht9]; exact hP, va_K.moved hW9.alike hK, hD⟩, hS.F ht9⟩) hS.2.2 dX1_range_49
        · refine lv_aload_n hx hb dX1_range_36 rfl (lv_at hl 0 rfl) ?_
          refine va_get (D := (dC, dI)) (ci := 1) (v := .ref r) (C := RX1) (T := TX1) (N := 3) hx hb hts (by decide +kernel) hown hK hP 0 rfl rfl 0 (by decide) (hts (.fieldLink RX1 10 "CharRows" "held" "LCharRows$Ranges;") (by decide +kernel)) (fun _ h9 => h9) rfl dX1_range_37 ?_
          refine va_getN (D := (dC, dI)) (ci := 0) (v := .ref b) (C := RX0) (T := TX0) (N := 3) hx hb hts (by decide +kernel) hown hK hP 1 rfl rfl 1 (by decide) (va_Nw.use rfl (hN _ nw_51)) (fun _ h9 => h9) rfl dX1_range_40 ?_
          refine lv_iload_n hx hb dX1_range_43 rfl (lv_at hl 1 rfl) ?_
          refine va_iald hx hb hK hP 3 0 rfl rfl (cr_in_of c_1 c_12 hn) dX1_range_44 ?_
          refine lv_goto (tgt := 49) hx hb dX1_range_45 (by decide) ?_
          exact W.iret (v := g k.toNatClampNeg) hx hb hr (fun t9 ht9 hW9 => ⟨⟨g k.toNatClampNeg, [(x, .inr (1, [.ref r, .ref r2, .ref r3])), (r, .inr (0, [.ref a, .ref b, .int (nI n)])), (a, .inl (cI, 768, .inl f)), (b, .inl (cI, 768, .inl g))], rfl, ⟨rfl, (cr_rng_1 c_1 c_12 c_18 c_33).symm⟩, by rw [ht9]; exact hP, va_K.moved hW9.alike hK, hD⟩, hS.F ht9⟩) hS.2.2 dX1_range_49
      · refine lv_aload_n hx hb dX1_range_21 rfl (lv_at hl 0 rfl) ?_
        refine va_get (D := (dC, dI)) (ci := 1) (v := .ref r) (C := RX1) (T := TX1) (N := 3) hx hb hts (by decide +kernel) hown hK hP 0 rfl rfl 0 (by decide) (hts (.fieldLink RX1 10 "CharRows" "held" "LCharRows$Ranges;") (by decide +kernel)) (fun _ h9 => h9) rfl dX1_range_22 ?_
        refine va_getN (D := (dC, dI)) (ci := 0) (v := .ref a) (C := RX0) (T := TX0) (N := 3) hx hb hts (by decide +kernel) hown hK hP 1 rfl rfl 0 (by decide) (va_Nw.use rfl (hN _ nw_47)) (fun _ h9 => h9) rfl dX1_range_25 ?_
        refine lv_iload_n hx hb dX1_range_28 rfl (lv_at hl 1 rfl) ?_
        refine va_iald hx hb hK hP 2 0 rfl rfl (cr_in_of c_1 c_12 hn) dX1_range_29 ?_
        exact W.iret (v := f k.toNatClampNeg) hx hb hr (fun t9 ht9 hW9 => ⟨⟨f k.toNatClampNeg, [(x, .inr (1, [.ref r, .ref r2, .ref r3])), (r, .inr (0, [.ref a, .ref b, .int (nI n)])), (a, .inl (cI, 768, .inl f)), (b, .inl (cI, 768, .inl g))], rfl, ⟨rfl, (cr_rng_0 c_1 c_12 c_18).symm⟩, by rw [ht9]; exact hP, va_K.moved hW9.alike hK, hD⟩, hS.F ht9⟩) hS.2.2 dX1_range_30
    · refine lv_iconst (v := (-1)) hx hb dX1_range_15 (by decide) ?_
      exact W.iret (v := (-1)) hx hb hr (fun t9 ht9 hW9 => ⟨⟨(-1), [(x, .inr (1, [.ref r, .ref r2, .ref r3])), (r, .inr (0, [.ref a, .ref b, .int (nI n)])), (a, .inl (cI, 768, .inl f)), (b, .inl (cI, 768, .inl g))], rfl, ⟨rfl, (cr_rng_big c_12).symm⟩, by rw [ht9]; exact hP, va_K.moved hW9.alike hK, hD⟩, hS.F ht9⟩) hS.2.2 dX1_range_16

set_option maxHeartbeats 4000000 in
set_option maxRecDepth 100000 in
theorem c_foldTwo (l : Launch) (dC : Nat → ClassId) (dI : Nat → Nat → Nat) (sz : Nat) (x r r2 r3 a b : Nat) (cI : ClassId) (n : Nat) (f g : Nat → Int32) (S : Nat → Prop) (hSet : cr_Set n f g S) (hn : n < 768) (p0 q0 : Nat) (hp : p0 < 55296) (hq : q0 < 55296) : Met l yX1_foldTwo wsX1_foldTwo ({ frames := 5, cells := 0, slots := 0, locals := 180 }) (va_Pc [.ref x, .int (nI p0), .int (nI q0)] (cr_preN dC dI [(cI, .int)] [(x, .inr (1, [.ref r, .ref r2, .ref r3])), (r, .inr (0, [.ref a, .ref b, .int (nI n)])), (a, .inl (cI, 768, .inl f)), (b, .inl (cI, 768, .inl g))] sz)) (va_Qv (fun (u : va_W) => ∃ (n' : Nat) (f' g' : Nat → Int32), u = [(x, .inr (1, [.ref r, .ref r2, .ref r3])), (r, .inr (0, [.ref a, .ref b, .int (nI n')])), (a, .inl (cI, 768, .inl f')), (b, .inl (cI, 768, .inl g'))] ∧ n' ≤ 768 ∧ cr_Set n' f' g' (fun c => (S c ∨ ((c = p0 ∨ c = q0) ∧ (S p0 ∨ S q0))))) (cr_at dC dI [(cI, .int)] (va_A [(x, .inr (1, [.ref r, .ref r2, .ref r3])), (r, .inr (0, [.ref a, .ref b, .int (nI n)])), (a, .inl (cI, 768, .inl f)), (b, .inl (cI, 768, .inl g))] sz)) (va_A [(x, .inr (1, [.ref r, .ref r2, .ref r3])), (r, .inr (0, [.ref a, .ref b, .int (nI n)])), (a, .inl (cI, 768, .inl f)), (b, .inl (cI, 768, .inl g))] sz)) 0 0 (va_A [(x, .inr (1, [.ref r, .ref r2, .ref r3])), (r, .inr (0, [.ref a, .ref b, .int (nI n)])), (a, .inl (cI, 768, .inl f)), (b, .inl (cI, 768, .inl g))] sz) := by
  refine Met.ofW (cc := cX1_foldTwo) (maxL := 5) (ret := none) (by decide) rfl ?_
  intro p e s m args below meth c s₁ B hml hv
  obtain ⟨rfl, ⟨hsz, hP, hK, hD0⟩, hN⟩ := hv
  have hx := B.exec
  have hb := B.bytes
  have hr := B.returns
  have hts := atoms_spec (ws := wsX1_foldTwo) B.pre
  have hown : s.vm.findClass RX1 = some m.cls := findClass_of_methodNamed B.named
  have hlocks := B.notSynchronized
  subst hsz
  have hD := hD0.self (sz := s.heap.size)
  generalize hAe : va_A [(x, .inr (1, [.ref r, .ref r2, .ref r3])), (r, .inr (0, [.ref a, .ref b, .int (nI n)])), (a, .inl (cI, 768, .inl f)), (b, .inl (cI, 768, .inl g))] s.heap.size = A at hD ⊢
  have hA : ∀ q : Nat, s.heap.size ≤ q → A q := fun q h => by rw [← hAe]; exact Or.inr h
  have hS : va_S A s.heap s.heap [] := va_S.rf
  have hP : va_P (dC, dI) crCl [(x, .inr (1, [.ref r, .ref r2, .ref r3])), (r, .inr (0, [.ref a, .ref b, .int (nI n)])), (a, .inl (cI, 768, .inl f)), (b, .inl (cI, 768, .inl g))] s.heap := hP
  have hl := lv_entry ([.ref x, .int (nI p0), .int (nI q0)]) (n := 5) (Nat.le_of_ble_eq_true rfl)
  rw [lg_entry_eq]
  generalize (lg_sl ([.ref x, .int (nI p0), .int (nI q0)]) ++ List.replicate (5 - (lg_sl ([.ref x, .int (nI p0), .int (nI q0)])).length) Slot.unset).toArray = ls at hl ⊢
  have hl : lv_has ls 5 [(0, .ref x), (1, .int (nI p0)), (2, .int (nI q0))] := hl
  refine lv_aload_n hx hb dX1_foldTwo_0 rfl (lv_at hl 0 rfl) ?_
  refine va_get (D := (dC, dI)) (ci := 1) (v := .ref r) (C := RX1) (T := TX1) (N := 3) hx hb hts (by decide +kernel) hown hK hP 0 rfl rfl 0 (by decide) (hts (.fieldLink RX1 10 "CharRows" "held" "LCharRows$Ranges;") (by decide +kernel)) (fun _ h9 => h9) rfl dX1_foldTwo_1 ?_
  refine lv_iload_n hx hb dX1_foldTwo_4 rfl (lv_at hl 1 rfl) ?_
  have hPc := hP.sub (ws' := [(r, .inr (0, [.ref a, .ref b, .int (nI n)])), (a, .inl (cI, 768, .inl f)), (b, .inl (cI, 768, .inl g))]) [1, 2, 3] rfl
  have hDc := hD.sub (ws' := [(r, .inr (0, [.ref a, .ref b, .int (nI n)])), (a, .inl (cI, 768, .inl f)), (b, .inl (cI, 768, .inl g))]) [1, 2, 3] (by decide) rfl
  have hFc := va_free (wc := [(r, .inr (0, [.ref a, .ref b, .int (nI n)])), (a, .inl (cI, 768, .inl f)), (b, .inl (cI, 768, .inl g))]) hD hS hA [1, 2, 3] rfl
  refine va_calli (va_runVN (As := [.int (nI p0)]) (rest := []) ⟨hx, hb, hml, hown, hts⟩ (c_holds l dC dI _ r a b cI n f g S hSet (by omega) (nI p0)) (⟨va_cnB (host := "CharRows") 1 hts gX1_foldTwo_X0_holds_n62 rfl rfl rfl (hN _ nw_62) (hts (.initialized RX0) (by decide +kernel)) (by decide +kernel) ⟨Nat.le_of_ble_eq_true rfl, Nat.le_of_ble_eq_true rfl⟩, hts (.instanceMethod yX0_holds) (by decide +kernel), hts (.selects RX0 yX0_holds yX0_holds) (by decide +kernel)⟩) (cr_preV hPc hK hDc (ci := 0) (q0 := 0) rfl rfl) rfl rfl hl.1 rfl (lv_room (Nat.le_of_ble_eq_true rfl)) dX1_foldTwo_5 ⟨Nat.zero_le _, Nat.zero_le _⟩) hS (fun q _ h => hFc q h) hFc (fun r_5 u_5 t_5 H_5 locs ht_5 hvm_5 hw_5 hB_5 hz_5 hk_5 hS => ?_)
  obtain ⟨rfl, hz_5⟩ := hw_5
  rw [cr_Hs_nI (by omega)] at hz_5
  obtain ⟨hP, hD⟩ := cr_back (wr := [(x, .inr (1, [.ref r, .ref r2, .ref r3]))]) (w1 := [(r, .inr (0, [.ref a, .ref b, .int (nI n)])), (a, .inl (cI, 768, .inl f)), (b, .inl (cI, 768, .inl g))]) hP hD [1, 2, 3] [0] rfl rfl (by decide) (by decide) hk_5 hFc hB_5 ht_5
  clear hPc hDc hFc
  generalize H_5 = H at hP hS ⊢
  have hP := hP.sub (ws' := [(x, .inr (1, [.ref r, .ref r2, .ref r3])), (r, .inr (0, [.ref a, .ref b, .int (nI n)])), (a, .inl (cI, 768, .inl f)), (b, .inl (cI, 768, .inl g))]) [0, 1, 2, 3] rfl
  have hD := hD.sub (ws' := [(x, .inr (1, [.ref r, .ref r2, .ref r3])), (r, .inr (0, [.ref a, .ref b, .int (nI n)])), (a, .inl (cI, 768, .inl f)), (b, .inl (cI, 768, .inl g))]) [0, 1, 2, 3] (by decide) rfl
  rcases hz_5 with ⟨rfl, hA1⟩ | ⟨rfl, hA1⟩
  · refine lv_istore_n (lv' := [(3, .int (nI 1)), (0, .ref x), (1, .int (nI p0)), (2, .int (nI q0))]) hx hb dX1_foldTwo_8 rfl hl (by decide) rfl (fun ls hl => ?_)
    refine lv_iload_n hx hb dX1_foldTwo_9 rfl (lv_at hl 0 rfl) ?_
    refine lv_aload_n hx hb dX1_foldTwo_10 rfl (lv_at hl 1 rfl) ?_
    refine va_get (D := (dC, dI)) (ci := 1) (v := .ref r) (C := RX1) (T := TX1) (N := 3) hx hb hts (by decide +kernel) hown hK hP 0 rfl rfl 0 (by decide) (hts (.fieldLink RX1 10 "CharRows" "held" "LCharRows$Ranges;") (by decide +kernel)) (fun _ h9 => h9) rfl dX1_foldTwo_11 ?_
    refine lv_iload_n hx hb dX1_foldTwo_14 rfl (lv_at hl 3 rfl) ?_
    have hPc := hP.sub (ws' := [(r, .inr (0, [.ref a, .ref b, .int (nI n)])), (a, .inl (cI, 768, .inl f)), (b, .inl (cI, 768, .inl g))]) [1, 2, 3] rfl
    have hDc := hD.sub (ws' := [(r, .inr (0, [.ref a, .ref b, .int (nI n)])), (a, .inl (cI, 768, .inl f)), (b, .inl (cI, 768, .inl g))]) [1, 2, 3] (by decide) rfl
    have hFc := va_free (wc := [(r, .inr (0, [.ref a, .ref b, .int (nI n)])), (a, .inl (cI, 768, .inl f)), (b, .inl (cI, 768, .inl g))]) hD hS hA [1, 2, 3] rfl
    refine va_calli (va_runVN (As := [.int (nI q0)]) (rest := [.int (nI 1)]) ⟨hx, hb, hml, hown, hts⟩ (c_holds l dC dI _ r a b cI n f g S hSet (by omega) (nI q0)) (⟨va_cnB (host := "CharRows") 1 hts gX1_foldTwo_X0_holds_n62 rfl rfl rfl (hN _ nw_62) (hts (.initialized RX0) (by decide +kernel)) (by decide +kernel) ⟨Nat.le_of_ble_eq_true rfl, Nat.le_of_ble_eq_true rfl⟩, hts (.instanceMethod yX0_holds) (by decide +kernel), hts (.selects RX0 yX0_holds yX0_holds) (by decide +kernel)⟩) (cr_preV hPc hK hDc (ci := 0) (q0 := 0) rfl rfl) rfl rfl hl.1 rfl (lv_room (Nat.le_of_ble_eq_true rfl)) dX1_foldTwo_15 ⟨Nat.zero_le _, Nat.zero_le _⟩) hS (fun q _ h => hFc q h) hFc (fun r_15 u_15 t_15 H_15 locs ht_15 hvm_15 hw_15 hB_15 hz_15 hk_15 hS => ?_)
    obtain ⟨rfl, hz_15⟩ := hw_15
    rw [cr_Hs_nI (by omega)] at hz_15
    obtain ⟨hP, hD⟩ := cr_back (wr := [(x, .inr (1, [.ref r, .ref r2, .ref r3]))]) (w1 := [(r, .inr (0, [.ref a, .ref b, .int (nI n)])), (a, .inl (cI, 768, .inl f)), (b, .inl (cI, 768, .inl g))]) hP hD [1, 2, 3] [0] rfl rfl (by decide) (by decide) hk_15 hFc hB_15 ht_15
    clear hPc hDc hFc
    generalize H_15 = H at hP hS ⊢
    have hP := hP.sub (ws' := [(x, .inr (1, [.ref r, .ref r2, .ref r3])), (r, .inr (0, [.ref a, .ref b, .int (nI n)])), (a, .inl (cI, 768, .inl f)), (b, .inl (cI, 768, .inl g))]) [0, 1, 2, 3] rfl
    have hD := hD.sub (ws' := [(x, .inr (1, [.ref r, .ref r2, .ref r3])), (r, .inr (0, [.ref a, .ref b, .int (nI n)])), (a, .inl (cI, 768, .inl f)), (b, .inl (cI, 768, .inl g))]) [0, 1, 2, 3] (by decide) rfl
    rcases hz_15 with ⟨rfl, hA2⟩ | ⟨rfl, hA2⟩
    · refine lv_icmp_eq (tgt := 43) hx hb dX1_foldTwo_18 (by decide) (fun c_18 => ?_) (fun c_18 => ?_)
      · exact W.vret hx hb hr (fun t9 ht9 hW9 => ⟨⟨[(x, .inr (1, [.ref r, .ref r2, .ref r3])), (r, .inr (0, [.ref a, .ref b, .int (nI n)])), (a, .inl (cI, 768, .inl f)), (b, .inl (cI, 768, .inl g))], rfl, ⟨n, f, g, rfl, by omega, hSet.iff (cr_two_11 hA1 hA2)⟩, by rw [ht9]; exact hP, va_K.moved hW9.alike hK, hD⟩, hS.F ht9⟩) hS.2.2 dX1_foldTwo_43
      · exact absurd (by decide) c_18
    · refine lv_icmp_eq (tgt := 43) hx hb dX1_foldTwo_18 (by decide) (fun c_18 => ?_) (fun c_18 => ?_)
      · exact absurd c_18 (by decide)
      · refine lv_iload_n hx hb dX1_foldTwo_21 rfl (lv_at hl 0 rfl) ?_
        refine lv_if_eq (tgt := 29) hx hb dX1_foldTwo_22 (by decide) (fun c_22 => ?_) (fun c_22 => ?_)
        · exact absurd c_22 (by decide)
        · refine lv_iload_n hx hb dX1_foldTwo_25 rfl (lv_at hl 3 rfl) ?_
          refine lv_goto (tgt := 30) hx hb dX1_foldTwo_26 (by decide) ?_
          refine lv_istore (lv' := [(4, .int (nI q0)), (3, .int (nI 1)), (0, .ref x), (1, .int (nI p0)), (2, .int (nI q0))]) hx hb dX1_foldTwo_30 hl (by decide) rfl (fun ls hl => ?_)
          refine lv_aload_n hx hb dX1_foldTwo_32 rfl (lv_at hl 2 rfl) ?_
          refine va_get (D := (dC, dI)) (ci := 1) (v := .ref r) (C := RX1) (T := TX1) (N := 3) hx hb hts (by decide +kernel) hown hK hP 0 rfl rfl 0 (by decide) (hts (.fieldLink RX1 10 "CharRows" "held" "LCharRows$Ranges;") (by decide +kernel)) (fun _ h9 => h9) rfl dX1_foldTwo_33 ?_
          refine lv_iload hx hb dX1_foldTwo_36 (lv_at hl 0 rfl) ?_
          refine lv_iload hx hb dX1_foldTwo_38 (lv_at hl 0 rfl) ?_
          have hPc := hP.sub (ws' := [(r, .inr (0, [.ref a, .ref b, .int (nI n)])), (a, .inl (cI, 768, .inl f)), (b, .inl (cI, 768, .inl g))]) [1, 2, 3] rfl
          have hDc := hD.sub (ws' := [(r, .inr (0, [.ref a, .ref b, .int (nI n)])), (a, .inl (cI, 768, .inl f)), (b, .inl (cI, 768, .inl g))]) [1, 2, 3] (by decide) rfl
          have hFc := va_free (wc := [(r, .inr (0, [.ref a, .ref b, .int (nI n)])), (a, .inl (cI, 768, .inl f)), (b, .inl (cI, 768, .inl g))]) hD hS hA [1, 2, 3] rfl
          refine va_callv (va_runVN (As := [.int (nI q0), .int (nI q0)]) (rest := []) ⟨hx, hb, hml, hown, hts⟩ (c_put l dC dI _ r a b cI n f g S hSet hn (nI q0) (nI q0) (by rw [nI_toInt (by omega)]; omega)) (⟨va_cnB (host := "CharRows") 2 hts gX1_foldTwo_X0_put_n58 rfl rfl rfl (hN _ nw_58) (hts (.initialized RX0) (by decide +kernel)) (by decide +kernel) ⟨Nat.le_of_ble_eq_true rfl, Nat.le_of_ble_eq_true rfl⟩, hts (.instanceMethod yX0_put) (by decide +kernel), hts (.selects RX0 yX0_put yX0_put) (by decide +kernel)⟩) (cr_preV hPc hK hDc (ci := 0) (q0 := 0) rfl rfl) rfl rfl hl.1 rfl (lv_room (Nat.le_of_ble_eq_true rfl)) dX1_foldTwo_40 ⟨Nat.zero_le _, Nat.zero_le _⟩) hS (fun q _ h => hFc q h) hFc (fun u_40 t_40 H_40 locs ht_40 hvm_40 hw_40 hB_40 hz_40 hk_40 hS => ?_)
          obtain ⟨n1, f1, g1, rfl, hn1, hSet1⟩ := hw_40
          obtain ⟨hP, hD⟩ := cr_back (wr := [(x, .inr (1, [.ref r, .ref r2, .ref r3]))]) (w1 := [(r, .inr (0, [.ref a, .ref b, .int (nI n1)])), (a, .inl (cI, 768, .inl f1)), (b, .inl (cI, 768, .inl g1))]) hP hD [1, 2, 3] [0] rfl rfl (by decide) (by decide) hk_40 hFc hB_40 ht_40
          clear hPc hDc hFc
          generalize H_40 = H at hP hS ⊢
          have hP := hP.sub (ws' := [(x, .inr (1, [.ref r, .ref r2, .ref r3])), (r, .inr (0, [.ref a, .ref b, .int (nI n1)])), (a, .inl (cI, 768, .inl f1)), (b, .inl (cI, 768, .inl g1))]) [0, 1, 2, 3] rfl
          have hD := hD.sub (ws' := [(x, .inr (1, [.ref r, .ref r2, .ref r3])), (r, .inr (0, [.ref a, .ref b, .int (nI n1)])), (a, .inl (cI, 768, .inl f1)), (b, .inl (cI, 768, .inl g1))]) [0, 1, 2, 3] (by decide) rfl
          exact W.vret hx hb hr (fun t9 ht9 hW9 => ⟨⟨[(x, .inr (1, [.ref r, .ref r2, .ref r3])), (r, .inr (0, [.ref a, .ref b, .int (nI n1)])), (a, .inl (cI, 768, .inl f1)), (b, .inl (cI, 768, .inl g1))], rfl, ⟨n1, f1, g1, rfl, by omega, hSet1.iff (cr_two_10 hA1 hA2 (by omega))⟩, by rw [ht9]; exact hP, va_K.moved hW9.alike hK, hD⟩, hS.F ht9⟩) hS.2.2 dX1_foldTwo_43
  · refine lv_istore_n (lv' := [(3, .int (nI 0)), (0, .ref x), (1, .int (nI p0)), (2, .int (nI q0))]) hx hb dX1_foldTwo_8 rfl hl (by decide) rfl (fun ls hl => ?_)
    refine lv_iload_n hx hb dX1_foldTwo_9 rfl (lv_at hl 0 rfl) ?_
    refine lv_aload_n hx hb dX1_foldTwo_10 rfl (lv_at hl 1 rfl) ?_
    refine va_get (D := (dC, dI)) (ci := 1) (v := .ref r) (C := RX1) (T := TX1) (N := 3) hx hb hts (by decide +kernel) hown hK hP 0 rfl rfl 0 (by decide) (hts (.fieldLink RX1 10 "CharRows" "held" "LCharRows$Ranges;") (by decide +kernel)) (fun _ h9 => h9) rfl dX1_foldTwo_11 ?_
    refine lv_iload_n hx hb dX1_foldTwo_14 rfl (lv_at hl 3 rfl) ?_
    have hPc := hP.sub (ws' := [(r, .inr (0, [.ref a, .ref b, .int (nI n)])), (a, .inl (cI, 768, .inl f)), (b, .inl (cI, 768, .inl g))]) [1, 2, 3] rfl
    have hDc := hD.sub (ws' := [(r, .inr (0, [.ref a, .ref b, .int (nI n)])), (a, .inl (cI, 768, .inl f)), (b, .inl (cI, 768, .inl g))]) [1, 2, 3] (by decide) rfl
    have hFc := va_free (wc := [(r, .inr (0, [.ref a, .ref b, .int (nI n)])), (a, .inl (cI, 768, .inl f)), (b, .inl (cI, 768, .inl g))]) hD hS hA [1, 2, 3] rfl
    refine va_calli (va_runVN (As := [.int (nI q0)]) (rest := [.int (nI 0)]) ⟨hx, hb, hml, hown, hts⟩ (c_holds l dC dI _ r a b cI n f g S hSet (by omega) (nI q0)) (⟨va_cnB (host := "CharRows") 1 hts gX1_foldTwo_X0_holds_n62 rfl rfl rfl (hN _ nw_62) (hts (.initialized RX0) (by decide +kernel)) (by decide +kernel) ⟨Nat.le_of_ble_eq_true rfl, Nat.le_of_ble_eq_true rfl⟩, hts (.instanceMethod yX0_holds) (by decide +kernel), hts (.selects RX0 yX0_holds yX0_holds) (by decide +kernel)⟩) (cr_preV hPc hK hDc (ci := 0) (q0 := 0) rfl rfl) rfl rfl hl.1 rfl (lv_room (Nat.le_of_ble_eq_true rfl)) dX1_foldTwo_15 ⟨Nat.zero_le _, Nat.zero_le _⟩) hS (fun q _ h => hFc q h) hFc (fun r_15 u_15 t_15 H_15 locs ht_15 hvm_15 hw_15 hB_15 hz_15 hk_15 hS => ?_)
    obtain ⟨rfl, hz_15⟩ := hw_15
    rw [cr_Hs_nI (by omega)] at hz_15
    obtain ⟨hP, hD⟩ := cr_back (wr := [(x, .inr (1, [.ref r, .ref r2, .ref r3]))]) (w1 := [(r, .inr (0, [.ref a, .ref b, .int (nI n)])), (a, .inl (cI, 768, .inl f)), (b, .inl (cI, 768, .inl g))]) hP hD [1, 2, 3] [0] rfl rfl (by decide) (by decide) hk_15 hFc hB_15 ht_15
    clear hPc hDc hFc
    generalize H_15 = H at hP hS ⊢
    have hP := hP.sub (ws' := [(x, .inr (1, [.ref r, .ref r2, .ref r3])), (r, .inr (0, [.ref a, .ref b, .int (nI n)])), (a, .inl (cI, 768, .inl f)), (b, .inl (cI, 768, .inl g))]) [0, 1, 2, 3] rfl
    have hD := hD.sub (ws' := [(x, .inr (1, [.ref r, .ref r2, .ref r3])), (r, .inr (0, [.ref a, .ref b, .int (nI n)])), (a, .inl (cI, 768, .inl f)), (b, .inl (cI, 768, .inl g))]) [0, 1, 2, 3] (by decide) rfl
    rcases hz_15 with ⟨rfl, hA2⟩ | ⟨rfl, hA2⟩
    · refine lv_icmp_eq (tgt := 43) hx hb dX1_foldTwo_18 (by decide) (fun c_18 => ?_) (fun c_18 => ?_)
      · exact absurd c_18 (by decide)
      · refine lv_iload_n hx hb dX1_foldTwo_21 rfl (lv_at hl 0 rfl) ?_
        refine lv_if_eq (tgt := 29) hx hb dX1_foldTwo_22 (by decide) (fun c_22 => ?_) (fun c_22 => ?_)
        · refine lv_iload_n hx hb dX1_foldTwo_29 rfl (lv_at hl 2 rfl) ?_
          refine lv_istore (lv' := [(4, .int (nI p0)), (3, .int (nI 0)), (0, .ref x), (1, .int (nI p0)), (2, .int (nI q0))]) hx hb dX1_foldTwo_30 hl (by decide) rfl (fun ls hl => ?_)
          refine lv_aload_n hx hb dX1_foldTwo_32 rfl (lv_at hl 2 rfl) ?_
          refine va_get (D := (dC, dI)) (ci := 1) (v := .ref r) (C := RX1) (T := TX1) (N := 3) hx hb hts (by decide +kernel) hown hK hP 0 rfl rfl 0 (by decide) (hts (.fieldLink RX1 10 "CharRows" "held" "LCharRows$Ranges;") (by decide +kernel)) (fun _ h9 => h9) rfl dX1_foldTwo_33 ?_
          refine lv_iload hx hb dX1_foldTwo_36 (lv_at hl 0 rfl) ?_
          refine lv_iload hx hb dX1_foldTwo_38 (lv_at hl 0 rfl) ?_
          have hPc := hP.sub (ws' := [(r, .inr (0, [.ref a, .ref b, .int (nI n)])), (a, .inl (cI, 768, .inl f)), (b, .inl (cI, 768, .inl g))]) [1, 2, 3] rfl
          have hDc := hD.sub (ws' := [(r, .inr (0, [.ref a, .ref b, .int (nI n)])), (a, .inl (cI, 768, .inl f)), (b, .inl (cI, 768, .inl g))]) [1, 2, 3] (by decide) rfl
          have hFc := va_free (wc := [(r, .inr (0, [.ref a, .ref b, .int (nI n)])), (a, .inl (cI, 768, .inl f)), (b, .inl (cI, 768, .inl g))]) hD hS hA [1, 2, 3] rfl
          refine va_callv (va_runVN (As := [.int (nI p0), .int (nI p0)]) (rest := []) ⟨hx, hb, hml, hown, hts⟩ (c_put l dC dI _ r a b cI n f g S hSet hn (nI p0) (nI p0) (by rw [nI_toInt (by omega)]; omega)) (⟨va_cnB (host := "CharRows") 2 hts gX1_foldTwo_X0_put_n58 rfl rfl rfl (hN _ nw_58) (hts (.initialized RX0) (by decide +kernel)) (by decide +kernel) ⟨Nat.le_of_ble_eq_true rfl, Nat.le_of_ble_eq_true rfl⟩, hts (.instanceMethod yX0_put) (by decide +kernel), hts (.selects RX0 yX0_put yX0_put) (by decide +kernel)⟩) (cr_preV hPc hK hDc (ci := 0) (q0 := 0) rfl rfl) rfl rfl hl.1 rfl (lv_room (Nat.le_of_ble_eq_true rfl)) dX1_foldTwo_40 ⟨Nat.zero_le _, Nat.zero_le _⟩) hS (fun q _ h => hFc q h) hFc (fun u_40 t_40 H_40 locs ht_40 hvm_40 hw_40 hB_40 hz_40 hk_40 hS => ?_)
          obtain ⟨n1, f1, g1, rfl, hn1, hSet1⟩ := hw_40
          obtain ⟨hP, hD⟩ := cr_back (wr := [(x, .inr (1, [.ref r, .ref r2, .ref r3]))]) (w1 := [(r, .inr (0, [.ref a, .ref b, .int (nI n1)])), (a, .inl (cI, 768, .inl f1)), (b, .inl (cI, 768, .inl g1))]) hP hD [1, 2, 3] [0] rfl rfl (by decide) (by decide) hk_40 hFc hB_40 ht_40
          clear hPc hDc hFc
          generalize H_40 = H at hP hS ⊢
          have hP := hP.sub (ws' := [(x, .inr (1, [.ref r, .ref r2, .ref r3])), (r, .inr (0, [.ref a, .ref b, .int (nI n1)])), (a, .inl (cI, 768, .inl f1)), (b, .inl (cI, 768, .inl g1))]) [0, 1, 2, 3] rfl
          have hD := hD.sub (ws' := [(x, .inr (1, [.ref r, .ref r2, .ref r3])), (r, .inr (0, [.ref a, .ref b, .int (nI n1)])), (a, .inl (cI, 768, .inl f1)), (b, .inl (cI, 768, .inl g1))]) [0, 1, 2, 3] (by decide) rfl
          exact W.vret hx hb hr (fun t9 ht9 hW9 => ⟨⟨[(x, .inr (1, [.ref r, .ref r2, .ref r3])), (r, .inr (0, [.ref a, .ref b, .int (nI n1)])), (a, .inl (cI, 768, .inl f1)), (b, .inl (cI, 768, .inl g1))], rfl, ⟨n1, f1, g1, rfl, by omega, hSet1.iff (cr_two_01 hA1 hA2 (by omega))⟩, by rw [ht9]; exact hP, va_K.moved hW9.alike hK, hD⟩, hS.F ht9⟩) hS.2.2 dX1_foldTwo_43
        · exact absurd (by decide) c_22
    · refine lv_icmp_eq (tgt := 43) hx hb dX1_foldTwo_18 (by decide) (fun c_18 => ?_) (fun c_18 => ?_)
      · exact W.vret hx hb hr (fun t9 ht9 hW9 => ⟨⟨[(x, .inr (1, [.ref r, .ref r2, .ref r3])), (r, .inr (0, [.ref a, .ref b, .int (nI n)])), (a, .inl (cI, 768, .inl f)), (b, .inl (cI, 768, .inl g))], rfl, ⟨n, f, g, rfl, by omega, hSet.iff (cr_two_00 hA1 hA2)⟩, by rw [ht9]; exact hP, va_K.moved hW9.alike hK, hD⟩, hS.F ht9⟩) hS.2.2 dX1_foldTwo_43
      · exact absurd (by decide) c_18

set_option maxHeartbeats 4000000 in
set_option maxRecDepth 100000 in
theorem c_keep (l : Launch) (dC : Nat → ClassId) (dI : Nat → Nat → Nat) (sz : Nat) (x r r2 r3 a b a3 b3 : Nat) (cI : ClassId) (n n3 : Nat) (f g f3 g3 : Nat → Int32) (hn : n ≤ 768) : Met l yX1_keep wsX1_keep ({ frames := 3, cells := 0, slots := 0, locals := 100 }) (va_Pc [.ref x] (cr_preN dC dI [(cI, .int)] [(x, .inr (1, [.ref r, .ref r2, .ref r3])), (r, .inr (0, [.ref a, .ref b, .int (nI n)])), (a, .inl (cI, 768, .inl f)), (b, .inl (cI, 768, .inl g)), (r3, .inr (0, [.ref a3, .ref b3, .int (nI n3)])), (a3, .inl (cI, 768, .inl f3)), (b3, .inl (cI, 768, .inl g3))] sz)) (va_Qv (fun (u : va_W) => u = [(x, .inr (1, [.ref r, .ref r2, .ref r3])), (r, .inr (0, [.ref a, .ref b, .int (nI n)])), (a, .inl (cI, 768, .inl f)), (b, .inl (cI, 768, .inl g)), (r3, .inr (0, [.ref a3, .ref b3, .int (nI n)])), (a3, .inl (cI, 768, .inl (va_cpy f f3 0 0 n))), (b3, .inl (cI, 768, .inl (va_cpy g g3 0 0 n)))]) (cr_at dC dI [(cI, .int)] (va_A [(x, .inr (1, [.ref r, .ref r2, .ref r3])), (r, .inr (0, [.ref a, .ref b, .int (nI n)])), (a, .inl (cI, 768, .inl f)), (b, .inl (cI, 768, .inl g)), (r3, .inr (0, [.ref a3, .ref b3, .int (nI n3)])), (a3, .inl (cI, 768, .inl f3)), (b3, .inl (cI, 768, .inl g3))] sz)) (va_A [(x, .inr (1, [.ref r, .ref r2, .ref r3])), (r, .inr (0, [.ref a, .ref b, .int (nI n)])), (a, .inl (cI, 768, .inl f)), (b, .inl (cI, 768, .inl g)), (r3, .inr (0, [.ref a3, .ref b3, .int (nI n3)])), (a3, .inl (cI, 768, .inl f3)), (b3, .inl (cI, 768, .inl g3))] sz)) 0 0 (va_A [(x, .inr (1, [.ref r, .ref r2, .ref r3])), (r, .inr (0, [.ref a, .ref b, .int (nI n)])), (a, .inl (cI, 768, .inl f)), (b, .inl (cI, 768, .inl g)), (r3, .inr (0, [.ref a3, .ref b3, .int (nI n3)])), (a3, .inl (cI, 768, .inl f3)), (b3, .inl (cI, 768, .inl g3))] sz) := by
  refine Met.ofW (cc := cX1_keep) (maxL := 1) (ret := none) (by decide) rfl ?_
  intro p e s m args below meth c s₁ B hml hv
  obtain ⟨rfl, ⟨hsz, hP, hK, hD0⟩, hN⟩ := hv
  have hx := B.exec
  have hb := B.bytes
  have hr := B.returns
  have hts := atoms_spec (ws := wsX1_keep) B.pre
  have hown : s.vm.findClass RX1 = some m.cls := findClass_of_methodNamed B.named
  have hlocks := B.notSynchronized
  subst hsz
  have hD := hD0.self (sz := s.heap.size)
  generalize hAe : va_A [(x, .inr (1, [.ref r, .ref r2, .ref r3])), (r, .inr (0, [.ref a, .ref b, .int (nI n)])), (a, .inl (cI, 768, .inl f)), (b, .inl (cI, 768, .inl g)), (r3, .inr (0, [.ref a3, .ref b3, .int (nI n3)])), (a3, .inl (cI, 768, .inl f3)), (b3, .inl (cI, 768, .inl g3))] s.heap.size = A at hD ⊢
  have hA : ∀ q : Nat, s.heap.size ≤ q → A q := fun q h => by rw [← hAe]; exact Or.inr h
  have hS : va_S A s.heap s.heap [] := va_S.rf
  have hP : va_P (dC, dI) crCl [(x, .inr (1, [.ref r, .ref r2, .ref r3])), (r, .inr (0, [.ref a, .ref b, .int (nI n)])), (a, .inl (cI, 768, .inl f)), (b, .inl (cI, 768, .inl g)), (r3, .inr (0, [.ref a3, .ref b3, .int (nI n3)])), (a3, .inl (cI, 768, .inl f3)), (b3, .inl (cI, 768, .inl g3))] s.heap := hP
  have hl := lv_entry ([.ref x]) (n := 1) (Nat.le_of_ble_eq_true rfl)
  rw [lg_entry_eq]
  generalize (lg_sl ([.ref x]) ++ List.replicate (1 - (lg_sl ([.ref x])).length) Slot.unset).toArray = ls at hl ⊢
  have hl : lv_has ls 1 [(0, .ref x)] := hl
  refine lv_aload_n hx hb dX1_keep_0 rfl (lv_at hl 0 rfl) ?_
  refine va_get (D := (dC, dI)) (ci := 1) (v := .ref r3) (C := RX1) (T := TX1) (N := 3) hx hb hts (by decide +kernel) hown hK hP 0 rfl rfl 2 (by decide) (hts (.fieldLink RX1 19 "CharRows" "kept" "LCharRows$Ranges;") (by decide +kernel)) (fun _ h9 => h9) rfl dX1_keep_1 ?_
  refine lv_aload_n hx hb dX1_keep_4 rfl (lv_at hl 0 rfl) ?_
  refine va_get (D := (dC, dI)) (ci := 1) (v := .ref r) (C := RX1) (T := TX1) (N := 3) hx hb hts (by decide +kernel) hown hK hP 0 rfl rfl 0 (by decide) (hts (.fieldLink RX1 10 "CharRows" "held" "LCharRows$Ranges;") (by decide +kernel)) (fun _ h9 => h9) rfl dX1_keep_5 ?_
  have hPc := hP.sub (ws' := [(r3, .inr (0, [.ref a3, .ref b3, .int (nI n3)])), (a3, .inl (cI, 768, .inl f3)), (b3, .inl (cI, 768, .inl g3)), (r, .inr (0, [.ref a, .ref b, .int (nI n)])), (a, .inl (cI, 768, .inl f)), (b, .inl (cI, 768, .inl g))]) [4, 5, 6, 1, 2, 3] rfl
  have hDc := hD.sub (ws' := [(r3, .inr (0, [.ref a3, .ref b3, .int (nI n3)])), (a3, .inl (cI, 768, .inl f3)), (b3, .inl (cI, 768, .inl g3)), (r, .inr (0, [.ref a, .ref b, .int (nI n)])), (a, .inl (cI, 768, .inl f)), (b, .inl (cI, 768, .inl g))]) [4, 5, 6, 1, 2, 3] (by decide) rfl
  have hFc := va_free (wc := [(r3, .inr (0, [.ref a3, .ref b3, .int (nI n3)])), (a3, .inl (cI, 768, .inl f3)), (b3, .inl (cI, 768, .inl g3)), (r, .inr (0, [.ref a, .ref b, .int (nI n)])), (a, .inl (cI, 768, .inl f)), (b, .inl (cI, 768, .inl g))]) hD hS hA [4, 5, 6, 1, 2, 3] rfl
  refine va_callv (va_runVN (As := [.ref r]) (rest := []) ⟨hx, hb, hml, hown, hts⟩ (c_become l dC dI _ r a b r3 a3 b3 cI n n3 f g f3 g3 hn) (⟨va_cnB (host := "CharRows") 1 hts gX1_keep_X0_become_n54 rfl rfl rfl (hN _ nw_54) (hts (.initialized RX0) (by decide +kernel)) (by decide +kernel) ⟨Nat.le_of_ble_eq_true rfl, Nat.le_of_ble_eq_true rfl⟩, hts (.instanceMethod yX0_become) (by decide +kernel), hts (.selects RX0 yX0_become yX0_become) (by decide +kernel)⟩) (cr_preV hPc hK hDc (ci := 0) (q0 := 0) rfl rfl) rfl rfl hl.1 rfl (lv_room (Nat.le_of_ble_eq_true rfl)) dX1_keep_8 ⟨Nat.zero_le _, Nat.zero_le _⟩) hS (fun q _ h => hFc q h) hFc (fun u_8 t_8 H_8 locs ht_8 hvm_8 hw_8 hB_8 hz_8 hk_8 hS => ?_)
  subst hw_8
  obtain ⟨hP, hD⟩ := cr_back (wr := [(x, .inr (1, [.ref r, .ref r2, .ref r3]))]) (w1 := [(r3, .inr (0, [.ref a3, .ref b3, .int (nI n)])), (a3, .inl (cI, 768, .inl (va_cpy f f3 0 0 n))), (b3, .inl (cI, 768, .inl (va_cpy g g3 0 0 n))), (r, .inr (0, [.ref a, .ref b, .int (nI n)])), (a, .inl (cI, 768, .inl f)), (b, .inl (cI, 768, .inl g))]) hP hD [4, 5, 6, 1, 2, 3] [0] rfl rfl (by decide) (by decide) hk_8 hFc hB_8 ht_8
  clear hPc hDc hFc
  generalize H_8 = H at hP hS ⊢
  have hP := hP.sub (ws' := [(x, .inr (1, [.ref r, .ref r2, .ref r3])), (r, .inr (0, [.ref a, .ref b, .int (nI n)])), (a, .inl (cI, 768, .inl f)), (b, .inl (cI, 768, .inl g)), (r3, .inr (0, [.ref a3, .ref b3, .int (nI n)])), (a3, .inl (cI, 768, .inl (va_cpy f f3 0 0 n))), (b3, .inl (cI, 768, .inl (va_cpy g g3 0 0 n)))]) [0, 4, 5, 6, 1, 2, 3] rfl
  have hD := hD.sub (ws' := [(x, .inr (1, [.ref r, .ref r2, .ref r3])), (r, .inr (0, [.ref a, .ref b, .int (nI n)])), (a, .inl (cI, 768, .inl f)), (b, .inl (cI, 768, .inl g)), (r3, .inr (0, [.ref a3, .ref b3, .int (nI n)])), (a3, .inl (cI, 768, .inl (va_cpy f f3 0 0 n))), (b3, .inl (cI, 768, .inl (va_cpy g g3 0 0 n)))]) [0, 4, 5, 6, 1, 2, 3] (by decide) rfl
  exact W.vret hx hb hr (fun t9 ht9 hW9 => ⟨⟨[(x, .inr (1, [.ref r, .ref r2, .ref r3])), (r, .inr (0, [.ref a, .ref b, .int (nI n)])), (a, .inl (cI, 768, .inl f)), (b, .inl (cI, 768, .inl g)), (r3, .inr (0, [.ref a3, .ref b3, .int (nI n)])), (a3, .inl (cI, 768, .inl (va_cpy f f3 0 0 n))), (b3, .inl (cI, 768, .inl (va_cpy g g3 0 0 n)))], rfl, rfl, by rw [ht9]; exact hP, va_K.moved hW9.alike hK, hD⟩, hS.F ht9⟩) hS.2.2 dX1_keep_11

set_option maxHeartbeats 4000000 in
set_option maxRecDepth 100000 in
theorem c_join (l : Launch) (dC : Nat → ClassId) (dI : Nat → Nat → Nat) (sz : Nat) (x r r2 r3 a b a3 b3 : Nat) (cI : ClassId) (n n3 : Nat) (f g f3 g3 : Nat → Int32) (S K : Nat → Prop) (hSet : cr_Set n f g S) (hKt : cr_Set n3 f3 g3 K) (P : List Nat) (hB : cr_Bd P S) (hBK : cr_Bd P K) (hPl : P.length ≤ 1400) : Met l yX1_join wsX1_join ({ frames := 5, cells := 0, slots := 0, locals := 180 }) (va_Pc [.ref x] (cr_preN dC dI [(cI, .int)] [(x, .inr (1, [.ref r, .ref r2, .ref r3])), (r, .inr (0, [.ref a, .ref b, .int (nI n)])), (a, .inl (cI, 768, .inl f)), (b, .inl (cI, 768, .inl g)), (r3, .inr (0, [.ref a3, .ref b3, .int (nI n3)])), (a3, .inl (cI, 768, .inl f3)), (b3, .inl (cI, 768, .inl g3))] sz)) (va_Qi (fun (rr : Int32) (u : va_W) => ∃ (n' : Nat) (f' g' : Nat → Int32), rr = nI n' ∧ u = [(x, .inr (1, [.ref r, .ref r2, .ref r3])), (r, .inr (0, [.ref a, .ref b, .int (nI n')])), (a, .inl (cI, 768, .inl f')), (b, .inl (cI, 768, .inl g')), (r3, .inr (0, [.ref a3, .ref b3, .int (nI n3)])), (a3, .inl (cI, 768, .inl f3)), (b3, .inl (cI, 768, .inl g3))] ∧ n' ≤ 768 ∧ cr_Set n' f' g' (fun c => S c ∨ K c)) (cr_at dC dI [(cI, .int)] (va_A [(x, .inr (1, [.ref r, .ref r2, .ref r3])), (r, .inr (0, [.ref a, .ref b, .int (nI n)])), (a, .inl (cI, 768, .inl f)), (b, .inl (cI, 768, .inl g)), (r3, .inr (0, [.ref a3, .ref b3, .int (nI n3)])), (a3, .inl (cI, 768, .inl f3)), (b3, .inl (cI, 768, .inl g3))] sz)) (va_A [(x, .inr (1, [.ref r, .ref r2, .ref r3])), (r, .inr (0, [.ref a, .ref b, .int (nI n)])), (a, .inl (cI, 768, .inl f)), (b, .inl (cI, 768, .inl g)), (r3, .inr (0, [.ref a3, .ref b3, .int (nI n3)])), (a3, .inl (cI, 768, .inl f3)), (b3, .inl (cI, 768, .inl g3))] sz)) 0 0 (va_A [(x, .inr (1, [.ref r, .ref r2, .ref r3])), (r, .inr (0, [.ref a, .ref b, .int (nI n)])), (a, .inl (cI, 768, .inl f)), (b, .inl (cI, 768, .inl g)), (r3, .inr (0, [.ref a3, .ref b3, .int (nI n3)])), (a3, .inl (cI, 768, .inl f3)), (b3, .inl (cI, 768, .inl g3))] sz) := by
  refine Met.ofW (cc := cX1_join) (maxL := 2) (ret := (some .int)) (by decide) rfl ?_
  intro p e s m args below meth c s₁ B hml hv
  obtain ⟨rfl, ⟨hsz, hP, hK, hD0⟩, hN⟩ := hv
  have hx := B.exec
  have hb := B.bytes
  have hr := B.returns
  have hts := atoms_spec (ws := wsX1_join) B.pre
  have hown : s.vm.findClass RX1 = some m.cls := findClass_of_methodNamed B.named
  have hlocks := B.notSynchronized
  subst hsz
  have hD := hD0.self (sz := s.heap.size)
  generalize hAe : va_A [(x, .inr (1, [.ref r, .ref r2, .ref r3])), (r, .inr (0, [.ref a, .ref b, .int (nI n)])), (a, .inl (cI, 768, .inl f)), (b, .inl (cI, 768, .inl g)), (r3, .inr (0, [.ref a3, .ref b3, .int (nI n3)])), (a3, .inl (cI, 768, .inl f3)), (b3, .inl (cI, 768, .inl g3))] s.heap.size = A at hD ⊢
  have hA : ∀ q : Nat, s.heap.size ≤ q → A q := fun q h => by rw [← hAe]; exact Or.inr h
  have hS : va_S A s.heap s.heap [] := va_S.rf
  have hP : va_P (dC, dI) crCl [(x, .inr (1, [.ref r, .ref r2, .ref r3])), (r, .inr (0, [.ref a, .ref b, .int (nI n)])), (a, .inl (cI, 768, .inl f)), (b, .inl (cI, 768, .inl g)), (r3, .inr (0, [.ref a3, .ref b3, .int (nI n3)])), (a3, .inl (cI, 768, .inl f3)), (b3, .inl (cI, 768, .inl g3))] s.heap := hP
  have hl := lv_entry ([.ref x]) (n := 2) (Nat.le_of_ble_eq_true rfl)
  rw [lg_entry_eq]
  generalize (lg_sl ([.ref x]) ++ List.replicate (2 - (lg_sl ([.ref x])).length) Slot.unset).toArray = ls at hl ⊢
  have hl : lv_has ls 2 [(0, .ref x)] := hl
  have hn3 := hKt.count hBK
  obtain ⟨lo, hi, hR, hO, hI⟩ := hKt
  refine lv_iconst (v := nI 0) hx hb dX1_join_0 (by decide) ?_
  refine lv_istore_n (lv' := [(1, .int (nI 0)), (0, .ref x)]) hx hb dX1_join_1 rfl hl (by decide) rfl (fun ls hl => ?_)
  refine cr_lp4 (fun (k : Nat) (n1 : Nat) (f1 : Nat → Int32) (g1 : Nat → Int32) => n3 - k) (fun (k : Nat) (n1 : Nat) (f1 : Nat → Int32) (g1 : Nat → Int32) H locs ls => (k ≤ n3 ∧ cr_Set n1 f1 g1 (fun c => S c ∨ cr_In k lo hi c)) ∧ va_P (dC, dI) crCl [(x, .inr (1, [.ref r, .ref r2, .ref r3])), (r, .inr (0, [.ref a, .ref b, .int (nI n1)])), (a, .inl (cI, 768, .inl f1)), (b, .inl (cI, 768, .inl g1)), (r3, .inr (0, [.ref a3, .ref b3, .int (nI n3)])), (a3, .inl (cI, 768, .inl f3)), (b3, .inl (cI, 768, .inl g3))] H ∧ va_D A [(x, .inr (1, [.ref r, .ref r2, .ref r3])), (r, .inr (0, [.ref a, .ref b, .int (nI n1)])), (a, .inl (cI, 768, .inl f1)), (b, .inl (cI, 768, .inl g1)), (r3, .inr (0, [.ref a3, .ref b3, .int (nI n3)])), (a3, .inl (cI, 768, .inl f3)), (b3, .inl (cI, 768, .inl g3))] ∧ va_S A s.heap H locs ∧ lv_has ls 2 [(0, .ref x), (1, .int (nI k))]) ?_ 0 n f g ⟨⟨Nat.zero_le _, hSet.iff (fun c => cr_In_zero)⟩, hP, hD, hS, lv_sub hl [1, 0] rfl⟩
  intro k n1 f1 g1 H locs ls hI2 ih2
  obtain ⟨⟨h1, h2⟩, hP, hD, hS, hl⟩ := hI2
  have h3 := h2.count (cr_Bd_join hO hI hB hBK h1)
  have h4 : (cr_fm hi k :: P).length = P.length + 1 := rfl
  refine lv_iload_n hx hb dX1_join_2 rfl (lv_at hl 1 rfl) ?_
  refine lv_aload_n hx hb dX1_join_3 rfl (lv_at hl 0 rfl) ?_
  refine va_get (D := (dC, dI)) (ci := 1) (v := .ref r3) (C := RX1) (T := TX1) (N := 3) hx hb hts (by decide +kernel) hown hK hP 0 rfl rfl 2 (by decide) (hts (.fieldLink RX1 19 "CharRows" "kept" "LCharRows$Ranges;") (by decide +kernel)) (fun _ h9 => h9) rfl dX1_join_4 ?_
  refine va_getN (D := (dC, dI)) (ci := 0) (v := .int (nI n3)) (C := RX0) (T := TX0) (N := 3) hx hb hts (by decide +kernel) hown hK hP 4 rfl rfl 2 (by decide) (va_Nw.use rfl (hN _ nw_34)) (fun _ h9 => h9) rfl dX1_join_7 ?_
  refine lv_icmp_ge (tgt := 44) hx hb dX1_join_10 (by decide) (fun c_10 => ?_) (fun c_10 => ?_)
  · rw [nI_leI (by omega) (by omega)] at c_10
    refine lv_aload_n hx hb dX1_join_44 rfl (lv_at hl 0 rfl) ?_
    refine va_get (D := (dC, dI)) (ci := 1) (v := .ref r) (C := RX1) (T := TX1) (N := 3) hx hb hts (by decide +kernel) hown hK hP 0 rfl rfl 0 (by decide) (hts (.fieldLink RX1 10 "CharRows" "held" "LCharRows$Ranges;") (by decide +kernel)) (fun _ h9 => h9) rfl dX1_join_45 ?_
    refine va_getN (D := (dC, dI)) (ci := 0) (v := .int (nI n1)) (C := RX0) (T := TX0) (N := 3) hx hb hts (by decide +kernel) hown hK hP 1 rfl rfl 2 (by decide) (va_Nw.use rfl (hN _ nw_34)) (fun _ h9 => h9) rfl dX1_join_48 ?_
    exact W.iret (v := nI n1) hx hb hr (fun t9 ht9 hW9 => ⟨⟨nI n1, [(x, .inr (1, [.ref r, .ref r2, .ref r3])), (r, .inr (0, [.ref a, .ref b, .int (nI n1)])), (a, .inl (cI, 768, .inl f1)), (b, .inl (cI, 768, .inl g1)), (r3, .inr (0, [.ref a3, .ref b3, .int (nI n3)])), (a3, .inl (cI, 768, .inl f3)), (b3, .inl (cI, 768, .inl g3))], rfl, ⟨n1, f1, g1, rfl, rfl, by omega, h2.iff (fun c => by rw [show k = n3 from (by omega), hI c])⟩, by rw [ht9]; exact hP, va_K.moved hW9.alike hK, hD⟩, hS.F ht9⟩) hS.2.2 dX1_join_51
  · rw [nI_leI (by omega) (by omega)] at c_10
    have hok := hO.1 k (by omega)
    refine lv_aload_n hx hb dX1_join_13 rfl (lv_at hl 0 rfl) ?_
    refine va_get (D := (dC, dI)) (ci := 1) (v := .ref r) (C := RX1) (T := TX1) (N := 3) hx hb hts (by decide +kernel) hown hK hP 0 rfl rfl 0 (by decide) (hts (.fieldLink RX1 10 "CharRows" "held" "LCharRows$Ranges;") (by decide +kernel)) (fun _ h9 => h9) rfl dX1_join_14 ?_
    refine lv_aload_n hx hb dX1_join_17 rfl (lv_at hl 0 rfl) ?_
    refine va_get (D := (dC, dI)) (ci := 1) (v := .ref r3) (C := RX1) (T := TX1) (N := 3) hx hb hts (by decide +kernel) hown hK hP 0 rfl rfl 2 (by decide) (hts (.fieldLink RX1 19 "CharRows" "kept" "LCharRows$Ranges;") (by decide +kernel)) (fun _ h9 => h9) rfl dX1_join_18 ?_
    refine va_getN (D := (dC, dI)) (ci := 0) (v := .ref a3) (C := RX0) (T := TX0) (N := 3) hx hb hts (by decide +kernel) hown hK hP 4 rfl rfl 0 (by decide) (va_Nw.use rfl (hN _ nw_47)) (fun _ h9 => h9) rfl dX1_join_21 ?_
    refine lv_iload_n hx hb dX1_join_24 rfl (lv_at hl 1 rfl) ?_
    refine va_iald hx hb hK hP 5 0 rfl rfl (vp_in_nI (by omega) (by omega)) dX1_join_25 ?_
    refine cr_top (y := nI (lo k)) (by rw [nI_clamp (by omega)]; exact (hR _ (by omega)).1) ?_
    refine lv_aload_n hx hb dX1_join_26 rfl (lv_at hl 0 rfl) ?_
    refine va_get (D := (dC, dI)) (ci := 1) (v := .ref r3) (C := RX1) (T := TX1) (N := 3) hx hb hts (by decide +kernel) hown hK hP 0 rfl rfl 2 (by decide) (hts (.fieldLink RX1 19 "CharRows" "kept" "LCharRows$Ranges;") (by decide +kernel)) (fun _ h9 => h9) rfl dX1_join_27 ?_
    refine va_getN (D := (dC, dI)) (ci := 0) (v := .ref b3) (C := RX0) (T := TX0) (N := 3) hx hb hts (by decide +kernel) hown hK hP 4 rfl rfl 1 (by decide) (va_Nw.use rfl (hN _ nw_51)) (fun _ h9 => h9) rfl dX1_join_30 ?_
    refine lv_iload_n hx hb dX1_join_33 rfl (lv_at hl 1 rfl) ?_
    refine va_iald hx hb hK hP 6 0 rfl rfl (vp_in_nI (by omega) (by omega)) dX1_join_34 ?_
    refine cr_top (y := nI (hi k)) (by rw [nI_clamp (by omega)]; exact (hR _ (by omega)).2) ?_
    have hPc := hP.sub (ws' := [(r, .inr (0, [.ref a, .ref b, .int (nI n1)])), (a, .inl (cI, 768, .inl f1)), (b, .inl (cI, 768, .inl g1))]) [1, 2, 3] rfl
    have hDc := hD.sub (ws' := [(r, .inr (0, [.ref a, .ref b, .int (nI n1)])), (a, .inl (cI, 768, .inl f1)), (b, .inl (cI, 768, .inl g1))]) [1, 2, 3] (by decide) rfl
    have hFc := va_free (wc := [(r, .inr (0, [.ref a, .ref b, .int (nI n1)])), (a, .inl (cI, 768, .inl f1)), (b, .inl (cI, 768, .inl g1))]) hD hS hA [1, 2, 3] rfl
    refine va_callv (va_runVN (As := [.int (nI (lo k)), .int (nI (hi k))]) (rest := []) ⟨hx, hb, hml, hown, hts⟩ (c_put l dC dI _ r a b cI n1 f1 g1 _ h2 (by omega) (nI (lo k)) (nI (hi k)) (by rw [nI_toInt (by omega), nI_toInt (by omega)]; omega)) (⟨va_cnB (host := "CharRows") 2 hts gX1_join_X0_put_n58 rfl rfl rfl (hN _ nw_58) (hts (.initialized RX0) (by decide +kernel)) (by decide +kernel) ⟨Nat.le_of_ble_eq_true rfl, Nat.le_of_ble_eq_true rfl⟩, hts (.instanceMethod yX0_put) (by decide +kernel), hts (.selects RX0 yX0_put yX0_put) (by decide +kernel)⟩) (cr_preV hPc hK hDc (ci := 0) (q0 := 0) rfl rfl) rfl rfl hl.1 rfl (lv_room (Nat.le_of_ble_eq_true rfl)) dX1_join_35 ⟨Nat.zero_le _, Nat.zero_le _⟩) hS (fun q _ h => hFc q h) hFc (fun u_35 t_35 H_35 locs ht_35 hvm_35 hw_35 hB_35 hz_35 hk_35 hS => ?_)
    obtain ⟨n2, f2, g2, rfl, hn2, hSet2⟩ := hw_35
    obtain ⟨hP, hD⟩ := cr_back (wr := [(x, .inr (1, [.ref r, .ref r2, .ref r3])), (r3, .inr (0, [.ref a3, .ref b3, .int (nI n3)])), (a3, .inl (cI, 768, .inl f3)), (b3, .inl (cI, 768, .inl g3))]) (w1 := [(r, .inr (0, [.ref a, .ref b, .int (nI n2)])), (a, .inl (cI, 768, .inl f2)), (b, .inl (cI, 768, .inl g2))]) hP hD [1, 2, 3] [0, 4, 5, 6] rfl rfl (by decide) (by decide) hk_35 hFc hB_35 ht_35
    clear hPc hDc hFc
    generalize H_35 = H at hP hS ⊢
    have hP := hP.sub (ws' := [(x, .inr (1, [.ref r, .ref r2, .ref r3])), (r, .inr (0, [.ref a, .ref b, .int (nI n2)])), (a, .inl (cI, 768, .inl f2)), (b, .inl (cI, 768, .inl g2)), (r3, .inr (0, [.ref a3, .ref b3, .int (nI n3)])), (a3, .inl (cI, 768, .inl f3)), (b3, .inl (cI, 768, .inl g3))]) [0, 4, 5, 6, 1, 2, 3] rfl
    have hD := hD.sub (ws' := [(x, .inr (1, [.ref r, .ref r2, .ref r3])), (r, .inr (0, [.ref a, .ref b, .int (nI n2)])), (a, .inl (cI, 768, .inl f2)), (b, .inl (cI, 768, .inl g2)), (r3, .inr (0, [.ref a3, .ref b3, .int (nI n3)])), (a3, .inl (cI, 768, .inl f3)), (b3, .inl (cI, 768, .inl g3))]) [0, 4, 5, 6, 1, 2, 3] (by decide) rfl
    refine lv_iinc (v := nI (k + 1)) (lv' := [(1, .int (nI (k + 1))), (0, .ref x)]) hx hb dX1_join_38 hl (k := 1) rfl (nI_add k 1) (by decide) rfl (fun ls hl => ?_)
    refine lv_goto (tgt := 2) hx hb dX1_join_41 (by decide) ?_
    exact ih2 (k + 1) n2 f2 g2 _ _ _ ⟨⟨by omega, hSet2.iff (cr_join_step hO (by omega))⟩, hP, hD, hS, lv_sub hl [1, 0] rfl⟩ (by omega)

set_option maxHeartbeats 4000000 in
set_option maxRecDepth 100000 in
theorem c_rows (l : Launch) (dC : Nat → ClassId) (dI : Nat → Nat → Nat) (sz : Nat) (x r r2 r3 a b : Nat) (cI : ClassId) (n : Nat) (f g : Nat → Int32) (lo hi : Nat → Nat) (hR : cr_Rp n lo hi f g) (hO : cr_Ok n lo hi) (hn : n ≤ 768) : Met l yX1_rows wsX1_rows ({ frames := 5, cells := 0, slots := 0, locals := 180 }) (va_Pc [.ref x] (cr_preN dC dI [(cI, .int)] [(x, .inr (1, [.ref r, .ref r2, .ref r3])), (r, .inr (0, [.ref a, .ref b, .int (nI n)])), (a, .inl (cI, 768, .inl f)), (b, .inl (cI, 768, .inl g))] sz)) (va_Qi (fun (rr : Int32) (u : va_W) => u = [(x, .inr (1, [.ref r, .ref r2, .ref r3])), (r, .inr (0, [.ref a, .ref b, .int (nI n)])), (a, .inl (cI, 768, .inl f)), (b, .inl (cI, 768, .inl g))] ∧ rr = nI (cr_tot lo hi n)) (cr_at dC dI [(cI, .int)] (va_A [(x, .inr (1, [.ref r, .ref r2, .ref r3])), (r, .inr (0, [.ref a, .ref b, .int (nI n)])), (a, .inl (cI, 768, .inl f)), (b, .inl (cI, 768, .inl g))] sz)) (va_A [(x, .inr (1, [.ref r, .ref r2, .ref r3])), (r, .inr (0, [.ref a, .ref b, .int (nI n)])), (a, .inl (cI, 768, .inl f)), (b, .inl (cI, 768, .inl g))] sz)) 0 0 (va_A [(x, .inr (1, [.ref r, .ref r2, .ref r3])), (r, .inr (0, [.ref a, .ref b, .int (nI n)])), (a, .inl (cI, 768, .inl f)), (b, .inl (cI, 768, .inl g))] sz) := by
  refine Met.ofW (cc := cX1_rows) (maxL := 3) (ret := (some .int)) (by decide) rfl ?_
  intro p e s m args below meth c s₁ B hml hv
  obtain ⟨rfl, ⟨hsz, hP, hK, hD0⟩, hN⟩ := hv
  have hx := B.exec
  have hb := B.bytes
  have hr := B.returns
  have hts := atoms_spec (ws := wsX1_rows) B.pre
  have hown : s.vm.findClass RX1 = some m.cls := findClass_of_methodNamed B.named
  have hlocks := B.notSynchronized
  subst hsz
  have hD := hD0.self (sz := s.heap.size)
  generalize hAe : va_A [(x, .inr (1, [.ref r, .ref r2, .ref r3])), (r, .inr (0, [.ref a, .ref b, .int (nI n)])), (a, .inl (cI, 768, .inl f)), (b, .inl (cI, 768, .inl g))] s.heap.size = A at hD ⊢
  have hA : ∀ q : Nat, s.heap.size ≤ q → A q := fun q h => by rw [← hAe]; exact Or.inr h
  have hS : va_S A s.heap s.heap [] := va_S.rf
  have hP : va_P (dC, dI) crCl [(x, .inr (1, [.ref r, .ref r2, .ref r3])), (r, .inr (0, [.ref a, .ref b, .int (nI n)])), (a, .inl (cI, 768, .inl f)), (b, .inl (cI, 768, .inl g))] s.heap := hP
  have hl := lv_entry ([.ref x]) (n := 3) (Nat.le_of_ble_eq_true rfl)
  rw [lg_entry_eq]
  generalize (lg_sl ([.ref x]) ++ List.replicate (3 - (lg_sl ([.ref x])).length) Slot.unset).toArray = ls at hl ⊢
  have hl : lv_has ls 3 [(0, .ref x)] := hl
  refine lv_iconst (v := nI 0) hx hb dX1_rows_0 (by decide) ?_
  refine lv_istore_n (lv' := [(1, .int (nI 0)), (0, .ref x)]) hx hb dX1_rows_1 rfl hl (by decide) rfl (fun ls hl => ?_)
  refine lv_iconst (v := nI 0) hx hb dX1_rows_2 (by decide) ?_
  refine lv_istore_n (lv' := [(2, .int (nI 0)), (1, .int (nI 0)), (0, .ref x)]) hx hb dX1_rows_3 rfl hl (by decide) rfl (fun ls hl => ?_)
  refine cr_lp1 (fun (k : Nat) => n - k) (fun (k : Nat) H locs ls => (k ≤ n) ∧ va_P (dC, dI) crCl [(x, .inr (1, [.ref r, .ref r2, .ref r3])), (r, .inr (0, [.ref a, .ref b, .int (nI n)])), (a, .inl (cI, 768, .inl f)), (b, .inl (cI, 768, .inl g))] H ∧ va_D A [(x, .inr (1, [.ref r, .ref r2, .ref r3])), (r, .inr (0, [.ref a, .ref b, .int (nI n)])), (a, .inl (cI, 768, .inl f)), (b, .inl (cI, 768, .inl g))] ∧ va_S A s.heap H locs ∧ lv_has ls 3 [(0, .ref x), (1, .int (nI (cr_tot lo hi k))), (2, .int (nI k))]) ?_ 0 ⟨Nat.zero_le _, hP, hD, hS, lv_sub hl [2, 1, 0] rfl⟩
  intro k H locs ls hI4 ih4
  obtain ⟨h1, hP, hD, hS, hl⟩ := hI4
  refine lv_iload_n hx hb dX1_rows_4 rfl (lv_at hl 2 rfl) ?_
  refine lv_aload_n hx hb dX1_rows_5 rfl (lv_at hl 0 rfl) ?_
  refine va_get (D := (dC, dI)) (ci := 1) (v := .ref r) (C := RX1) (T := TX1) (N := 3) hx hb hts (by decide +kernel) hown hK hP 0 rfl rfl 0 (by decide) (hts (.fieldLink RX1 10 "CharRows" "held" "LCharRows$Ranges;") (by decide +kernel)) (fun _ h9 => h9) rfl dX1_rows_6 ?_
  refine va_getN (D := (dC, dI)) (ci := 0) (v := .int (nI n)) (C := RX0) (T := TX0) (N := 3) hx hb hts (by decide +kernel) hown hK hP 1 rfl rfl 2 (by decide) (va_Nw.use rfl (hN _ nw_34)) (fun _ h9 => h9) rfl dX1_rows_9 ?_
  refine lv_icmp_ge (tgt := 45) hx hb dX1_rows_12 (by decide) (fun c_12 => ?_) (fun c_12 => ?_)
  · rw [nI_leI (by omega) (by omega)] at c_12
    obtain rfl : n = k := by omega
    refine lv_iload_n hx hb dX1_rows_45 rfl (lv_at hl 1 rfl) ?_
    exact W.iret (v := nI (cr_tot lo hi n)) hx hb hr (fun t9 ht9 hW9 => ⟨⟨nI (cr_tot lo hi n), [(x, .inr (1, [.ref r, .ref r2, .ref r3])), (r, .inr (0, [.ref a, .ref b, .int (nI n)])), (a, .inl (cI, 768, .inl f)), (b, .inl (cI, 768, .inl g))], rfl, ⟨rfl, rfl⟩, by rw [ht9]; exact hP, va_K.moved hW9.alike hK, hD⟩, hS.F ht9⟩) hS.2.2 dX1_rows_46
  · rw [nI_leI (by omega) (by omega)] at c_12
    have hok := hO.1 k (by omega)
    refine lv_iload_n hx hb dX1_rows_15 rfl (lv_at hl 1 rfl) ?_
    refine lv_aload_n hx hb dX1_rows_16 rfl (lv_at hl 0 rfl) ?_
    refine va_get (D := (dC, dI)) (ci := 1) (v := .ref r) (C := RX1) (T := TX1) (N := 3) hx hb hts (by decide +kernel) hown hK hP 0 rfl rfl 0 (by decide) (hts (.fieldLink RX1 10 "CharRows" "held" "LCharRows$Ranges;") (by decide +kernel)) (fun _ h9 => h9) rfl dX1_rows_17 ?_
    refine va_getN (D := (dC, dI)) (ci := 0) (v := .ref a) (C := RX0) (T := TX0) (N := 3) hx hb hts (by decide +kernel) hown hK hP 1 rfl rfl 0 (by decide) (va_Nw.use rfl (hN _ nw_47)) (fun _ h9 => h9) rfl dX1_rows_20 ?_
    refine lv_iload_n hx hb dX1_rows_23 rfl (lv_at hl 2 rfl) ?_
    refine va_iald hx hb hK hP 2 0 rfl rfl (vp_in_nI (by omega) (by omega)) dX1_rows_24 ?_
    refine cr_top (y := nI (lo k)) (by rw [nI_clamp (by omega)]; exact (hR _ (by omega)).1) ?_
    refine lv_aload_n hx hb dX1_rows_25 rfl (lv_at hl 0 rfl) ?_
    refine va_get (D := (dC, dI)) (ci := 1) (v := .ref r) (C := RX1) (T := TX1) (N := 3) hx hb hts (by decide +kernel) hown hK hP 0 rfl rfl 0 (by decide) (hts (.fieldLink RX1 10 "CharRows" "held" "LCharRows$Ranges;") (by decide +kernel)) (fun _ h9 => h9) rfl dX1_rows_26 ?_
    refine va_getN (D := (dC, dI)) (ci := 0) (v := .ref b) (C := RX0) (T := TX0) (N := 3) hx hb hts (by decide +kernel) hown hK hP 1 rfl rfl 1 (by decide) (va_Nw.use rfl (hN _ nw_51)) (fun _ h9 => h9) rfl dX1_rows_29 ?_
    refine lv_iload_n hx hb dX1_rows_32 rfl (lv_at hl 2 rfl) ?_
    refine va_iald hx hb hK hP 3 0 rfl rfl (vp_in_nI (by omega) (by omega)) dX1_rows_33 ?_
    refine cr_top (y := nI (hi k)) (by rw [nI_clamp (by omega)]; exact (hR _ (by omega)).2) ?_
    have hPc := hP.sub (ws' := []) [] rfl
    have hDc := hD.sub (ws' := []) [] (by decide) rfl
    have hFc := va_free (wc := []) hD hS hA [] rfl
    refine va_calli (va_runS (As := [.int (nI (lo k)), .int (nI (hi k))]) (rest := [.int (nI (cr_tot lo hi k))]) ⟨hx, hb, hml, hown, hts⟩ (c_countRows l dC dI _ (lo k) (hi k) (by omega) (by omega)) (va_cwS 2 hts gX1_rows_X1_countRows rfl rfl rfl (by decide +kernel) ⟨Nat.le_of_ble_eq_true rfl, Nat.le_of_ble_eq_true rfl⟩) (cr_preS hPc (hK.sub (tys' := []) [] rfl) hDc) rfl rfl hl.1 rfl (lv_room (Nat.le_of_ble_eq_true rfl)) dX1_rows_34 ⟨Nat.zero_le _, Nat.zero_le _⟩) hS (fun q _ h => hFc q h) hFc (fun r_34 u_34 t_34 H_34 locs ht_34 hvm_34 hw_34 hB_34 hz_34 hk_34 hS => ?_)
    obtain ⟨rfl, rfl⟩ := hw_34
    obtain ⟨hP, hD⟩ := cr_back (wr := [(x, .inr (1, [.ref r, .ref r2, .ref r3])), (r, .inr (0, [.ref a, .ref b, .int (nI n)])), (a, .inl (cI, 768, .inl f)), (b, .inl (cI, 768, .inl g))]) (w1 := []) hP hD [] [0, 1, 2, 3] rfl rfl (by decide) (by decide) hk_34 hFc hB_34 ht_34
    clear hPc hDc hFc
    generalize H_34 = H at hP hS ⊢
    have hP := hP.sub (ws' := [(x, .inr (1, [.ref r, .ref r2, .ref r3])), (r, .inr (0, [.ref a, .ref b, .int (nI n)])), (a, .inl (cI, 768, .inl f)), (b, .inl (cI, 768, .inl g))]) [0, 1, 2, 3] rfl
    have hD := hD.sub (ws' := [(x, .inr (1, [.ref r, .ref r2, .ref r3])), (r, .inr (0, [.ref a, .ref b, .int (nI n)])), (a, .inl (cI, 768, .inl f)), (b, .inl (cI, 768, .inl g))]) [0, 1, 2, 3] (by decide) rfl
    refine lv_iadd hx hb dX1_rows_37 ?_
    refine cr_top (y := nI ((cr_tot lo hi k) + (cr_N (lo k) (hi k)))) (nI_add (cr_tot lo hi k) (cr_N (lo k) (hi k))) ?_
    refine lv_istore_n (lv' := [(1, .int (nI ((cr_tot lo hi k) + (cr_N (lo k) (hi k))))), (0, .ref x), (2, .int (nI k))]) hx hb dX1_rows_38 rfl hl (by decide) rfl (fun ls hl => ?_)
    refine lv_iinc (v := nI (k + 1)) (lv' := [(2, .int (nI (k + 1))), (1, .int (nI ((cr_tot lo hi k) + (cr_N (lo k) (hi k))))), (0, .ref x)]) hx hb dX1_rows_39 hl (k := 2) rfl (nI_add k 1) (by decide) rfl (fun ls hl => ?_)
    refine lv_goto (tgt := 4) hx hb dX1_rows_42 (by decide) ?_
    exact ih4 (k + 1) _ _ _ ⟨by omega, hP, hD, hS, lv_sub hl [2, 1, 0] rfl⟩ (by omega)

set_option maxHeartbeats 4000000 in
set_option maxRecDepth 100000 in
theorem c_firstOfRow (l : Launch) (dC : Nat → ClassId) (dI : Nat → Nat → Nat) (sz : Nat) (x r r2 r3 a b : Nat) (cI : ClassId) (n : Nat) (f g : Nat → Int32) (lo hi : Nat → Nat) (hR : cr_Rp n lo hi f g) (hO : cr_Ok n lo hi) (hn : n ≤ 768) (z : Int32) : Met l yX1_firstOfRow wsX1_firstOfRow ({ frames := 5, cells := 0, slots := 0, locals := 180 }) (va_Pc [.ref x, .int z] (cr_preN dC dI [(cI, .int)] [(x, .inr (1, [.ref r, .ref r2, .ref r3])), (r, .inr (0, [.ref a, .ref b, .int (nI n)])), (a, .inl (cI, 768, .inl f)), (b, .inl (cI, 768, .inl g))] sz)) (va_Qi (fun (rr : Int32) (u : va_W) => u = [(x, .inr (1, [.ref r, .ref r2, .ref r3])), (r, .inr (0, [.ref a, .ref b, .int (nI n)])), (a, .inl (cI, 768, .inl f)), (b, .inl (cI, 768, .inl g))] ∧ cr_first_of n lo hi z rr) (cr_at dC dI [(cI, .int)] (va_A [(x, .inr (1, [.ref r, .ref r2, .ref r3])), (r, .inr (0, [.ref a, .ref b, .int (nI n)])), (a, .inl (cI, 768, .inl f)), (b, .inl (cI, 768, .inl g))] sz)) (va_A [(x, .inr (1, [.ref r, .ref r2, .ref r3])), (r, .inr (0, [.ref a, .ref b, .int (nI n)])), (a, .inl (cI, 768, .inl f)), (b, .inl (cI, 768, .inl g))] sz)) 0 0 (va_A [(x, .inr (1, [.ref r, .ref r2, .ref r3])), (r, .inr (0, [.ref a, .ref b, .int (nI n)])), (a, .inl (cI, 768, .inl f)), (b, .inl (cI, 768, .inl g))] sz) := by
  refine Met.ofW (cc := cX1_firstOfRow) (maxL := 5) (ret := (some .int)) (by decide) rfl ?_
  intro p e s m args below meth c s₁ B hml hv
  obtain ⟨rfl, ⟨hsz, hP, hK, hD0⟩, hN⟩ := hv
  have hx := B.exec
  have hb := B.bytes
  have hr := B.returns
  have hts := atoms_spec (ws := wsX1_firstOfRow) B.pre
  have hown : s.vm.findClass RX1 = some m.cls := findClass_of_methodNamed B.named
  have hlocks := B.notSynchronized
  subst hsz
  have hD := hD0.self (sz := s.heap.size)
  generalize hAe : va_A [(x, .inr (1, [.ref r, .ref r2, .ref r3])), (r, .inr (0, [.ref a, .ref b, .int (nI n)])), (a, .inl (cI, 768, .inl f)), (b, .inl (cI, 768, .inl g))] s.heap.size = A at hD ⊢
  have hA : ∀ q : Nat, s.heap.size ≤ q → A q := fun q h => by rw [← hAe]; exact Or.inr h
  have hS : va_S A s.heap s.heap [] := va_S.rf
  have hP : va_P (dC, dI) crCl [(x, .inr (1, [.ref r, .ref r2, .ref r3])), (r, .inr (0, [.ref a, .ref b, .int (nI n)])), (a, .inl (cI, 768, .inl f)), (b, .inl (cI, 768, .inl g))] s.heap := hP
  have hl := lv_entry ([.ref x, .int z]) (n := 5) (Nat.le_of_ble_eq_true rfl)
  rw [lg_entry_eq]
  generalize (lg_sl ([.ref x, .int z]) ++ List.replicate (5 - (lg_sl ([.ref x, .int z])).length) Slot.unset).toArray = ls at hl ⊢
  have hl : lv_has ls 5 [(0, .ref x), (1, .int z)] := hl
  refine lv_iload_n hx hb dX1_firstOfRow_0 rfl (lv_at hl 1 rfl) ?_
  refine lv_if_ge (tgt := 6) hx hb dX1_firstOfRow_1 (by decide) (fun c_1 => ?_) (fun c_1 => ?_)
  · obtain ⟨zz, hzz, rfl⟩ := cr_of (x := z) (by rw [Int32.le_iff_toInt_le, Int32.toInt_zero] at c_1; exact c_1)
    refine lv_iload_n hx hb dX1_firstOfRow_6 rfl (lv_at hl 1 rfl) ?_
    refine lv_istore_n (lv' := [(2, .int (nI zz)), (0, .ref x), (1, .int (nI zz))]) hx hb dX1_firstOfRow_7 rfl hl (by decide) rfl (fun ls hl => ?_)
    refine lv_iconst (v := nI 0) hx hb dX1_firstOfRow_8 (by decide) ?_
    refine lv_istore_n (lv' := [(3, .int (nI 0)), (2, .int (nI zz)), (0, .ref x), (1, .int (nI zz))]) hx hb dX1_firstOfRow_9 rfl hl (by decide) rfl (fun ls hl => ?_)
    refine cr_lp2 (fun (k : Nat) (t : Nat) => n - k) (fun (k : Nat) (t : Nat) H locs ls => (k ≤ n ∧ zz = cr_tot lo hi k + t) ∧ va_P (dC, dI) crCl [(x, .inr (1, [.ref r, .ref r2, .ref r3])), (r, .inr (0, [.ref a, .ref b, .int (nI n)])), (a, .inl (cI, 768, .inl f)), (b, .inl (cI, 768, .inl g))] H ∧ va_D A [(x, .inr (1, [.ref r, .ref r2, .ref r3])), (r, .inr (0, [.ref a, .ref b, .int (nI n)])), (a, .inl (cI, 768, .inl f)), (b, .inl (cI, 768, .inl g))] ∧ va_S A s.heap H locs ∧ lv_has ls 5 [(0, .ref x), (1, .int (nI zz)), (2, .int (nI t)), (3, .int (nI k))]) ?_ 0 zz ⟨⟨Nat.zero_le _, (Nat.zero_add _).symm⟩, hP, hD, hS, lv_sub hl [2, 3, 1, 0] rfl⟩
    intro k t H locs ls hI10 ih10
    obtain ⟨⟨h1, h2⟩, hP, hD, hS, hl⟩ := hI10
    refine lv_iload_n hx hb dX1_firstOfRow_10 rfl (lv_at hl 3 rfl) ?_
    refine lv_aload_n hx hb dX1_firstOfRow_11 rfl (lv_at hl 0 rfl) ?_
    refine va_get (D := (dC, dI)) (ci := 1) (v := .ref r) (C := RX1) (T := TX1) (N := 3) hx hb hts (by decide +kernel) hown hK hP 0 rfl rfl 0 (by decide) (hts (.fieldLink RX1 10 "CharRows" "held" "LCharRows$Ranges;") (by decide +kernel)) (fun _ h9 => h9) rfl dX1_firstOfRow_12 ?_
    refine va_getN (D := (dC, dI)) (ci := 0) (v := .int (nI n)) (C := RX0) (T := TX0) (N := 3) hx hb hts (by decide +kernel) hown hK hP 1 rfl rfl 2 (by decide) (va_Nw.use rfl (hN _ nw_34)) (fun _ h9 => h9) rfl dX1_firstOfRow_15 ?_
    refine lv_icmp_ge (tgt := 84) hx hb dX1_firstOfRow_18 (by decide) (fun c_18 => ?_) (fun c_18 => ?_)
    · rw [nI_leI (by omega) (by omega)] at c_18
      refine lv_iconst (v := (-1)) hx hb dX1_firstOfRow_84 (by decide) ?_
      exact W.iret (v := (-1)) hx hb hr (fun t9 ht9 hW9 => ⟨⟨(-1), [(x, .inr (1, [.ref r, .ref r2, .ref r3])), (r, .inr (0, [.ref a, .ref b, .int (nI n)])), (a, .inl (cI, 768, .inl f)), (b, .inl (cI, 768, .inl g))], rfl, ⟨rfl, Or.inr ⟨zz, hzz, rfl, Or.inl ⟨by rw [← show k = n from (by omega)]; omega, rfl⟩⟩⟩, by rw [ht9]; exact hP, va_K.moved hW9.alike hK, hD⟩, hS.F ht9⟩) hS.2.2 dX1_firstOfRow_85
    · rw [nI_leI (by omega) (by omega)] at c_18
      have hok := hO.1 k (by omega)
      have hNle := cr_N_le (lo k) (hi k)
      refine lv_aload_n hx hb dX1_firstOfRow_21 rfl (lv_at hl 0 rfl) ?_
      refine va_get (D := (dC, dI)) (ci := 1) (v := .ref r) (C := RX1) (T := TX1) (N := 3) hx hb hts (by decide +kernel) hown hK hP 0 rfl rfl 0 (by decide) (hts (.fieldLink RX1 10 "CharRows" "held" "LCharRows$Ranges;") (by decide +kernel)) (fun _ h9 => h9) rfl dX1_firstOfRow_22 ?_
      refine va_getN (D := (dC, dI)) (ci := 0) (v := .ref a) (C := RX0) (T := TX0) (N := 3) hx hb hts (by decide +kernel) hown hK hP 1 rfl rfl 0 (by decide) (va_Nw.use rfl (hN _ nw_47)) (fun _ h9 => h9) rfl dX1_firstOfRow_25 ?_
      refine lv_iload_n hx hb dX1_firstOfRow_28 rfl (lv_at hl 3 rfl) ?_
      refine va_iald hx hb hK hP 2 0 rfl rfl (vp_in_nI (by omega) (by omega)) dX1_firstOfRow_29 ?_
      refine cr_top (y := nI (lo k)) (by rw [nI_clamp (by omega)]; exact (hR _ (by omega)).1) ?_
      refine lv_aload_n hx hb dX1_firstOfRow_30 rfl (lv_at hl 0 rfl) ?_
      refine va_get (D := (dC, dI)) (ci := 1) (v := .ref r) (C := RX1) (T := TX1) (N := 3) hx hb hts (by decide +kernel) hown hK hP 0 rfl rfl 0 (by decide) (hts (.fieldLink RX1 10 "CharRows" "held" "LCharRows$Ranges;") (by decide +kernel)) (fun _ h9 => h9) rfl dX1_firstOfRow_31 ?_
      refine va_getN (D := (dC, dI)) (ci := 0) (v := .ref b) (C := RX0) (T := TX0) (N := 3) hx hb hts (by decide +kernel) hown hK hP 1 rfl rfl 1 (by decide) (va_Nw.use rfl (hN _ nw_51)) (fun _ h9 => h9) rfl dX1_firstOfRow_34 ?_
      refine lv_iload_n hx hb dX1_firstOfRow_37 rfl (lv_at hl 3 rfl) ?_
      refine va_iald hx hb hK hP 3 0 rfl rfl (vp_in_nI (by omega) (by omega)) dX1_firstOfRow_38 ?_
      refine cr_top (y := nI (hi k)) (by rw [nI_clamp (by omega)]; exact (hR _ (by omega)).2) ?_
      have hPc := hP.sub (ws' := []) [] rfl
      have hDc := hD.sub (ws' := []) [] (by decide) rfl
      have hFc := va_free (wc := []) hD hS hA [] rfl
      refine va_calli (va_runS (As := [.int (nI (lo k)), .int (nI (hi k))]) (rest := []) ⟨hx, hb, hml, hown, hts⟩ (c_countRows l dC dI _ (lo k) (hi k) (by omega) (by omega)) (va_cwS 2 hts gX1_firstOfRow_X1_countRows rfl rfl rfl (by decide +kernel) ⟨Nat.le_of_ble_eq_true rfl, Nat.le_of_ble_eq_true rfl⟩) (cr_preS hPc (hK.sub (tys' := []) [] rfl) hDc) rfl rfl hl.1 rfl (lv_room (Nat.le_of_ble_eq_true rfl)) dX1_firstOfRow_39 ⟨Nat.zero_le _, Nat.zero_le _⟩) hS (fun q _ h => hFc q h) hFc (fun r_39 u_39 t_39 H_39 locs ht_39 hvm_39 hw_39 hB_39 hz_39 hk_39 hS => ?_)
      obtain ⟨rfl, rfl⟩ := hw_39
      obtain ⟨hP, hD⟩ := cr_back (wr := [(x, .inr (1, [.ref r, .ref r2, .ref r3])), (r, .inr (0, [.ref a, .ref b, .int (nI n)])), (a, .inl (cI, 768, .inl f)), (b, .inl (cI, 768, .inl g))]) (w1 := []) hP hD [] [0, 1, 2, 3] rfl rfl (by decide) (by decide) hk_39 hFc hB_39 ht_39
      clear hPc hDc hFc
      generalize H_39 = H at hP hS ⊢
      have hP := hP.sub (ws' := [(x, .inr (1, [.ref r, .ref r2, .ref r3])), (r, .inr (0, [.ref a, .ref b, .int (nI n)])), (a, .inl (cI, 768, .inl f)), (b, .inl (cI, 768, .inl g))]) [0, 1, 2, 3] rfl
      have hD := hD.sub (ws' := [(x, .inr (1, [.ref r, .ref r2, .ref r3])), (r, .inr (0, [.ref a, .ref b, .int (nI n)])), (a, .inl (cI, 768, .inl f)), (b, .inl (cI, 768, .inl g))]) [0, 1, 2, 3] (by decide) rfl
      refine lv_istore (lv' := [(4, .int (nI (cr_N (lo k) (hi k)))), (0, .ref x), (1, .int (nI zz)), (2, .int (nI t)), (3, .int (nI k))]) hx hb dX1_firstOfRow_42 hl (by decide) rfl (fun ls hl => ?_)
      refine lv_iload_n hx hb dX1_firstOfRow_44 rfl (lv_at hl 3 rfl) ?_
      refine lv_iload hx hb dX1_firstOfRow_45 (lv_at hl 0 rfl) ?_
      refine lv_icmp_ge (tgt := 73) hx hb dX1_firstOfRow_47 (by decide) (fun c_47 => ?_) (fun c_47 => ?_)
      · rw [nI_leI (by omega) (by omega)] at c_47
        refine lv_iload_n hx hb dX1_firstOfRow_73 rfl (lv_at hl 3 rfl) ?_
        refine lv_iload hx hb dX1_firstOfRow_74 (lv_at hl 0 rfl) ?_
        refine lv_isub hx hb dX1_firstOfRow_76 ?_
        refine cr_top (y := nI (t - (cr_N (lo k) (hi k)))) (pk_sub (by omega)) ?_
        refine lv_istore_n (lv' := [(2, .int (nI (t - (cr_N (lo k) (hi k))))), (4, .int (nI (cr_N (lo k) (hi k)))), (0, .ref x), (1, .int (nI zz)), (3, .int (nI k))]) hx hb dX1_firstOfRow_77 rfl hl (by decide) rfl (fun ls hl => ?_)
        refine lv_iinc (v := nI (k + 1)) (lv' := [(3, .int (nI (k + 1))), (2, .int (nI (t - (cr_N (lo k) (hi k))))), (4, .int (nI (cr_N (lo k) (hi k)))), (0, .ref x), (1, .int (nI zz))]) hx hb dX1_firstOfRow_78 hl (k := 4) rfl (nI_add k 1) (by decide) rfl (fun ls hl => ?_)
        refine lv_goto (tgt := 10) hx hb dX1_firstOfRow_81 (by decide) ?_
        exact ih10 (k + 1) (t - cr_N (lo k) (hi k)) _ _ _ ⟨⟨by omega, by rw [show cr_tot lo hi (k + 1) = cr_tot lo hi k + cr_N (lo k) (hi k) from rfl]; omega⟩, hP, hD, hS, lv_sub hl [3, 4, 1, 0] rfl⟩ (by omega)
      · rw [nI_leI (by omega) (by omega)] at c_47
        refine lv_aload_n hx hb dX1_firstOfRow_50 rfl (lv_at hl 1 rfl) ?_
        refine va_get (D := (dC, dI)) (ci := 1) (v := .ref r) (C := RX1) (T := TX1) (N := 3) hx hb hts (by decide +kernel) hown hK hP 0 rfl rfl 0 (by decide) (hts (.fieldLink RX1 10 "CharRows" "held" "LCharRows$Ranges;") (by decide +kernel)) (fun _ h9 => h9) rfl dX1_firstOfRow_51 ?_
        refine va_getN (D := (dC, dI)) (ci := 0) (v := .ref a) (C := RX0) (T := TX0) (N := 3) hx hb hts (by decide +kernel) hown hK hP 1 rfl rfl 0 (by decide) (va_Nw.use rfl (hN _ nw_47)) (fun _ h9 => h9) rfl dX1_firstOfRow_54 ?_
        refine lv_iload_n hx hb dX1_firstOfRow_57 rfl (lv_at hl 4 rfl) ?_
        refine va_iald hx hb hK hP 2 0 rfl rfl (vp_in_nI (by omega) (by omega)) dX1_firstOfRow_58 ?_
        refine cr_top (y := nI (lo k)) (by rw [nI_clamp (by omega)]; exact (hR _ (by omega)).1) ?_
        refine lv_aload_n hx hb dX1_firstOfRow_59 rfl (lv_at hl 1 rfl) ?_
        refine va_get (D := (dC, dI)) (ci := 1) (v := .ref r) (C := RX1) (T := TX1) (N := 3) hx hb hts (by decide +kernel) hown hK hP 0 rfl rfl 0 (by decide) (hts (.fieldLink RX1 10 "CharRows" "held" "LCharRows$Ranges;") (by decide +kernel)) (fun _ h9 => h9) rfl dX1_firstOfRow_60 ?_
        refine va_getN (D := (dC, dI)) (ci := 0) (v := .ref b) (C := RX0) (T := TX0) (N := 3) hx hb hts (by decide +kernel) hown hK hP 1 rfl rfl 1 (by decide) (va_Nw.use rfl (hN _ nw_51)) (fun _ h9 => h9) rfl dX1_firstOfRow_63 ?_
        refine lv_iload_n hx hb dX1_firstOfRow_66 rfl (lv_at hl 4 rfl) ?_
        refine va_iald hx hb hK hP 3 0 rfl rfl (vp_in_nI (by omega) (by omega)) dX1_firstOfRow_67 ?_
        refine cr_top (y := nI (hi k)) (by rw [nI_clamp (by omega)]; exact (hR _ (by omega)).2) ?_
        refine lv_iload_n hx hb dX1_firstOfRow_68 rfl (lv_at hl 3 rfl) ?_
        have hPc := hP.sub (ws' := []) [] rfl
        have hDc := hD.sub (ws' := []) [] (by decide) rfl
        have hFc := va_free (wc := []) hD hS hA [] rfl
        refine va_calli (va_runS (As := [.int (nI (lo k)), .int (nI (hi k)), .int (nI t)]) (rest := []) ⟨hx, hb, hml, hown, hts⟩ (c_skipRows l dC dI _ (lo k) (hi k) t (by omega) (by omega) (by omega) (by omega)) (va_cwS 3 hts gX1_firstOfRow_X1_skipRows rfl rfl rfl (by decide +kernel) ⟨Nat.le_of_ble_eq_true rfl, Nat.le_of_ble_eq_true rfl⟩) (cr_preS hPc (hK.sub (tys' := []) [] rfl) hDc) rfl rfl hl.1 rfl (lv_room (Nat.le_of_ble_eq_true rfl)) dX1_firstOfRow_69 ⟨Nat.zero_le _, Nat.zero_le _⟩) hS (fun q _ h => hFc q h) hFc (fun r_69 u_69 t_69 H_69 locs ht_69 hvm_69 hw_69 hB_69 hz_69 hk_69 hS => ?_)
        obtain ⟨rfl, rfl⟩ := hw_69
        obtain ⟨hP, hD⟩ := cr_back (wr := [(x, .inr (1, [.ref r, .ref r2, .ref r3])), (r, .inr (0, [.ref a, .ref b, .int (nI n)])), (a, .inl (cI, 768, .inl f)), (b, .inl (cI, 768, .inl g))]) (w1 := []) hP hD [] [0, 1, 2, 3] rfl rfl (by decide) (by decide) hk_69 hFc hB_69 ht_69
        clear hPc hDc hFc
        generalize H_69 = H at hP hS ⊢
        have hP := hP.sub (ws' := [(x, .inr (1, [.ref r, .ref r2, .ref r3])), (r, .inr (0, [.ref a, .ref b, .int (nI n)])), (a, .inl (cI, 768, .inl f)), (b, .inl (cI, 768, .inl g))]) [0, 1, 2, 3] rfl
        have hD := hD.sub (ws' := [(x, .inr (1, [.ref r, .ref r2, .ref r3])), (r, .inr (0, [.ref a, .ref b, .int (nI n)])), (a, .inl (cI, 768, .inl f)), (b, .inl (cI, 768, .inl g))]) [0, 1, 2, 3] (by decide) rfl
        exact W.iret (v := nI (cr_go t (lo k) (hi k))) hx hb hr (fun t9 ht9 hW9 => ⟨⟨nI (cr_go t (lo k) (hi k)), [(x, .inr (1, [.ref r, .ref r2, .ref r3])), (r, .inr (0, [.ref a, .ref b, .int (nI n)])), (a, .inl (cI, 768, .inl f)), (b, .inl (cI, 768, .inl g))], rfl, ⟨rfl, Or.inr ⟨zz, hzz, rfl, Or.inr ⟨k, t, by omega, by omega, h2, rfl⟩⟩⟩, by rw [ht9]; exact hP, va_K.moved hW9.alike hK, hD⟩, hS.F ht9⟩) hS.2.2 dX1_firstOfRow_72
  · refine lv_iconst (v := (-1)) hx hb dX1_firstOfRow_4 (by decide) ?_
    exact W.iret (v := (-1)) hx hb hr (fun t9 ht9 hW9 => ⟨⟨(-1), [(x, .inr (1, [.ref r, .ref r2, .ref r3])), (r, .inr (0, [.ref a, .ref b, .int (nI n)])), (a, .inl (cI, 768, .inl f)), (b, .inl (cI, 768, .inl g))], rfl, ⟨rfl, Or.inl ⟨(by rw [cr_lt0]; rw [Int32.le_iff_toInt_le, Int32.toInt_zero] at c_1; omega), rfl⟩⟩, by rw [ht9]; exact hP, va_K.moved hW9.alike hK, hD⟩, hS.F ht9⟩) hS.2.2 dX1_firstOfRow_5

set_option maxHeartbeats 4000000 in
set_option maxRecDepth 100000 in
theorem c_turn (l : Launch) (dC : Nat → ClassId) (dI : Nat → Nat → Nat) (sz : Nat) (x r r2 r3 a b a2 b2 : Nat) (cI : ClassId) (n : Nat) (s2 : Int32) (f g f2 g2 : Nat → Int32) (S : Nat → Prop) (hSet : cr_Set n f g S) (P : List Nat) (hB : cr_Bd P S) (hbase : ∀ c, c ∈ cr_base → c ∈ P) (hPl : P.length ≤ 1400) : Met l yX1_turn wsX1_turn ({ frames := 6, cells := 0, slots := 0, locals := 220 }) (va_Pc [.ref x] (cr_preN dC dI [(cI, .int)] [(x, .inr (1, [.ref r, .ref r2, .ref r3])), (r, .inr (0, [.ref a, .ref b, .int (nI n)])), (a, .inl (cI, 768, .inl f)), (b, .inl (cI, 768, .inl g)), (r2, .inr (0, [.ref a2, .ref b2, .int s2])), (a2, .inl (cI, 768, .inl f2)), (b2, .inl (cI, 768, .inl g2))] sz)) (va_Qi (fun (rr : Int32) (u : va_W) => ∃ (n' : Nat) (f' g' : Nat → Int32), rr = nI n' ∧ u = [(x, .inr (1, [.ref r2, .ref r, .ref r3])), (r, .inr (0, [.ref a, .ref b, .int (nI n)])), (a, .inl (cI, 768, .inl f)), (b, .inl (cI, 768, .inl g)), (r2, .inr (0, [.ref a2, .ref b2, .int (nI n')])), (a2, .inl (cI, 768, .inl f')), (b2, .inl (cI, 768, .inl g'))] ∧ n' ≤ 768 ∧ cr_Set n' f' g' (fun c => cr_ch c ∧ ¬ S c)) (cr_at dC dI [(cI, .int)] (va_A [(x, .inr (1, [.ref r, .ref r2, .ref r3])), (r, .inr (0, [.ref a, .ref b, .int (nI n)])), (a, .inl (cI, 768, .inl f)), (b, .inl (cI, 768, .inl g)), (r2, .inr (0, [.ref a2, .ref b2, .int s2])), (a2, .inl (cI, 768, .inl f2)), (b2, .inl (cI, 768, .inl g2))] sz)) (va_A [(x, .inr (1, [.ref r, .ref r2, .ref r3])), (r, .inr (0, [.ref a, .ref b, .int (nI n)])), (a, .inl (cI, 768, .inl f)), (b, .inl (cI, 768, .inl g)), (r2, .inr (0, [.ref a2, .ref b2, .int s2])), (a2, .inl (cI, 768, .inl f2)), (b2, .inl (cI, 768, .inl g2))] sz)) 0 0 (va_A [(x, .inr (1, [.ref r, .ref r2, .ref r3])), (r, .inr (0, [.ref a, .ref b, .int (nI n)])), (a, .inl (cI, 768, .inl f)), (b, .inl (cI, 768, .inl g)), (r2, .inr (0, [.ref a2, .ref b2, .int s2])), (a2, .inl (cI, 768, .inl f2)), (b2, .inl (cI, 768, .inl g2))] sz) := by
  refine Met.ofW (cc := cX1_turn) (maxL := 5) (ret := (some .int)) (by decide) rfl ?_
  intro p e s m args below meth c s₁ B hml hv
  obtain ⟨rfl, ⟨hsz, hP, hK, hD0⟩, hN⟩ := hv
  have hx := B.exec
  have hb := B.bytes
  have hr := B.returns
  have hts := atoms_spec (ws := wsX1_turn) B.pre
  have hown : s.vm.findClass RX1 = some m.cls := findClass_of_methodNamed B.named
  have hlocks := B.notSynchronized
  subst hsz
  have hD := hD0.self (sz := s.heap.size)
  generalize hAe : va_A [(x, .inr (1, [.ref r, .ref r2, .ref r3])), (r, .inr (0, [.ref a, .ref b, .int (nI n)])), (a, .inl (cI, 768, .inl f)), (b, .inl (cI, 768, .inl g)), (r2, .inr (0, [.ref a2, .ref b2, .int s2])), (a2, .inl (cI, 768, .inl f2)), (b2, .inl (cI, 768, .inl g2))] s.heap.size = A at hD ⊢
  have hA : ∀ q : Nat, s.heap.size ≤ q → A q := fun q h => by rw [← hAe]; exact Or.inr h
  have hS : va_S A s.heap s.heap [] := va_S.rf
  have hP : va_P (dC, dI) crCl [(x, .inr (1, [.ref r, .ref r2, .ref r3])), (r, .inr (0, [.ref a, .ref b, .int (nI n)])), (a, .inl (cI, 768, .inl f)), (b, .inl (cI, 768, .inl g)), (r2, .inr (0, [.ref a2, .ref b2, .int s2])), (a2, .inl (cI, 768, .inl f2)), (b2, .inl (cI, 768, .inl g2))] s.heap := hP
  have hl := lv_entry ([.ref x]) (n := 5) (Nat.le_of_ble_eq_true rfl)
  rw [lg_entry_eq]
  generalize (lg_sl ([.ref x]) ++ List.replicate (5 - (lg_sl ([.ref x])).length) Slot.unset).toArray = ls at hl ⊢
  have hl : lv_has ls 5 [(0, .ref x)] := hl
  have hn := hSet.count hB
  obtain ⟨lo, hi, hR, hO, hI⟩ := hSet
  refine lv_aload_n hx hb dX1_turn_0 rfl (lv_at hl 0 rfl) ?_
  refine va_get (D := (dC, dI)) (ci := 1) (v := .ref r) (C := RX1) (T := TX1) (N := 3) hx hb hts (by decide +kernel) hown hK hP 0 rfl rfl 0 (by decide) (hts (.fieldLink RX1 10 "CharRows" "held" "LCharRows$Ranges;") (by decide +kernel)) (fun _ h9 => h9) rfl dX1_turn_1 ?_
  refine lv_astore_n (lv' := [(1, .ref r), (0, .ref x)]) hx hb dX1_turn_4 rfl hl (by decide) rfl (fun ls hl => ?_)
  refine lv_aload_n hx hb dX1_turn_5 rfl (lv_at hl 1 rfl) ?_
  refine va_get (D := (dC, dI)) (ci := 1) (v := .ref r2) (C := RX1) (T := TX1) (N := 3) hx hb hts (by decide +kernel) hown hK hP 0 rfl rfl 1 (by decide) (hts (.fieldLink RX1 16 "CharRows" "spare" "LCharRows$Ranges;") (by decide +kernel)) (fun _ h9 => h9) rfl dX1_turn_6 ?_
  refine lv_astore_n (lv' := [(2, .ref r2), (1, .ref r), (0, .ref x)]) hx hb dX1_turn_9 rfl hl (by decide) rfl (fun ls hl => ?_)
  refine lv_aload_n hx hb dX1_turn_10 rfl (lv_at hl 0 rfl) ?_
  have hPc := hP.sub (ws' := [(r2, .inr (0, [.ref a2, .ref b2, .int s2])), (a2, .inl (cI, 768, .inl f2)), (b2, .inl (cI, 768, .inl g2))]) [4, 5, 6] rfl
  have hDc := hD.sub (ws' := [(r2, .inr (0, [.ref a2, .ref b2, .int s2])), (a2, .inl (cI, 768, .inl f2)), (b2, .inl (cI, 768, .inl g2))]) [4, 5, 6] (by decide) rfl
  have hFc := va_free (wc := [(r2, .inr (0, [.ref a2, .ref b2, .int s2])), (a2, .inl (cI, 768, .inl f2)), (b2, .inl (cI, 768, .inl g2))]) hD hS hA [4, 5, 6] rfl
  refine va_callv (va_runVN (As := []) (rest := []) ⟨hx, hb, hml, hown, hts⟩ (c_empty l dC dI _ r2 a2 b2 cI s2 f2 g2) (⟨va_cnB (host := "CharRows") 0 hts gX1_turn_X0_empty_n38 rfl rfl rfl (hN _ nw_38) (hts (.initialized RX0) (by decide +kernel)) (by decide +kernel) ⟨Nat.le_of_ble_eq_true rfl, Nat.le_of_ble_eq_true rfl⟩, hts (.instanceMethod yX0_empty) (by decide +kernel), hts (.selects RX0 yX0_empty yX0_empty) (by decide +kernel)⟩) (cr_preV hPc hK hDc (ci := 0) (q0 := 0) rfl rfl) rfl rfl hl.1 rfl (lv_room (Nat.le_of_ble_eq_true rfl)) dX1_turn_11 ⟨Nat.zero_le _, Nat.zero_le _⟩) hS (fun q _ h => hFc q h) hFc (fun u_11 t_11 H_11 locs ht_11 hvm_11 hw_11 hB_11 hz_11 hk_11 hS => ?_)
  subst hw_11
  obtain ⟨hP, hD⟩ := cr_back (wr := [(x, .inr (1, [.ref r, .ref r2, .ref r3])), (r, .inr (0, [.ref a, .ref b, .int (nI n)])), (a, .inl (cI, 768, .inl f)), (b, .inl (cI, 768, .inl g))]) (w1 := [(r2, .inr (0, [.ref a2, .ref b2, .int (nI 0)])), (a2, .inl (cI, 768, .inl f2)), (b2, .inl (cI, 768, .inl g2))]) hP hD [4, 5, 6] [0, 1, 2, 3] rfl rfl (by decide) (by decide) hk_11 hFc hB_11 ht_11
  clear hPc hDc hFc
  generalize H_11 = H at hP hS ⊢
  have hP := hP.sub (ws' := [(x, .inr (1, [.ref r, .ref r2, .ref r3])), (r, .inr (0, [.ref a, .ref b, .int (nI n)])), (a, .inl (cI, 768, .inl f)), (b, .inl (cI, 768, .inl g)), (r2, .inr (0, [.ref a2, .ref b2, .int (nI 0)])), (a2, .inl (cI, 768, .inl f2)), (b2, .inl (cI, 768, .inl g2))]) [0, 1, 2, 3, 4, 5, 6] rfl
  have hD := hD.sub (ws' := [(x, .inr (1, [.ref r, .ref r2, .ref r3])), (r, .inr (0, [.ref a, .ref b, .int (nI n)])), (a, .inl (cI, 768, .inl f)), (b, .inl (cI, 768, .inl g)), (r2, .inr (0, [.ref a2, .ref b2, .int (nI 0)])), (a2, .inl (cI, 768, .inl f2)), (b2, .inl (cI, 768, .inl g2))]) [0, 1, 2, 3, 4, 5, 6] (by decide) rfl
  refine lv_iconst (v := nI 0) hx hb dX1_turn_14 (by decide) ?_
  refine lv_istore_n (lv' := [(3, .int (nI 0)), (2, .ref r2), (1, .ref r), (0, .ref x)]) hx hb dX1_turn_15 rfl hl (by decide) rfl (fun ls hl => ?_)
  refine lv_iconst (v := nI 0) hx hb dX1_turn_16 (by decide) ?_
  refine lv_istore (lv' := [(4, .int (nI 0)), (3, .int (nI 0)), (2, .ref r2), (1, .ref r), (0, .ref x)]) hx hb dX1_turn_17 hl (by decide) rfl (fun ls hl => ?_)
  refine cr_lp4 (fun (k : Nat) (n1 : Nat) (f1 : Nat → Int32) (g1 : Nat → Int32) => n - k) (fun (k : Nat) (n1 : Nat) (f1 : Nat → Int32) (g1 : Nat → Int32) H locs ls => (k ≤ n ∧ cr_Set n1 f1 g1 (cr_Tn S (cr_fm hi k))) ∧ va_P (dC, dI) crCl [(x, .inr (1, [.ref r, .ref r2, .ref r3])), (r, .inr (0, [.ref a, .ref b, .int (nI n)])), (a, .inl (cI, 768, .inl f)), (b, .inl (cI, 768, .inl g)), (r2, .inr (0, [.ref a2, .ref b2, .int (nI n1)])), (a2, .inl (cI, 768, .inl f1)), (b2, .inl (cI, 768, .inl g1))] H ∧ va_D A [(x, .inr (1, [.ref r, .ref r2, .ref r3])), (r, .inr (0, [.ref a, .ref b, .int (nI n)])), (a, .inl (cI, 768, .inl f)), (b, .inl (cI, 768, .inl g)), (r2, .inr (0, [.ref a2, .ref b2, .int (nI n1)])), (a2, .inl (cI, 768, .inl f1)), (b2, .inl (cI, 768, .inl g1))] ∧ va_S A s.heap H locs ∧ lv_has ls 5 [(0, .ref x), (1, .ref r), (2, .ref r2), (3, .int (nI (cr_fm hi k))), (4, .int (nI k))]) ?_ 0 0 f2 g2 ⟨⟨Nat.zero_le _, cr_Set.zero.iff (fun c => ⟨fun h => h.elim, fun h => absurd h.2 (Nat.not_lt_zero c)⟩)⟩, hP, hD, hS, lv_sub hl [4, 3, 2, 1, 0] rfl⟩
  intro k n1 f1 g1 H locs ls hI19 ih19
  obtain ⟨⟨h1, h2⟩, hP, hD, hS, hl⟩ := hI19
  have h3 := h2.count (cr_Bd_turn hB hbase (cr_fm hi k))
  have h4 : (cr_fm hi k :: P).length = P.length + 1 := rfl
  have h5 : cr_fm hi k ≤ 1114112 := cr_fm_le hO h1
  refine lv_iload hx hb dX1_turn_19 (lv_at hl 4 rfl) ?_
  refine lv_aload_n hx hb dX1_turn_21 rfl (lv_at hl 1 rfl) ?_
  refine va_getN (D := (dC, dI)) (ci := 0) (v := .int (nI n)) (C := RX0) (T := TX0) (N := 3) hx hb hts (by decide +kernel) hown hK hP 1 rfl rfl 2 (by decide) (va_Nw.use rfl (hN _ nw_34)) (fun _ h9 => h9) rfl dX1_turn_22 ?_
  refine lv_icmp_ge (tgt := 58) hx hb dX1_turn_25 (by decide) (fun c_25 => ?_) (fun c_25 => ?_)
  · rw [nI_leI (by omega) (by omega)] at c_25
    have hkn : k = n := by omega
    rw [hkn] at h2 hl
    refine lv_aload_n hx hb dX1_turn_58 rfl (lv_at hl 2 rfl) ?_
    refine lv_iload_n hx hb dX1_turn_59 rfl (lv_at hl 3 rfl) ?_
    refine lv_ldc (v := nI 1114111) hx hb hown (hts (.constant RX1 22 (nI 1114111)) (by decide +kernel)) dX1_turn_60 ?_
    have hPc := hP.sub (ws' := [(r2, .inr (0, [.ref a2, .ref b2, .int (nI n1)])), (a2, .inl (cI, 768, .inl f1)), (b2, .inl (cI, 768, .inl g1))]) [4, 5, 6] rfl
    have hDc := hD.sub (ws' := [(r2, .inr (0, [.ref a2, .ref b2, .int (nI n1)])), (a2, .inl (cI, 768, .inl f1)), (b2, .inl (cI, 768, .inl g1))]) [4, 5, 6] (by decide) rfl
    have hFc := va_free (wc := [(r2, .inr (0, [.ref a2, .ref b2, .int (nI n1)])), (a2, .inl (cI, 768, .inl f1)), (b2, .inl (cI, 768, .inl g1))]) hD hS hA [4, 5, 6] rfl
    refine va_callv (va_runS (As := [.ref r2, .int (nI (cr_fm hi n)), .int (nI 1114111)]) (rest := []) ⟨hx, hb, hml, hown, hts⟩ (c_putCharacters l dC dI _ r2 a2 b2 cI n1 f1 g1 _ h2 (by omega) (cr_fm hi n) (nI 1114111) (cr_fm_le hO (Nat.le_refl n)) (by decide)) (va_cwS 3 hts gX1_turn_X1_putCharacters rfl rfl rfl (by decide +kernel) ⟨Nat.le_of_ble_eq_true rfl, Nat.le_of_ble_eq_true rfl⟩) (cr_preSN hN hPc hK hDc) rfl rfl hl.1 rfl (lv_room (Nat.le_of_ble_eq_true rfl)) dX1_turn_62 ⟨Nat.zero_le _, Nat.zero_le _⟩) hS (fun q _ h => hFc q h) hFc (fun u_62 t_62 H_62 locs ht_62 hvm_62 hw_62 hB_62 hz_62 hk_62 hS => ?_)
    obtain ⟨n3, f3, g3, rfl, hn3, hSet3⟩ := hw_62
    obtain ⟨hP, hD⟩ := cr_back (wr := [(x, .inr (1, [.ref r, .ref r2, .ref r3])), (r, .inr (0, [.ref a, .ref b, .int (nI n)])), (a, .inl (cI, 768, .inl f)), (b, .inl (cI, 768, .inl g))]) (w1 := [(r2, .inr (0, [.ref a2, .ref b2, .int (nI n3)])), (a2, .inl (cI, 768, .inl f3)), (b2, .inl (cI, 768, .inl g3))]) hP hD [4, 5, 6] [0, 1, 2, 3] rfl rfl (by decide) (by decide) hk_62 hFc hB_62 ht_62
    clear hPc hDc hFc
    generalize H_62 = H at hP hS ⊢
    have hP := hP.sub (ws' := [(x, .inr (1, [.ref r, .ref r2, .ref r3])), (r, .inr (0, [.ref a, .ref b, .int (nI n)])), (a, .inl (cI, 768, .inl f)), (b, .inl (cI, 768, .inl g)), (r2, .inr (0, [.ref a2, .ref b2, .int (nI n3)])), (a2, .inl (cI, 768, .inl f3)), (b2, .inl (cI, 768, .inl g3))]) [0, 1, 2, 3, 4, 5, 6] rfl
    have hD := hD.sub (ws' := [(x, .inr (1, [.ref r, .ref r2, .ref r3])), (r, .inr (0, [.ref a, .ref b, .int (nI n)])), (a, .inl (cI, 768, .inl f)), (b, .inl (cI, 768, .inl g)), (r2, .inr (0, [.ref a2, .ref b2, .int (nI n3)])), (a2, .inl (cI, 768, .inl f3)), (b2, .inl (cI, 768, .inl g3))]) [0, 1, 2, 3, 4, 5, 6] (by decide) rfl
    refine lv_aload_n hx hb dX1_turn_65 rfl (lv_at hl 0 rfl) ?_
    refine lv_aload_n hx hb dX1_turn_66 rfl (lv_at hl 2 rfl) ?_
    refine va_put (D := (dC, dI)) (ci := 1) (v := .ref r2) (ty := .object "CharRows$Ranges") (C := RX1) (T := TX1) (N := 3) hx hb hts (by decide +kernel) tyX1 tyX1_ok nmX1 hown hK hP hD hS 0 rfl rfl 0 (by decide) (hts (.fieldLink RX1 10 "CharRows" "held" "LCharRows$Ranges;") (by decide +kernel)) (fun _ h9 => h9) rfl (by decide +kernel) rfl rfl (Nat.le_of_ble_eq_true rfl) dX1_turn_67 (fun H locs hP hD hS => ?_)
    have hP : va_P (dC, dI) crCl [(x, .inr (1, [.ref r2, .ref r2, .ref r3])), (r, .inr (0, [.ref a, .ref b, .int (nI n)])), (a, .inl (cI, 768, .inl f)), (b, .inl (cI, 768, .inl g)), (r2, .inr (0, [.ref a2, .ref b2, .int (nI n3)])), (a2, .inl (cI, 768, .inl f3)), (b2, .inl (cI, 768, .inl g3))] H := hP
    have hD : va_D A [(x, .inr (1, [.ref r2, .ref r2, .ref r3])), (r, .inr (0, [.ref a, .ref b, .int (nI n)])), (a, .inl (cI, 768, .inl f)), (b, .inl (cI, 768, .inl g)), (r2, .inr (0, [.ref a2, .ref b2, .int (nI n3)])), (a2, .inl (cI, 768, .inl f3)), (b2, .inl (cI, 768, .inl g3))] := hD
    refine lv_aload_n hx hb dX1_turn_70 rfl (lv_at hl 0 rfl) ?_
    refine lv_aload_n hx hb dX1_turn_71 rfl (lv_at hl 1 rfl) ?_
    refine va_put (D := (dC, dI)) (ci := 1) (v := .ref r) (ty := .object "CharRows$Ranges") (C := RX1) (T := TX1) (N := 3) hx hb hts (by decide +kernel) tyX1 tyX1_ok nmX1 hown hK hP hD hS 0 rfl rfl 1 (by decide) (hts (.fieldLink RX1 16 "CharRows" "spare" "LCharRows$Ranges;") (by decide +kernel)) (fun _ h9 => h9) rfl (by decide +kernel) rfl rfl (Nat.le_of_ble_eq_true rfl) dX1_turn_72 (fun H locs hP hD hS => ?_)
    have hP : va_P (dC, dI) crCl [(x, .inr (1, [.ref r2, .ref r, .ref r3])), (r, .inr (0, [.ref a, .ref b, .int (nI n)])), (a, .inl (cI, 768, .inl f)), (b, .inl (cI, 768, .inl g)), (r2, .inr (0, [.ref a2, .ref b2, .int (nI n3)])), (a2, .inl (cI, 768, .inl f3)), (b2, .inl (cI, 768, .inl g3))] H := hP
    have hD : va_D A [(x, .inr (1, [.ref r2, .ref r, .ref r3])), (r, .inr (0, [.ref a, .ref b, .int (nI n)])), (a, .inl (cI, 768, .inl f)), (b, .inl (cI, 768, .inl g)), (r2, .inr (0, [.ref a2, .ref b2, .int (nI n3)])), (a2, .inl (cI, 768, .inl f3)), (b2, .inl (cI, 768, .inl g3))] := hD
    refine lv_aload_n hx hb dX1_turn_75 rfl (lv_at hl 0 rfl) ?_
    refine va_get (D := (dC, dI)) (ci := 1) (v := .ref r2) (C := RX1) (T := TX1) (N := 3) hx hb hts (by decide +kernel) hown hK hP 0 rfl rfl 0 (by decide) (hts (.fieldLink RX1 10 "CharRows" "held" "LCharRows$Ranges;") (by decide +kernel)) (fun _ h9 => h9) rfl dX1_turn_76 ?_
    refine va_getN (D := (dC, dI)) (ci := 0) (v := .int (nI n3)) (C := RX0) (T := TX0) (N := 3) hx hb hts (by decide +kernel) hown hK hP 4 rfl rfl 2 (by decide) (va_Nw.use rfl (hN _ nw_34)) (fun _ h9 => h9) rfl dX1_turn_79 ?_
    exact W.iret (v := nI n3) hx hb hr (fun t9 ht9 hW9 => ⟨⟨nI n3, [(x, .inr (1, [.ref r2, .ref r, .ref r3])), (r, .inr (0, [.ref a, .ref b, .int (nI n)])), (a, .inl (cI, 768, .inl f)), (b, .inl (cI, 768, .inl g)), (r2, .inr (0, [.ref a2, .ref b2, .int (nI n3)])), (a2, .inl (cI, 768, .inl f3)), (b2, .inl (cI, 768, .inl g3))], rfl, ⟨n3, f3, g3, rfl, rfl, by omega, hSet3.iff (fun c => cr_turn_end hO hI c)⟩, by rw [ht9]; exact hP, va_K.moved hW9.alike hK, hD⟩, hS.F ht9⟩) hS.2.2 dX1_turn_82
  · rw [nI_leI (by omega) (by omega)] at c_25
    have hok := hO.1 k (by omega)
    have hlk : (nI (lo k) - nI 1).toInt = (lo k : Int) - 1 := pk_sub_toInt (by omega) (by omega)
    refine lv_aload_n hx hb dX1_turn_28 rfl (lv_at hl 2 rfl) ?_
    refine lv_iload_n hx hb dX1_turn_29 rfl (lv_at hl 3 rfl) ?_
    refine lv_aload_n hx hb dX1_turn_30 rfl (lv_at hl 1 rfl) ?_
    refine va_getN (D := (dC, dI)) (ci := 0) (v := .ref a) (C := RX0) (T := TX0) (N := 3) hx hb hts (by decide +kernel) hown hK hP 1 rfl rfl 0 (by decide) (va_Nw.use rfl (hN _ nw_47)) (fun _ h9 => h9) rfl dX1_turn_31 ?_
    refine lv_iload hx hb dX1_turn_34 (lv_at hl 4 rfl) ?_
    refine va_iald hx hb hK hP 2 0 rfl rfl (vp_in_nI (by omega) (by omega)) dX1_turn_36 ?_
    refine cr_top (y := nI (lo k)) (by rw [nI_clamp (by omega)]; exact (hR _ (by omega)).1) ?_
    refine lv_iconst (v := nI 1) hx hb dX1_turn_37 (by decide) ?_
    refine lv_isub hx hb dX1_turn_38 ?_
    have hPc := hP.sub (ws' := [(r2, .inr (0, [.ref a2, .ref b2, .int (nI n1)])), (a2, .inl (cI, 768, .inl f1)), (b2, .inl (cI, 768, .inl g1))]) [4, 5, 6] rfl
    have hDc := hD.sub (ws' := [(r2, .inr (0, [.ref a2, .ref b2, .int (nI n1)])), (a2, .inl (cI, 768, .inl f1)), (b2, .inl (cI, 768, .inl g1))]) [4, 5, 6] (by decide) rfl
    have hFc := va_free (wc := [(r2, .inr (0, [.ref a2, .ref b2, .int (nI n1)])), (a2, .inl (cI, 768, .inl f1)), (b2, .inl (cI, 768, .inl g1))]) hD hS hA [4, 5, 6] rfl
    refine va_callv (va_runS (As := [.ref r2, .int (nI (cr_fm hi k)), .int ((nI (lo k)) - (nI 1))]) (rest := []) ⟨hx, hb, hml, hown, hts⟩ (c_putCharacters l dC dI _ r2 a2 b2 cI n1 f1 g1 _ h2 (by omega) (cr_fm hi k) (nI (lo k) - nI 1) h5 (by rw [hlk]; omega)) (va_cwS 3 hts gX1_turn_X1_putCharacters rfl rfl rfl (by decide +kernel) ⟨Nat.le_of_ble_eq_true rfl, Nat.le_of_ble_eq_true rfl⟩) (cr_preSN hN hPc hK hDc) rfl rfl hl.1 rfl (lv_room (Nat.le_of_ble_eq_true rfl)) dX1_turn_39 ⟨Nat.zero_le _, Nat.zero_le _⟩) hS (fun q _ h => hFc q h) hFc (fun u_39 t_39 H_39 locs ht_39 hvm_39 hw_39 hB_39 hz_39 hk_39 hS => ?_)
    obtain ⟨n3, f3, g3, rfl, hn3, hSet3⟩ := hw_39
    obtain ⟨hP, hD⟩ := cr_back (wr := [(x, .inr (1, [.ref r, .ref r2, .ref r3])), (r, .inr (0, [.ref a, .ref b, .int (nI n)])), (a, .inl (cI, 768, .inl f)), (b, .inl (cI, 768, .inl g))]) (w1 := [(r2, .inr (0, [.ref a2, .ref b2, .int (nI n3)])), (a2, .inl (cI, 768, .inl f3)), (b2, .inl (cI, 768, .inl g3))]) hP hD [4, 5, 6] [0, 1, 2, 3] rfl rfl (by decide) (by decide) hk_39 hFc hB_39 ht_39
    clear hPc hDc hFc
    generalize H_39 = H at hP hS ⊢
    have hP := hP.sub (ws' := [(x, .inr (1, [.ref r, .ref r2, .ref r3])), (r, .inr (0, [.ref a, .ref b, .int (nI n)])), (a, .inl (cI, 768, .inl f)), (b, .inl (cI, 768, .inl g)), (r2, .inr (0, [.ref a2, .ref b2, .int (nI n3)])), (a2, .inl (cI, 768, .inl f3)), (b2, .inl (cI, 768, .inl g3))]) [0, 1, 2, 3, 4, 5, 6] rfl
    have hD := hD.sub (ws' := [(x, .inr (1, [.ref r, .ref r2, .ref r3])), (r, .inr (0, [.ref a, .ref b, .int (nI n)])), (a, .inl (cI, 768, .inl f)), (b, .inl (cI, 768, .inl g)), (r2, .inr (0, [.ref a2, .ref b2, .int (nI n3)])), (a2, .inl (cI, 768, .inl f3)), (b2, .inl (cI, 768, .inl g3))]) [0, 1, 2, 3, 4, 5, 6] (by decide) rfl
    refine lv_aload_n hx hb dX1_turn_42 rfl (lv_at hl 1 rfl) ?_
    refine va_getN (D := (dC, dI)) (ci := 0) (v := .ref b) (C := RX0) (T := TX0) (N := 3) hx hb hts (by decide +kernel) hown hK hP 1 rfl rfl 1 (by decide) (va_Nw.use rfl (hN _ nw_51)) (fun _ h9 => h9) rfl dX1_turn_43 ?_
    refine lv_iload hx hb dX1_turn_46 (lv_at hl 4 rfl) ?_
    refine va_iald hx hb hK hP 3 0 rfl rfl (vp_in_nI (by omega) (by omega)) dX1_turn_48 ?_
    refine cr_top (y := nI (hi k)) (by rw [nI_clamp (by omega)]; exact (hR _ (by omega)).2) ?_
    refine lv_iconst (v := nI 1) hx hb dX1_turn_49 (by decide) ?_
    refine lv_iadd hx hb dX1_turn_50 ?_
    refine cr_top (y := nI ((hi k) + 1)) (nI_add (hi k) 1) ?_
    refine cr_top (y := nI (cr_fm hi (k + 1))) (by rw [cr_fm_succ]) ?_
    refine lv_istore_n (lv' := [(3, .int (nI (cr_fm hi (k + 1)))), (0, .ref x), (1, .ref r), (2, .ref r2), (4, .int (nI k))]) hx hb dX1_turn_51 rfl hl (by decide) rfl (fun ls hl => ?_)
    refine lv_iinc (v := nI (k + 1)) (lv' := [(4, .int (nI (k + 1))), (3, .int (nI (cr_fm hi (k + 1)))), (0, .ref x), (1, .ref r), (2, .ref r2)]) hx hb dX1_turn_52 hl (k := 4) rfl (nI_add k 1) (by decide) rfl (fun ls hl => ?_)
    refine lv_goto (tgt := 19) hx hb dX1_turn_55 (by decide) ?_
    exact ih19 (k + 1) n3 f3 g3 _ _ _ ⟨⟨by omega, hSet3.iff (fun c => by rw [hlk]; exact cr_turn_step hO hI (by omega) c)⟩, hP, hD, hS, lv_sub hl [2, 3, 4, 1, 0] rfl⟩ (by omega)

set_option maxHeartbeats 4000000 in
set_option maxRecDepth 100000 in
theorem c_row (l : Launch) (dC : Nat → ClassId) (dI : Nat → Nat → Nat) (sz : Nat) (x r r2 r3 a b : Nat) (cI : ClassId) (n : Nat) (f g : Nat → Int32) (lo hi : Nat → Nat) (hR : cr_Rp n lo hi f g) (hO : cr_Ok n lo hi) (hn : n ≤ 768) (z i w : Int32) : Met l yX1_row wsX1_row ({ frames := 6, cells := 0, slots := 0, locals := 220 }) (va_Pc [.ref x, .int z, .int i, .int w] (cr_preN dC dI [(cI, .int)] [(x, .inr (1, [.ref r, .ref r2, .ref r3])), (r, .inr (0, [.ref a, .ref b, .int (nI n)])), (a, .inl (cI, 768, .inl f)), (b, .inl (cI, 768, .inl g))] sz)) (va_Qi (fun (rr : Int32) (u : va_W) => u = [(x, .inr (1, [.ref r, .ref r2, .ref r3])), (r, .inr (0, [.ref a, .ref b, .int (nI n)])), (a, .inl (cI, 768, .inl f)), (b, .inl (cI, 768, .inl g))] ∧ cr_rowSpec n lo hi z i w rr) (cr_at dC dI [(cI, .int)] (va_A [(x, .inr (1, [.ref r, .ref r2, .ref r3])), (r, .inr (0, [.ref a, .ref b, .int (nI n)])), (a, .inl (cI, 768, .inl f)), (b, .inl (cI, 768, .inl g))] sz)) (va_A [(x, .inr (1, [.ref r, .ref r2, .ref r3])), (r, .inr (0, [.ref a, .ref b, .int (nI n)])), (a, .inl (cI, 768, .inl f)), (b, .inl (cI, 768, .inl g))] sz)) 0 0 (va_A [(x, .inr (1, [.ref r, .ref r2, .ref r3])), (r, .inr (0, [.ref a, .ref b, .int (nI n)])), (a, .inl (cI, 768, .inl f)), (b, .inl (cI, 768, .inl g))] sz) := by
  refine Met.ofW (cc := cX1_row) (maxL := 6) (ret := (some .int)) (by decide) rfl ?_
  intro p e s m args below meth c s₁ B hml hv
  obtain ⟨rfl, ⟨hsz, hP, hK, hD0⟩, hN⟩ := hv
  have hx := B.exec
  have hb := B.bytes
  have hr := B.returns
  have hts := atoms_spec (ws := wsX1_row) B.pre
  have hown : s.vm.findClass RX1 = some m.cls := findClass_of_methodNamed B.named
  have hlocks := B.notSynchronized
  subst hsz
  have hD := hD0.self (sz := s.heap.size)
  generalize hAe : va_A [(x, .inr (1, [.ref r, .ref r2, .ref r3])), (r, .inr (0, [.ref a, .ref b, .int (nI n)])), (a, .inl (cI, 768, .inl f)), (b, .inl (cI, 768, .inl g))] s.heap.size = A at hD ⊢
  have hA : ∀ q : Nat, s.heap.size ≤ q → A q := fun q h => by rw [← hAe]; exact Or.inr h
  have hS : va_S A s.heap s.heap [] := va_S.rf
  have hP : va_P (dC, dI) crCl [(x, .inr (1, [.ref r, .ref r2, .ref r3])), (r, .inr (0, [.ref a, .ref b, .int (nI n)])), (a, .inl (cI, 768, .inl f)), (b, .inl (cI, 768, .inl g))] s.heap := hP
  have hl := lv_entry ([.ref x, .int z, .int i, .int w]) (n := 6) (Nat.le_of_ble_eq_true rfl)
  rw [lg_entry_eq]
  generalize (lg_sl ([.ref x, .int z, .int i, .int w]) ++ List.replicate (6 - (lg_sl ([.ref x, .int z, .int i, .int w])).length) Slot.unset).toArray = ls at hl ⊢
  have hl : lv_has ls 6 [(0, .ref x), (1, .int z), (2, .int i), (3, .int w)] := hl
  refine lv_aload_n hx hb dX1_row_0 rfl (lv_at hl 0 rfl) ?_
  refine lv_iload_n hx hb dX1_row_1 rfl (lv_at hl 1 rfl) ?_
  have hPc := hP.sub (ws' := [(x, .inr (1, [.ref r, .ref r2, .ref r3])), (r, .inr (0, [.ref a, .ref b, .int (nI n)])), (a, .inl (cI, 768, .inl f)), (b, .inl (cI, 768, .inl g))]) [0, 1, 2, 3] rfl
  have hDc := hD.sub (ws' := [(x, .inr (1, [.ref r, .ref r2, .ref r3])), (r, .inr (0, [.ref a, .ref b, .int (nI n)])), (a, .inl (cI, 768, .inl f)), (b, .inl (cI, 768, .inl g))]) [0, 1, 2, 3] (by decide) rfl
  have hFc := va_free (wc := [(x, .inr (1, [.ref r, .ref r2, .ref r3])), (r, .inr (0, [.ref a, .ref b, .int (nI n)])), (a, .inl (cI, 768, .inl f)), (b, .inl (cI, 768, .inl g))]) hD hS hA [0, 1, 2, 3] rfl
  refine va_calli (va_runV (As := [.int z]) (rest := []) ⟨hx, hb, hml, hown, hts⟩ (c_firstOfRow l dC dI _ x r r2 r3 a b cI n f g lo hi hR hO hn z) (cwV 1 hts gX1_row_X1_firstOfRow rfl rfl rfl (by decide +kernel) ⟨Nat.le_of_ble_eq_true rfl, Nat.le_of_ble_eq_true rfl⟩) (cr_preVN hN hPc hK hDc (ci := 1) (q0 := 0) rfl rfl) rfl rfl hl.1 rfl (lv_room (Nat.le_of_ble_eq_true rfl)) dX1_row_2 ⟨Nat.zero_le _, Nat.zero_le _⟩) hS (fun q _ h => hFc q h) hFc (fun r_2 u_2 t_2 H_2 locs ht_2 hvm_2 hw_2 hB_2 hz_2 hk_2 hS => ?_)
  obtain ⟨rfl, hfo⟩ := hw_2
  obtain ⟨hP, hD⟩ := cr_back (wr := []) (w1 := [(x, .inr (1, [.ref r, .ref r2, .ref r3])), (r, .inr (0, [.ref a, .ref b, .int (nI n)])), (a, .inl (cI, 768, .inl f)), (b, .inl (cI, 768, .inl g))]) hP hD [0, 1, 2, 3] [] rfl rfl (by decide) (by decide) hk_2 hFc hB_2 ht_2
  clear hPc hDc hFc
  generalize H_2 = H at hP hS ⊢
  have hP := hP.sub (ws' := [(x, .inr (1, [.ref r, .ref r2, .ref r3])), (r, .inr (0, [.ref a, .ref b, .int (nI n)])), (a, .inl (cI, 768, .inl f)), (b, .inl (cI, 768, .inl g))]) [0, 1, 2, 3] rfl
  have hD := hD.sub (ws' := [(x, .inr (1, [.ref r, .ref r2, .ref r3])), (r, .inr (0, [.ref a, .ref b, .int (nI n)])), (a, .inl (cI, 768, .inl f)), (b, .inl (cI, 768, .inl g))]) [0, 1, 2, 3] (by decide) rfl
  rcases hfo with ⟨hneg, rfl⟩ | ⟨zz, hzz, rfl, ⟨hbig, rfl⟩ | ⟨j, t0, hj, ht0, hzt, rfl⟩⟩
  · refine lv_istore (lv' := [(4, .int (-1)), (0, .ref x), (1, .int z), (2, .int i), (3, .int w)]) hx hb dX1_row_5 hl (by decide) rfl (fun ls hl => ?_)
    refine lv_iload hx hb dX1_row_7 (lv_at hl 0 rfl) ?_
    refine lv_iconst (v := (-1)) hx hb dX1_row_9 (by decide) ?_
    refine lv_icmp_ne (tgt := 15) hx hb dX1_row_10 (by decide) (fun c_10 => ?_) (fun c_10 => ?_)
    · exact absurd (by decide) c_10
    · refine lv_iconst (v := (-1)) hx hb dX1_row_13 (by decide) ?_
      exact W.iret (v := (-1)) hx hb hr (fun t9 ht9 hW9 => ⟨⟨(-1), [(x, .inr (1, [.ref r, .ref r2, .ref r3])), (r, .inr (0, [.ref a, .ref b, .int (nI n)])), (a, .inl (cI, 768, .inl f)), (b, .inl (cI, 768, .inl g))], rfl, ⟨rfl, Or.inl ⟨Or.inl hneg, rfl⟩⟩, by rw [ht9]; exact hP, va_K.moved hW9.alike hK, hD⟩, hS.F ht9⟩) hS.2.2 dX1_row_14
  · refine lv_istore (lv' := [(4, .int (-1)), (0, .ref x), (1, .int (nI zz)), (2, .int i), (3, .int w)]) hx hb dX1_row_5 hl (by decide) rfl (fun ls hl => ?_)
    refine lv_iload hx hb dX1_row_7 (lv_at hl 0 rfl) ?_
    refine lv_iconst (v := (-1)) hx hb dX1_row_9 (by decide) ?_
    refine lv_icmp_ne (tgt := 15) hx hb dX1_row_10 (by decide) (fun c_10 => ?_) (fun c_10 => ?_)
    · exact absurd (by decide) c_10
    · refine lv_iconst (v := (-1)) hx hb dX1_row_13 (by decide) ?_
      exact W.iret (v := (-1)) hx hb hr (fun t9 ht9 hW9 => ⟨⟨(-1), [(x, .inr (1, [.ref r, .ref r2, .ref r3])), (r, .inr (0, [.ref a, .ref b, .int (nI n)])), (a, .inl (cI, 768, .inl f)), (b, .inl (cI, 768, .inl g))], rfl, ⟨rfl, Or.inl ⟨Or.inr ⟨zz, hzz, rfl, hbig⟩, rfl⟩⟩, by rw [ht9]; exact hP, va_K.moved hW9.alike hK, hD⟩, hS.F ht9⟩) hS.2.2 dX1_row_14
  · have hok := hO.1 j hj
    have hgo := cr_N_in ht0
    have hge := cr_N_ge (by omega) ht0
    generalize hc0 : cr_go t0 (lo j) (hi j) = c0 at hgo hge ⊢
    have hla := cr_last_in hgo (by omega)
    have hlen := cr_len_in c0
    refine lv_istore (lv' := [(4, .int (nI c0)), (0, .ref x), (1, .int (nI zz)), (2, .int i), (3, .int w)]) hx hb dX1_row_5 hl (by decide) rfl (fun ls hl => ?_)
    refine lv_iload hx hb dX1_row_7 (lv_at hl 0 rfl) ?_
    refine lv_iconst (v := (-1)) hx hb dX1_row_9 (by decide) ?_
    refine lv_icmp_ne (tgt := 15) hx hb dX1_row_10 (by decide) (fun c_10 => ?_) (fun c_10 => ?_)
    · refine lv_iload hx hb dX1_row_15 (lv_at hl 0 rfl) ?_
      have hPc := hP.sub (ws' := []) [] rfl
      have hDc := hD.sub (ws' := []) [] (by decide) rfl
      have hFc := va_free (wc := []) hD hS hA [] rfl
      refine va_calli (va_runS (As := [.int (nI c0)]) (rest := []) ⟨hx, hb, hml, hown, hts⟩ (c_byteCount l dC dI _ c0 (by omega)) (va_cwS 1 hts gX1_row_X1_byteCount rfl rfl rfl (by decide +kernel) ⟨Nat.le_of_ble_eq_true rfl, Nat.le_of_ble_eq_true rfl⟩) (cr_preS hPc (hK.sub (tys' := []) [] rfl) hDc) rfl rfl hl.1 rfl (lv_room (Nat.le_of_ble_eq_true rfl)) dX1_row_17 ⟨Nat.zero_le _, Nat.zero_le _⟩) hS (fun q _ h => hFc q h) hFc (fun r_17 u_17 t_17 H_17 locs ht_17 hvm_17 hw_17 hB_17 hz_17 hk_17 hS => ?_)
      obtain ⟨rfl, rfl⟩ := hw_17
      obtain ⟨hP, hD⟩ := cr_back (wr := [(x, .inr (1, [.ref r, .ref r2, .ref r3])), (r, .inr (0, [.ref a, .ref b, .int (nI n)])), (a, .inl (cI, 768, .inl f)), (b, .inl (cI, 768, .inl g))]) (w1 := []) hP hD [] [0, 1, 2, 3] rfl rfl (by decide) (by decide) hk_17 hFc hB_17 ht_17
      clear hPc hDc hFc
      generalize H_17 = H at hP hS ⊢
      have hP := hP.sub (ws' := [(x, .inr (1, [.ref r, .ref r2, .ref r3])), (r, .inr (0, [.ref a, .ref b, .int (nI n)])), (a, .inl (cI, 768, .inl f)), (b, .inl (cI, 768, .inl g))]) [0, 1, 2, 3] rfl
      have hD := hD.sub (ws' := [(x, .inr (1, [.ref r, .ref r2, .ref r3])), (r, .inr (0, [.ref a, .ref b, .int (nI n)])), (a, .inl (cI, 768, .inl f)), (b, .inl (cI, 768, .inl g))]) [0, 1, 2, 3] (by decide) rfl
      refine lv_istore (lv' := [(5, .int (nI (cr_len c0))), (4, .int (nI c0)), (0, .ref x), (1, .int (nI zz)), (2, .int i), (3, .int w)]) hx hb dX1_row_20 hl (by decide) rfl (fun ls hl => ?_)
      refine lv_iload_n hx hb dX1_row_22 rfl (lv_at hl 4 rfl) ?_
      refine lv_if_ne (tgt := 29) hx hb dX1_row_23 (by decide) (fun c_23 => ?_) (fun c_23 => ?_)
      · refine lv_iload_n hx hb dX1_row_29 rfl (lv_at hl 4 rfl) ?_
        refine lv_if_lt (tgt := 39) hx hb dX1_row_30 (by decide) (fun c_30 => ?_) (fun c_30 => ?_)
        · refine lv_iconst (v := (-1)) hx hb dX1_row_39 (by decide) ?_
          exact W.iret (v := (-1)) hx hb hr (fun t9 ht9 hW9 => ⟨⟨(-1), [(x, .inr (1, [.ref r, .ref r2, .ref r3])), (r, .inr (0, [.ref a, .ref b, .int (nI n)])), (a, .inl (cI, 768, .inl f)), (b, .inl (cI, 768, .inl g))], rfl, ⟨rfl, Or.inr ⟨zz, j, t0, hzz, rfl, hj, ht0, hzt, by rw [hc0]; exact (cr_ra_neg c_23 (Or.inl c_30)).symm⟩⟩, by rw [ht9]; exact hP, va_K.moved hW9.alike hK, hD⟩, hS.F ht9⟩) hS.2.2 dX1_row_40
        · refine lv_iload_n hx hb dX1_row_33 rfl (lv_at hl 4 rfl) ?_
          refine lv_iload hx hb dX1_row_34 (lv_at hl 0 rfl) ?_
          refine lv_icmp_le (tgt := 41) hx hb dX1_row_36 (by decide) (fun c_36 => ?_) (fun c_36 => ?_)
          · refine lv_iload_n hx hb dX1_row_41 rfl (lv_at hl 5 rfl) ?_
            refine lv_if_ne (tgt := 54) hx hb dX1_row_42 (by decide) (fun c_42 => ?_) (fun c_42 => ?_)
            · refine lv_iload_n hx hb dX1_row_54 rfl (lv_at hl 5 rfl) ?_
              refine lv_iconst (v := nI 1) hx hb dX1_row_55 (by decide) ?_
              refine lv_icmp_ne (tgt := 82) hx hb dX1_row_56 (by decide) (fun c_56 => ?_) (fun c_56 => ?_)
              · refine lv_iconst (v := (-1)) hx hb dX1_row_82 (by decide) ?_
                exact W.iret (v := (-1)) hx hb hr (fun t9 ht9 hW9 => ⟨⟨(-1), [(x, .inr (1, [.ref r, .ref r2, .ref r3])), (r, .inr (0, [.ref a, .ref b, .int (nI n)])), (a, .inl (cI, 768, .inl f)), (b, .inl (cI, 768, .inl g))], rfl, ⟨rfl, Or.inr ⟨zz, j, t0, hzz, rfl, hj, ht0, hzt, by rw [hc0]; exact (cr_ra_w2 c_23 c_30 c_36 c_42 c_56).symm⟩⟩, by rw [ht9]; exact hP, va_K.moved hW9.alike hK, hD⟩, hS.F ht9⟩) hS.2.2 dX1_row_83
              · obtain ⟨ii, hi1, rfl⟩ := cr_of (x := i) (by rw [cr_lt0] at c_30; omega)
                rw [nI_leI (by omega) (by omega)] at c_36
                have hi2 : 1 ≤ ii := Nat.pos_of_ne_zero (fun h => c_23 (by rw [h]; rfl))
                have hi3 : ii ≤ cr_len c0 := c_36
                refine lv_iload hx hb dX1_row_59 (lv_at hl 1 rfl) ?_
                refine lv_aload_n hx hb dX1_row_61 rfl (lv_at hl 2 rfl) ?_
                refine va_get (D := (dC, dI)) (ci := 1) (v := .ref r) (C := RX1) (T := TX1) (N := 3) hx hb hts (by decide +kernel) hown hK hP 0 rfl rfl 0 (by decide) (hts (.fieldLink RX1 10 "CharRows" "held" "LCharRows$Ranges;") (by decide +kernel)) (fun _ h9 => h9) rfl dX1_row_62 ?_
                refine lv_iload hx hb dX1_row_65 (lv_at hl 1 rfl) ?_
                have hPc := hP.sub (ws' := [(r, .inr (0, [.ref a, .ref b, .int (nI n)])), (a, .inl (cI, 768, .inl f)), (b, .inl (cI, 768, .inl g))]) [1, 2, 3] rfl
                have hDc := hD.sub (ws' := [(r, .inr (0, [.ref a, .ref b, .int (nI n)])), (a, .inl (cI, 768, .inl f)), (b, .inl (cI, 768, .inl g))]) [1, 2, 3] (by decide) rfl
                have hFc := va_free (wc := [(r, .inr (0, [.ref a, .ref b, .int (nI n)])), (a, .inl (cI, 768, .inl f)), (b, .inl (cI, 768, .inl g))]) hD hS hA [1, 2, 3] rfl
                refine va_calli (va_runVN (As := [.int (nI c0)]) (rest := [.int (nI c0)]) ⟨hx, hb, hml, hown, hts⟩ (c_endAround l dC dI _ r a b cI n f g lo hi hR hO hn c0 j hj hge hgo) (⟨va_cnB (host := "CharRows") 1 hts gX1_row_X0_endAround_n81 rfl rfl rfl (hN _ nw_81) (hts (.initialized RX0) (by decide +kernel)) (by decide +kernel) ⟨Nat.le_of_ble_eq_true rfl, Nat.le_of_ble_eq_true rfl⟩, hts (.instanceMethod yX0_endAround) (by decide +kernel), hts (.selects RX0 yX0_endAround yX0_endAround) (by decide +kernel)⟩) (cr_preV hPc hK hDc (ci := 0) (q0 := 0) rfl rfl) rfl rfl hl.1 rfl (lv_room (Nat.le_of_ble_eq_true rfl)) dX1_row_67 ⟨Nat.zero_le _, Nat.zero_le _⟩) hS (fun q _ h => hFc q h) hFc (fun r_67 u_67 t_67 H_67 locs ht_67 hvm_67 hw_67 hB_67 hz_67 hk_67 hS => ?_)
                obtain ⟨rfl, rfl⟩ := hw_67
                obtain ⟨hP, hD⟩ := cr_back (wr := [(x, .inr (1, [.ref r, .ref r2, .ref r3]))]) (w1 := [(r, .inr (0, [.ref a, .ref b, .int (nI n)])), (a, .inl (cI, 768, .inl f)), (b, .inl (cI, 768, .inl g))]) hP hD [1, 2, 3] [0] rfl rfl (by decide) (by decide) hk_67 hFc hB_67 ht_67
                clear hPc hDc hFc
                generalize H_67 = H at hP hS ⊢
                have hP := hP.sub (ws' := [(x, .inr (1, [.ref r, .ref r2, .ref r3])), (r, .inr (0, [.ref a, .ref b, .int (nI n)])), (a, .inl (cI, 768, .inl f)), (b, .inl (cI, 768, .inl g))]) [0, 1, 2, 3] rfl
                have hD := hD.sub (ws' := [(x, .inr (1, [.ref r, .ref r2, .ref r3])), (r, .inr (0, [.ref a, .ref b, .int (nI n)])), (a, .inl (cI, 768, .inl f)), (b, .inl (cI, 768, .inl g))]) [0, 1, 2, 3] (by decide) rfl
                have hPc := hP.sub (ws' := []) [] rfl
                have hDc := hD.sub (ws' := []) [] (by decide) rfl
                have hFc := va_free (wc := []) hD hS hA [] rfl
                refine va_calli (va_runS (As := [.int (nI c0), .int (nI (hi j))]) (rest := []) ⟨hx, hb, hml, hown, hts⟩ (c_lastOfRow l dC dI _ c0 (hi j) hgo (by omega)) (va_cwS 2 hts gX1_row_X1_lastOfRow rfl rfl rfl (by decide +kernel) ⟨Nat.le_of_ble_eq_true rfl, Nat.le_of_ble_eq_true rfl⟩) (cr_preS hPc (hK.sub (tys' := []) [] rfl) hDc) rfl rfl hl.1 rfl (lv_room (Nat.le_of_ble_eq_true rfl)) dX1_row_70 ⟨Nat.zero_le _, Nat.zero_le _⟩) hS (fun q _ h => hFc q h) hFc (fun r_70 u_70 t_70 H_70 locs ht_70 hvm_70 hw_70 hB_70 hz_70 hk_70 hS => ?_)
                obtain ⟨rfl, rfl⟩ := hw_70
                obtain ⟨hP, hD⟩ := cr_back (wr := [(x, .inr (1, [.ref r, .ref r2, .ref r3])), (r, .inr (0, [.ref a, .ref b, .int (nI n)])), (a, .inl (cI, 768, .inl f)), (b, .inl (cI, 768, .inl g))]) (w1 := []) hP hD [] [0, 1, 2, 3] rfl rfl (by decide) (by decide) hk_70 hFc hB_70 ht_70
                clear hPc hDc hFc
                generalize H_70 = H at hP hS ⊢
                have hP := hP.sub (ws' := [(x, .inr (1, [.ref r, .ref r2, .ref r3])), (r, .inr (0, [.ref a, .ref b, .int (nI n)])), (a, .inl (cI, 768, .inl f)), (b, .inl (cI, 768, .inl g))]) [0, 1, 2, 3] rfl
                have hD := hD.sub (ws' := [(x, .inr (1, [.ref r, .ref r2, .ref r3])), (r, .inr (0, [.ref a, .ref b, .int (nI n)])), (a, .inl (cI, 768, .inl f)), (b, .inl (cI, 768, .inl g))]) [0, 1, 2, 3] (by decide) rfl
                refine lv_iload hx hb dX1_row_73 (lv_at hl 0 rfl) ?_
                refine lv_iload_n hx hb dX1_row_75 rfl (lv_at hl 4 rfl) ?_
                have hPc := hP.sub (ws' := []) [] rfl
                have hDc := hD.sub (ws' := []) [] (by decide) rfl
                have hFc := va_free (wc := []) hD hS hA [] rfl
                refine va_calli (va_runS (As := [.int (nI (cr_last c0 (hi j))), .int (nI (cr_len c0)), .int (nI ii)]) (rest := []) ⟨hx, hb, hml, hown, hts⟩ (c_byteOf l dC dI _ (cr_last c0 (hi j)) (cr_len c0) ii hla.2.2.1.1.symm (by omega) (by omega) hi3) (va_cwS 3 hts gX1_row_X1_byteOf rfl rfl rfl (by decide +kernel) ⟨Nat.le_of_ble_eq_true rfl, Nat.le_of_ble_eq_true rfl⟩) (cr_preS hPc (hK.sub (tys' := []) [] rfl) hDc) rfl rfl hl.1 rfl (lv_room (Nat.le_of_ble_eq_true rfl)) dX1_row_76 ⟨Nat.zero_le _, Nat.zero_le _⟩) hS (fun q _ h => hFc q h) hFc (fun r_76 u_76 t_76 H_76 locs ht_76 hvm_76 hw_76 hB_76 hz_76 hk_76 hS => ?_)
                obtain ⟨rfl, rfl⟩ := hw_76
                obtain ⟨hP, hD⟩ := cr_back (wr := [(x, .inr (1, [.ref r, .ref r2, .ref r3])), (r, .inr (0, [.ref a, .ref b, .int (nI n)])), (a, .inl (cI, 768, .inl f)), (b, .inl (cI, 768, .inl g))]) (w1 := []) hP hD [] [0, 1, 2, 3] rfl rfl (by decide) (by decide) hk_76 hFc hB_76 ht_76
                clear hPc hDc hFc
                generalize H_76 = H at hP hS ⊢
                have hP := hP.sub (ws' := [(x, .inr (1, [.ref r, .ref r2, .ref r3])), (r, .inr (0, [.ref a, .ref b, .int (nI n)])), (a, .inl (cI, 768, .inl f)), (b, .inl (cI, 768, .inl g))]) [0, 1, 2, 3] rfl
                have hD := hD.sub (ws' := [(x, .inr (1, [.ref r, .ref r2, .ref r3])), (r, .inr (0, [.ref a, .ref b, .int (nI n)])), (a, .inl (cI, 768, .inl f)), (b, .inl (cI, 768, .inl g))]) [0, 1, 2, 3] (by decide) rfl
                refine lv_goto (tgt := 83) hx hb dX1_row_79 (by decide) ?_
                exact W.iret (v := nI (cr_by (cr_last c0 (hi j)) (ii - 1))) hx hb hr (fun t9 ht9 hW9 => ⟨⟨nI (cr_by (cr_last c0 (hi j)) (ii - 1)), [(x, .inr (1, [.ref r, .ref r2, .ref r3])), (r, .inr (0, [.ref a, .ref b, .int (nI n)])), (a, .inl (cI, 768, .inl f)), (b, .inl (cI, 768, .inl g))], rfl, ⟨rfl, Or.inr ⟨zz, j, t0, hzz, rfl, hj, ht0, hzt, by rw [hc0]; exact (cr_ra_w1 hi1 hi2 hi3 c_56).symm⟩⟩, by rw [ht9]; exact hP, va_K.moved hW9.alike hK, hD⟩, hS.F ht9⟩) hS.2.2 dX1_row_83
            · obtain ⟨ii, hi1, rfl⟩ := cr_of (x := i) (by rw [cr_lt0] at c_30; omega)
              rw [nI_leI (by omega) (by omega)] at c_36
              have hi2 : 1 ≤ ii := Nat.pos_of_ne_zero (fun h => c_23 (by rw [h]; rfl))
              have hi3 : ii ≤ cr_len c0 := c_36
              refine lv_iload hx hb dX1_row_45 (lv_at hl 1 rfl) ?_
              refine lv_iload hx hb dX1_row_47 (lv_at hl 0 rfl) ?_
              refine lv_iload_n hx hb dX1_row_49 rfl (lv_at hl 4 rfl) ?_
              have hPc := hP.sub (ws' := []) [] rfl
              have hDc := hD.sub (ws' := []) [] (by decide) rfl
              have hFc := va_free (wc := []) hD hS hA [] rfl
              refine va_calli (va_runS (As := [.int (nI c0), .int (nI (cr_len c0)), .int (nI ii)]) (rest := []) ⟨hx, hb, hml, hown, hts⟩ (c_byteOf l dC dI _ c0 (cr_len c0) ii rfl (by omega) (by omega) hi3) (va_cwS 3 hts gX1_row_X1_byteOf rfl rfl rfl (by decide +kernel) ⟨Nat.le_of_ble_eq_true rfl, Nat.le_of_ble_eq_true rfl⟩) (cr_preS hPc (hK.sub (tys' := []) [] rfl) hDc) rfl rfl hl.1 rfl (lv_room (Nat.le_of_ble_eq_true rfl)) dX1_row_50 ⟨Nat.zero_le _, Nat.zero_le _⟩) hS (fun q _ h => hFc q h) hFc (fun r_50 u_50 t_50 H_50 locs ht_50 hvm_50 hw_50 hB_50 hz_50 hk_50 hS => ?_)
              obtain ⟨rfl, rfl⟩ := hw_50
              obtain ⟨hP, hD⟩ := cr_back (wr := [(x, .inr (1, [.ref r, .ref r2, .ref r3])), (r, .inr (0, [.ref a, .ref b, .int (nI n)])), (a, .inl (cI, 768, .inl f)), (b, .inl (cI, 768, .inl g))]) (w1 := []) hP hD [] [0, 1, 2, 3] rfl rfl (by decide) (by decide) hk_50 hFc hB_50 ht_50
              clear hPc hDc hFc
              generalize H_50 = H at hP hS ⊢
              have hP := hP.sub (ws' := [(x, .inr (1, [.ref r, .ref r2, .ref r3])), (r, .inr (0, [.ref a, .ref b, .int (nI n)])), (a, .inl (cI, 768, .inl f)), (b, .inl (cI, 768, .inl g))]) [0, 1, 2, 3] rfl
              have hD := hD.sub (ws' := [(x, .inr (1, [.ref r, .ref r2, .ref r3])), (r, .inr (0, [.ref a, .ref b, .int (nI n)])), (a, .inl (cI, 768, .inl f)), (b, .inl (cI, 768, .inl g))]) [0, 1, 2, 3] (by decide) rfl
              exact W.iret (v := nI (cr_by c0 (ii - 1))) hx hb hr (fun t9 ht9 hW9 => ⟨⟨nI (cr_by c0 (ii - 1)), [(x, .inr (1, [.ref r, .ref r2, .ref r3])), (r, .inr (0, [.ref a, .ref b, .int (nI n)])), (a, .inl (cI, 768, .inl f)), (b, .inl (cI, 768, .inl g))], rfl, ⟨rfl, Or.inr ⟨zz, j, t0, hzz, rfl, hj, ht0, hzt, by rw [hc0]; exact (cr_ra_w0 hi1 hi2 hi3 c_42).symm⟩⟩, by rw [ht9]; exact hP, va_K.moved hW9.alike hK, hD⟩, hS.F ht9⟩) hS.2.2 dX1_row_53
          · refine lv_iconst (v := (-1)) hx hb dX1_row_39 (by decide) ?_
            exact W.iret (v := (-1)) hx hb hr (fun t9 ht9 hW9 => ⟨⟨(-1), [(x, .inr (1, [.ref r, .ref r2, .ref r3])), (r, .inr (0, [.ref a, .ref b, .int (nI n)])), (a, .inl (cI, 768, .inl f)), (b, .inl (cI, 768, .inl g))], rfl, ⟨rfl, Or.inr ⟨zz, j, t0, hzz, rfl, hj, ht0, hzt, by rw [hc0]; exact (cr_ra_neg c_23 (Or.inr (Int32.not_le.mp c_36))).symm⟩⟩, by rw [ht9]; exact hP, va_K.moved hW9.alike hK, hD⟩, hS.F ht9⟩) hS.2.2 dX1_row_40
      · refine lv_iload hx hb dX1_row_26 (lv_at hl 0 rfl) ?_
        exact W.iret (v := nI (cr_len c0)) hx hb hr (fun t9 ht9 hW9 => ⟨⟨nI (cr_len c0), [(x, .inr (1, [.ref r, .ref r2, .ref r3])), (r, .inr (0, [.ref a, .ref b, .int (nI n)])), (a, .inl (cI, 768, .inl f)), (b, .inl (cI, 768, .inl g))], rfl, ⟨rfl, Or.inr ⟨zz, j, t0, hzz, rfl, hj, ht0, hzt, by rw [hc0]; exact (cr_ra_0 c_23).symm⟩⟩, by rw [ht9]; exact hP, va_K.moved hW9.alike hK, hD⟩, hS.F ht9⟩) hS.2.2 dX1_row_28
    · exact absurd c_10 (cr_ne_m1 (by omega))

set_option maxHeartbeats 4000000 in
set_option maxRecDepth 100000 in
theorem c_takes (l : Launch) (dC : Nat → ClassId) (dI : Nat → Nat → Nat) (sz : Nat) (x r r2 r3 a b : Nat) (cI : ClassId) (n : Nat) (f g : Nat → Int32) (S : Nat → Prop) (hSet : cr_Set n f g S) (hn : n ≤ 768) (y z : Int32) : Met l yX1_takes wsX1_takes ({ frames := 4, cells := 0, slots := 0, locals := 140 }) (va_Pc [.ref x, .int y, .int z] (cr_preN dC dI [(cI, .int)] [(x, .inr (1, [.ref r, .ref r2, .ref r3])), (r, .inr (0, [.ref a, .ref b, .int (nI n)])), (a, .inl (cI, 768, .inl f)), (b, .inl (cI, 768, .inl g))] sz)) (va_Qi (fun (rr : Int32) (u : va_W) => u = [(x, .inr (1, [.ref r, .ref r2, .ref r3])), (r, .inr (0, [.ref a, .ref b, .int (nI n)])), (a, .inl (cI, 768, .inl f)), (b, .inl (cI, 768, .inl g))] ∧ cr_zb rr (cr_Tk S y z)) (cr_at dC dI [(cI, .int)] (va_A [(x, .inr (1, [.ref r, .ref r2, .ref r3])), (r, .inr (0, [.ref a, .ref b, .int (nI n)])), (a, .inl (cI, 768, .inl f)), (b, .inl (cI, 768, .inl g))] sz)) (va_A [(x, .inr (1, [.ref r, .ref r2, .ref r3])), (r, .inr (0, [.ref a, .ref b, .int (nI n)])), (a, .inl (cI, 768, .inl f)), (b, .inl (cI, 768, .inl g))] sz)) 0 0 (va_A [(x, .inr (1, [.ref r, .ref r2, .ref r3])), (r, .inr (0, [.ref a, .ref b, .int (nI n)])), (a, .inl (cI, 768, .inl f)), (b, .inl (cI, 768, .inl g))] sz) := by
  refine Met.ofW (cc := cX1_takes) (maxL := 4) (ret := (some .boolean)) (by decide) rfl ?_
  intro p e s m args below meth c s₁ B hml hv
  obtain ⟨rfl, ⟨hsz, hP, hK, hD0⟩, hN⟩ := hv
  have hx := B.exec
  have hb := B.bytes
  have hr := B.returns
  have hts := atoms_spec (ws := wsX1_takes) B.pre
  have hown : s.vm.findClass RX1 = some m.cls := findClass_of_methodNamed B.named
  have hlocks := B.notSynchronized
  subst hsz
  have hD := hD0.self (sz := s.heap.size)
  generalize hAe : va_A [(x, .inr (1, [.ref r, .ref r2, .ref r3])), (r, .inr (0, [.ref a, .ref b, .int (nI n)])), (a, .inl (cI, 768, .inl f)), (b, .inl (cI, 768, .inl g))] s.heap.size = A at hD ⊢
  have hA : ∀ q : Nat, s.heap.size ≤ q → A q := fun q h => by rw [← hAe]; exact Or.inr h
  have hS : va_S A s.heap s.heap [] := va_S.rf
  have hP : va_P (dC, dI) crCl [(x, .inr (1, [.ref r, .ref r2, .ref r3])), (r, .inr (0, [.ref a, .ref b, .int (nI n)])), (a, .inl (cI, 768, .inl f)), (b, .inl (cI, 768, .inl g))] s.heap := hP
  have hl := lv_entry ([.ref x, .int y, .int z]) (n := 4) (Nat.le_of_ble_eq_true rfl)
  rw [lg_entry_eq]
  generalize (lg_sl ([.ref x, .int y, .int z]) ++ List.replicate (4 - (lg_sl ([.ref x, .int y, .int z])).length) Slot.unset).toArray = ls at hl ⊢
  have hl : lv_has ls 4 [(0, .ref x), (1, .int y), (2, .int z)] := hl
  refine lv_iload_n hx hb dX1_takes_0 rfl (lv_at hl 2 rfl) ?_
  refine lv_iconst (v := nI 1) hx hb dX1_takes_1 (by decide) ?_
  refine lv_icmp_lt (tgt := 10) hx hb dX1_takes_2 (by decide) (fun c_2 => ?_) (fun c_2 => ?_)
  · refine lv_iconst (v := nI 0) hx hb dX1_takes_10 (by decide) ?_
    exact W.zret (v := nI 0) (ty := .boolean) hx hb hr (by first | rfl | decide) (fun t9 ht9 hW9 => ⟨⟨nI 0, [(x, .inr (1, [.ref r, .ref r2, .ref r3])), (r, .inr (0, [.ref a, .ref b, .int (nI n)])), (a, .inl (cI, 768, .inl f)), (b, .inl (cI, 768, .inl g))], rfl, ⟨rfl, Or.inr ⟨rfl, cr_Tk_out (by rw [Int32.lt_iff_toInt_lt, nI_toInt (by decide)] at c_2; omega)⟩⟩, by rw [ht9]; exact hP, va_K.moved hW9.alike hK, hD⟩, hS.F ht9⟩) hS.2.2 dX1_takes_11
  · refine lv_iload_n hx hb dX1_takes_5 rfl (lv_at hl 2 rfl) ?_
    refine lv_iconst (v := nI 4) hx hb dX1_takes_6 (by decide) ?_
    refine lv_icmp_le (tgt := 12) hx hb dX1_takes_7 (by decide) (fun c_7 => ?_) (fun c_7 => ?_)
    · rw [Int32.lt_iff_toInt_lt, nI_toInt (by decide)] at c_2
      rw [Int32.le_iff_toInt_le, nI_toInt (by decide)] at c_7
      obtain ⟨zz, hzz, rfl⟩ := cr_of (x := z) (by omega)
      rw [nI_toInt hzz] at c_2 c_7
      have hz1 : 1 ≤ zz := by omega
      have hz2 : zz ≤ 4 := by omega
      have hdl := cr_dec_lt y zz
      refine lv_iload_n hx hb dX1_takes_12 rfl (lv_at hl 1 rfl) ?_
      refine lv_iload_n hx hb dX1_takes_13 rfl (lv_at hl 2 rfl) ?_
      have hPc := hP.sub (ws' := []) [] rfl
      have hDc := hD.sub (ws' := []) [] (by decide) rfl
      have hFc := va_free (wc := []) hD hS hA [] rfl
      refine va_calli (va_runS (As := [.int y, .int (nI zz)]) (rest := []) ⟨hx, hb, hml, hown, hts⟩ (c_decode l dC dI _ y zz hz1 hz2) (va_cwS 2 hts gX1_takes_X1_decode rfl rfl rfl (by decide +kernel) ⟨Nat.le_of_ble_eq_true rfl, Nat.le_of_ble_eq_true rfl⟩) (cr_preS hPc (hK.sub (tys' := []) [] rfl) hDc) rfl rfl hl.1 rfl (lv_room (Nat.le_of_ble_eq_true rfl)) dX1_takes_14 ⟨Nat.zero_le _, Nat.zero_le _⟩) hS (fun q _ h => hFc q h) hFc (fun r_14 u_14 t_14 H_14 locs ht_14 hvm_14 hw_14 hB_14 hz_14 hk_14 hS => ?_)
      obtain ⟨rfl, rfl⟩ := hw_14
      obtain ⟨hP, hD⟩ := cr_back (wr := [(x, .inr (1, [.ref r, .ref r2, .ref r3])), (r, .inr (0, [.ref a, .ref b, .int (nI n)])), (a, .inl (cI, 768, .inl f)), (b, .inl (cI, 768, .inl g))]) (w1 := []) hP hD [] [0, 1, 2, 3] rfl rfl (by decide) (by decide) hk_14 hFc hB_14 ht_14
      clear hPc hDc hFc
      generalize H_14 = H at hP hS ⊢
      have hP := hP.sub (ws' := [(x, .inr (1, [.ref r, .ref r2, .ref r3])), (r, .inr (0, [.ref a, .ref b, .int (nI n)])), (a, .inl (cI, 768, .inl f)), (b, .inl (cI, 768, .inl g))]) [0, 1, 2, 3] rfl
      have hD := hD.sub (ws' := [(x, .inr (1, [.ref r, .ref r2, .ref r3])), (r, .inr (0, [.ref a, .ref b, .int (nI n)])), (a, .inl (cI, 768, .inl f)), (b, .inl (cI, 768, .inl g))]) [0, 1, 2, 3] (by decide) rfl
      refine lv_istore_n (lv' := [(3, .int (nI (cr_dec y zz))), (0, .ref x), (1, .int y), (2, .int (nI zz))]) hx hb dX1_takes_17 rfl hl (by decide) rfl (fun ls hl => ?_)
      refine lv_aload_n hx hb dX1_takes_18 rfl (lv_at hl 1 rfl) ?_
      refine va_get (D := (dC, dI)) (ci := 1) (v := .ref r) (C := RX1) (T := TX1) (N := 3) hx hb hts (by decide +kernel) hown hK hP 0 rfl rfl 0 (by decide) (hts (.fieldLink RX1 10 "CharRows" "held" "LCharRows$Ranges;") (by decide +kernel)) (fun _ h9 => h9) rfl dX1_takes_19 ?_
      refine lv_iload_n hx hb dX1_takes_22 rfl (lv_at hl 0 rfl) ?_
      have hPc := hP.sub (ws' := [(r, .inr (0, [.ref a, .ref b, .int (nI n)])), (a, .inl (cI, 768, .inl f)), (b, .inl (cI, 768, .inl g))]) [1, 2, 3] rfl
      have hDc := hD.sub (ws' := [(r, .inr (0, [.ref a, .ref b, .int (nI n)])), (a, .inl (cI, 768, .inl f)), (b, .inl (cI, 768, .inl g))]) [1, 2, 3] (by decide) rfl
      have hFc := va_free (wc := [(r, .inr (0, [.ref a, .ref b, .int (nI n)])), (a, .inl (cI, 768, .inl f)), (b, .inl (cI, 768, .inl g))]) hD hS hA [1, 2, 3] rfl
      refine va_calli (va_runVN (As := [.int (nI (cr_dec y zz))]) (rest := []) ⟨hx, hb, hml, hown, hts⟩ (c_holds l dC dI _ r a b cI n f g S hSet hn (nI (cr_dec y zz))) (⟨va_cnB (host := "CharRows") 1 hts gX1_takes_X0_holds_n62 rfl rfl rfl (hN _ nw_62) (hts (.initialized RX0) (by decide +kernel)) (by decide +kernel) ⟨Nat.le_of_ble_eq_true rfl, Nat.le_of_ble_eq_true rfl⟩, hts (.instanceMethod yX0_holds) (by decide +kernel), hts (.selects RX0 yX0_holds yX0_holds) (by decide +kernel)⟩) (cr_preV hPc hK hDc (ci := 0) (q0 := 0) rfl rfl) rfl rfl hl.1 rfl (lv_room (Nat.le_of_ble_eq_true rfl)) dX1_takes_23 ⟨Nat.zero_le _, Nat.zero_le _⟩) hS (fun q _ h => hFc q h) hFc (fun r_23 u_23 t_23 H_23 locs ht_23 hvm_23 hw_23 hB_23 hz_23 hk_23 hS => ?_)
      obtain ⟨rfl, hz_23⟩ := hw_23
      rw [cr_Hs_big hSet (by omega)] at hz_23
      obtain ⟨hP, hD⟩ := cr_back (wr := [(x, .inr (1, [.ref r, .ref r2, .ref r3]))]) (w1 := [(r, .inr (0, [.ref a, .ref b, .int (nI n)])), (a, .inl (cI, 768, .inl f)), (b, .inl (cI, 768, .inl g))]) hP hD [1, 2, 3] [0] rfl rfl (by decide) (by decide) hk_23 hFc hB_23 ht_23
      clear hPc hDc hFc
      generalize H_23 = H at hP hS ⊢
      have hP := hP.sub (ws' := [(x, .inr (1, [.ref r, .ref r2, .ref r3])), (r, .inr (0, [.ref a, .ref b, .int (nI n)])), (a, .inl (cI, 768, .inl f)), (b, .inl (cI, 768, .inl g))]) [0, 1, 2, 3] rfl
      have hD := hD.sub (ws' := [(x, .inr (1, [.ref r, .ref r2, .ref r3])), (r, .inr (0, [.ref a, .ref b, .int (nI n)])), (a, .inl (cI, 768, .inl f)), (b, .inl (cI, 768, .inl g))]) [0, 1, 2, 3] (by decide) rfl
      rcases hz_23 with ⟨rfl, hA1⟩ | ⟨rfl, hA1⟩
      · refine lv_if_eq (tgt := 50) hx hb dX1_takes_26 (by decide) (fun c_26 => ?_) (fun c_26 => ?_)
        · exact absurd c_26 (by decide)
        · refine lv_iload_n hx hb dX1_takes_29 rfl (lv_at hl 0 rfl) ?_
          have hPc := hP.sub (ws' := []) [] rfl
          have hDc := hD.sub (ws' := []) [] (by decide) rfl
          have hFc := va_free (wc := []) hD hS hA [] rfl
          refine va_calli (va_runS (As := [.int (nI (cr_dec y zz))]) (rest := []) ⟨hx, hb, hml, hown, hts⟩ (c_byteCount l dC dI _ (cr_dec y zz) (by omega)) (va_cwS 1 hts gX1_takes_X1_byteCount rfl rfl rfl (by decide +kernel) ⟨Nat.le_of_ble_eq_true rfl, Nat.le_of_ble_eq_true rfl⟩) (cr_preS hPc (hK.sub (tys' := []) [] rfl) hDc) rfl rfl hl.1 rfl (lv_room (Nat.le_of_ble_eq_true rfl)) dX1_takes_30 ⟨Nat.zero_le _, Nat.zero_le _⟩) hS (fun q _ h => hFc q h) hFc (fun r_30 u_30 t_30 H_30 locs ht_30 hvm_30 hw_30 hB_30 hz_30 hk_30 hS => ?_)
          obtain ⟨rfl, rfl⟩ := hw_30
          obtain ⟨hP, hD⟩ := cr_back (wr := [(x, .inr (1, [.ref r, .ref r2, .ref r3])), (r, .inr (0, [.ref a, .ref b, .int (nI n)])), (a, .inl (cI, 768, .inl f)), (b, .inl (cI, 768, .inl g))]) (w1 := []) hP hD [] [0, 1, 2, 3] rfl rfl (by decide) (by decide) hk_30 hFc hB_30 ht_30
          clear hPc hDc hFc
          generalize H_30 = H at hP hS ⊢
          have hP := hP.sub (ws' := [(x, .inr (1, [.ref r, .ref r2, .ref r3])), (r, .inr (0, [.ref a, .ref b, .int (nI n)])), (a, .inl (cI, 768, .inl f)), (b, .inl (cI, 768, .inl g))]) [0, 1, 2, 3] rfl
          have hD := hD.sub (ws' := [(x, .inr (1, [.ref r, .ref r2, .ref r3])), (r, .inr (0, [.ref a, .ref b, .int (nI n)])), (a, .inl (cI, 768, .inl f)), (b, .inl (cI, 768, .inl g))]) [0, 1, 2, 3] (by decide) rfl
          refine lv_iload_n hx hb dX1_takes_33 rfl (lv_at hl 3 rfl) ?_
          refine lv_icmp_ne (tgt := 50) hx hb dX1_takes_34 (by decide) (fun c_34 => ?_) (fun c_34 => ?_)
          · have hlen := cr_len_in (cr_dec y zz)
            rw [nI_eq (by omega) (by omega)] at c_34
            refine lv_iconst (v := nI 0) hx hb dX1_takes_50 (by decide) ?_
            exact W.zret (v := nI 0) (ty := .boolean) hx hb hr (by first | rfl | decide) (fun t9 ht9 hW9 => ⟨⟨nI 0, [(x, .inr (1, [.ref r, .ref r2, .ref r3])), (r, .inr (0, [.ref a, .ref b, .int (nI n)])), (a, .inl (cI, 768, .inl f)), (b, .inl (cI, 768, .inl g))], rfl, ⟨rfl, Or.inr ⟨rfl, fun h => c_34 (cr_Tk_len hSet hz1 hz2 h)⟩⟩, by rw [ht9]; exact hP, va_K.moved hW9.alike hK, hD⟩, hS.F ht9⟩) hS.2.2 dX1_takes_51
          · have hlen := cr_len_in (cr_dec y zz)
            rw [nI_eq (by omega) (by omega)] at c_34
            have hcl := (hSet.char hA1).1
            refine lv_iload_n hx hb dX1_takes_37 rfl (lv_at hl 0 rfl) ?_
            refine lv_iload_n hx hb dX1_takes_38 rfl (lv_at hl 2 rfl) ?_
            refine lv_iload_n hx hb dX1_takes_39 rfl (lv_at hl 3 rfl) ?_
            have hPc := hP.sub (ws' := []) [] rfl
            have hDc := hD.sub (ws' := []) [] (by decide) rfl
            have hFc := va_free (wc := []) hD hS hA [] rfl
            refine va_calli (va_runS (As := [.int (nI (cr_dec y zz)), .int y, .int (nI zz)]) (rest := []) ⟨hx, hb, hml, hown, hts⟩ (c_startsWithBytesOf l dC dI _ (cr_dec y zz) y zz c_34 hcl) (va_cwS 3 hts gX1_takes_X1_startsWithBytesOf rfl rfl rfl (by decide +kernel) ⟨Nat.le_of_ble_eq_true rfl, Nat.le_of_ble_eq_true rfl⟩) (cr_preS hPc (hK.sub (tys' := []) [] rfl) hDc) rfl rfl hl.1 rfl (lv_room (Nat.le_of_ble_eq_true rfl)) dX1_takes_40 ⟨Nat.zero_le _, Nat.zero_le _⟩) hS (fun q _ h => hFc q h) hFc (fun r_40 u_40 t_40 H_40 locs ht_40 hvm_40 hw_40 hB_40 hz_40 hk_40 hS => ?_)
            obtain ⟨rfl, hz_40⟩ := hw_40
            obtain ⟨hP, hD⟩ := cr_back (wr := [(x, .inr (1, [.ref r, .ref r2, .ref r3])), (r, .inr (0, [.ref a, .ref b, .int (nI n)])), (a, .inl (cI, 768, .inl f)), (b, .inl (cI, 768, .inl g))]) (w1 := []) hP hD [] [0, 1, 2, 3] rfl rfl (by decide) (by decide) hk_40 hFc hB_40 ht_40
            clear hPc hDc hFc
            generalize H_40 = H at hP hS ⊢
            have hP := hP.sub (ws' := [(x, .inr (1, [.ref r, .ref r2, .ref r3])), (r, .inr (0, [.ref a, .ref b, .int (nI n)])), (a, .inl (cI, 768, .inl f)), (b, .inl (cI, 768, .inl g))]) [0, 1, 2, 3] rfl
            have hD := hD.sub (ws' := [(x, .inr (1, [.ref r, .ref r2, .ref r3])), (r, .inr (0, [.ref a, .ref b, .int (nI n)])), (a, .inl (cI, 768, .inl f)), (b, .inl (cI, 768, .inl g))]) [0, 1, 2, 3] (by decide) rfl
            rcases hz_40 with ⟨rfl, hA2⟩ | ⟨rfl, hA2⟩
            · refine lv_if_eq (tgt := 50) hx hb dX1_takes_43 (by decide) (fun c_43 => ?_) (fun c_43 => ?_)
              · exact absurd c_43 (by decide)
              · refine lv_iconst (v := nI 1) hx hb dX1_takes_46 (by decide) ?_
                refine lv_goto (tgt := 51) hx hb dX1_takes_47 (by decide) ?_
                exact W.zret (v := nI 1) (ty := .boolean) hx hb hr (by first | rfl | decide) (fun t9 ht9 hW9 => ⟨⟨nI 1, [(x, .inr (1, [.ref r, .ref r2, .ref r3])), (r, .inr (0, [.ref a, .ref b, .int (nI n)])), (a, .inl (cI, 768, .inl f)), (b, .inl (cI, 768, .inl g))], rfl, ⟨rfl, Or.inl ⟨rfl, ⟨zz, _, rfl, hz1, hz2, hA1, c_34, hA2⟩⟩⟩, by rw [ht9]; exact hP, va_K.moved hW9.alike hK, hD⟩, hS.F ht9⟩) hS.2.2 dX1_takes_51
            · refine lv_if_eq (tgt := 50) hx hb dX1_takes_43 (by decide) (fun c_43 => ?_) (fun c_43 => ?_)
              · refine lv_iconst (v := nI 0) hx hb dX1_takes_50 (by decide) ?_
                exact W.zret (v := nI 0) (ty := .boolean) hx hb hr (by first | rfl | decide) (fun t9 ht9 hW9 => ⟨⟨nI 0, [(x, .inr (1, [.ref r, .ref r2, .ref r3])), (r, .inr (0, [.ref a, .ref b, .int (nI n)])), (a, .inl (cI, 768, .inl f)), (b, .inl (cI, 768, .inl g))], rfl, ⟨rfl, Or.inr ⟨rfl, fun h => hA2 (cr_Tk_by hSet hz1 hz2 h)⟩⟩, by rw [ht9]; exact hP, va_K.moved hW9.alike hK, hD⟩, hS.F ht9⟩) hS.2.2 dX1_takes_51
              · exact absurd (by decide) c_43
      · refine lv_if_eq (tgt := 50) hx hb dX1_takes_26 (by decide) (fun c_26 => ?_) (fun c_26 => ?_)
        · refine lv_iconst (v := nI 0) hx hb dX1_takes_50 (by decide) ?_
          exact W.zret (v := nI 0) (ty := .boolean) hx hb hr (by first | rfl | decide) (fun t9 ht9 hW9 => ⟨⟨nI 0, [(x, .inr (1, [.ref r, .ref r2, .ref r3])), (r, .inr (0, [.ref a, .ref b, .int (nI n)])), (a, .inl (cI, 768, .inl f)), (b, .inl (cI, 768, .inl g))], rfl, ⟨rfl, Or.inr ⟨rfl, fun h => hA1 (cr_Tk_S hSet hz1 hz2 h)⟩⟩, by rw [ht9]; exact hP, va_K.moved hW9.alike hK, hD⟩, hS.F ht9⟩) hS.2.2 dX1_takes_51
        · exact absurd (by decide) c_26
    · refine lv_iconst (v := nI 0) hx hb dX1_takes_10 (by decide) ?_
      exact W.zret (v := nI 0) (ty := .boolean) hx hb hr (by first | rfl | decide) (fun t9 ht9 hW9 => ⟨⟨nI 0, [(x, .inr (1, [.ref r, .ref r2, .ref r3])), (r, .inr (0, [.ref a, .ref b, .int (nI n)])), (a, .inl (cI, 768, .inl f)), (b, .inl (cI, 768, .inl g))], rfl, ⟨rfl, Or.inr ⟨rfl, cr_Tk_out (by rw [Int32.le_iff_toInt_le, nI_toInt (by decide)] at c_7; omega)⟩⟩, by rw [ht9]; exact hP, va_K.moved hW9.alike hK, hD⟩, hS.F ht9⟩) hS.2.2 dX1_takes_11

