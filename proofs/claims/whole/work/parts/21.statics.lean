set_option maxHeartbeats 4000000 in
set_option maxRecDepth 100000 in
theorem c_lastOfLength (l : Launch) (dC : Nat → ClassId) (dI : Nat → Nat → Nat) (sz : Nat) (L : Nat) (h1 : 1 ≤ L) (h4 : L ≤ 4) : Met l yX1_lastOfLength wsX1_lastOfLength ({ frames := 1, cells := 0, slots := 0, locals := 20 }) (va_Pc [.int (nI L)] (cr_pre dC dI [] [] sz)) (va_Qi (fun (rr : Int32) (u : va_W) => u = [] ∧ rr = nI (cr_lol L)) (cr_at dC dI [] (va_A [] sz)) (va_A [] sz)) 0 0 (va_A [] sz) := by
  refine Met.ofW (cc := cX1_lastOfLength) (maxL := 1) (ret := (some .int)) (by decide) rfl ?_
  intro p e s m args below meth c s₁ B hml hv
  obtain ⟨rfl, hsz, hP, hK, hD0⟩ := hv
  have hx := B.exec
  have hb := B.bytes
  have hr := B.returns
  have hts := atoms_spec (ws := wsX1_lastOfLength) B.pre
  have hown : s.vm.findClass RX1 = some m.cls := findClass_of_methodNamed B.named
  have hlocks := B.notSynchronized
  subst hsz
  have hD := hD0.self (sz := s.heap.size)
  generalize hAe : va_A [] s.heap.size = A at hD ⊢
  have hA : ∀ q : Nat, s.heap.size ≤ q → A q := fun q h => by rw [← hAe]; exact Or.inr h
  have hS : va_S A s.heap s.heap [] := va_S.rf
  have hP : va_P (dC, dI) crCl [] s.heap := hP
  have hl := lv_entry ([.int (nI L)]) (n := 1) (Nat.le_of_ble_eq_true rfl)
  rw [lg_entry_eq]
  generalize (lg_sl ([.int (nI L)]) ++ List.replicate (1 - (lg_sl ([.int (nI L)])).length) Slot.unset).toArray = ls at hl ⊢
  have hl : lv_has ls 1 [(0, .int (nI L))] := hl
  rcases (show L = 1 ∨ L = 2 ∨ L = 3 ∨ L = 4 by omega) with rfl | rfl | rfl | rfl
  · refine lv_iload_n hx hb dX1_lastOfLength_0 rfl (lv_at hl 0 rfl) ?_
    refine lv_tableIn (tgt := 28) hx hb dX1_lastOfLength_1 (by decide) (by decide) rfl (by decide) ?_
    refine lv_bipush (v := nI 127) hx hb dX1_lastOfLength_28 (by decide) ?_
    exact W.iret (v := nI 127) hx hb hr (fun t9 ht9 hW9 => ⟨⟨nI 127, [], rfl, ⟨rfl, rfl⟩, by rw [ht9]; exact hP, va_K.moved hW9.alike hK, hD⟩, hS.F ht9⟩) hS.2.2 dX1_lastOfLength_30
  · refine lv_iload_n hx hb dX1_lastOfLength_0 rfl (lv_at hl 0 rfl) ?_
    refine lv_tableIn (tgt := 31) hx hb dX1_lastOfLength_1 (by decide) (by decide) rfl (by decide) ?_
    refine lv_sipush (v := nI 2047) hx hb dX1_lastOfLength_31 (by decide) ?_
    exact W.iret (v := nI 2047) hx hb hr (fun t9 ht9 hW9 => ⟨⟨nI 2047, [], rfl, ⟨rfl, rfl⟩, by rw [ht9]; exact hP, va_K.moved hW9.alike hK, hD⟩, hS.F ht9⟩) hS.2.2 dX1_lastOfLength_34
  · refine lv_iload_n hx hb dX1_lastOfLength_0 rfl (lv_at hl 0 rfl) ?_
    refine lv_tableIn (tgt := 35) hx hb dX1_lastOfLength_1 (by decide) (by decide) rfl (by decide) ?_
    refine lv_ldc (v := nI 65535) hx hb hown (hts (.constant RX1 119 (nI 65535)) (by decide +kernel)) dX1_lastOfLength_35 ?_
    exact W.iret (v := nI 65535) hx hb hr (fun t9 ht9 hW9 => ⟨⟨nI 65535, [], rfl, ⟨rfl, rfl⟩, by rw [ht9]; exact hP, va_K.moved hW9.alike hK, hD⟩, hS.F ht9⟩) hS.2.2 dX1_lastOfLength_37
  · refine lv_iload_n hx hb dX1_lastOfLength_0 rfl (lv_at hl 0 rfl) ?_
    refine lv_tableOut (tgt := 38) hx hb dX1_lastOfLength_1 (by decide) (by decide) ?_
    refine lv_ldc (v := nI 1114111) hx hb hown (hts (.constant RX1 22 (nI 1114111)) (by decide +kernel)) dX1_lastOfLength_38 ?_
    exact W.iret (v := nI 1114111) hx hb hr (fun t9 ht9 hW9 => ⟨⟨nI 1114111, [], rfl, ⟨rfl, rfl⟩, by rw [ht9]; exact hP, va_K.moved hW9.alike hK, hD⟩, hS.F ht9⟩) hS.2.2 dX1_lastOfLength_40

set_option maxHeartbeats 4000000 in
set_option maxRecDepth 100000 in
theorem c_byteCount (l : Launch) (dC : Nat → ClassId) (dI : Nat → Nat → Nat) (sz : Nat) (c0 : Nat) (hc : c0 < 2 ^ 31) : Met l yX1_byteCount wsX1_byteCount ({ frames := 2, cells := 0, slots := 0, locals := 60 }) (va_Pc [.int (nI c0)] (cr_pre dC dI [] [] sz)) (va_Qi (fun (rr : Int32) (u : va_W) => u = [] ∧ rr = nI (cr_len c0)) (cr_at dC dI [] (va_A [] sz)) (va_A [] sz)) 0 0 (va_A [] sz) := by
  refine Met.ofW (cc := cX1_byteCount) (maxL := 1) (ret := (some .int)) (by decide) rfl ?_
  intro p e s m args below meth c s₁ B hml hv
  obtain ⟨rfl, hsz, hP, hK, hD0⟩ := hv
  have hx := B.exec
  have hb := B.bytes
  have hr := B.returns
  have hts := atoms_spec (ws := wsX1_byteCount) B.pre
  have hown : s.vm.findClass RX1 = some m.cls := findClass_of_methodNamed B.named
  have hlocks := B.notSynchronized
  subst hsz
  have hD := hD0.self (sz := s.heap.size)
  generalize hAe : va_A [] s.heap.size = A at hD ⊢
  have hA : ∀ q : Nat, s.heap.size ≤ q → A q := fun q h => by rw [← hAe]; exact Or.inr h
  have hS : va_S A s.heap s.heap [] := va_S.rf
  have hP : va_P (dC, dI) crCl [] s.heap := hP
  have hl := lv_entry ([.int (nI c0)]) (n := 1) (Nat.le_of_ble_eq_true rfl)
  rw [lg_entry_eq]
  generalize (lg_sl ([.int (nI c0)]) ++ List.replicate (1 - (lg_sl ([.int (nI c0)])).length) Slot.unset).toArray = ls at hl ⊢
  have hl : lv_has ls 1 [(0, .int (nI c0))] := hl
  refine lv_iload_n hx hb dX1_byteCount_0 rfl (lv_at hl 0 rfl) ?_
  refine lv_iconst (v := nI 1) hx hb dX1_byteCount_1 (by decide) ?_
  have hPc := hP.sub (ws' := []) [] rfl
  have hDc := hD.sub (ws' := []) [] (by decide) rfl
  have hFc := va_free (wc := []) hD hS hA [] rfl
  refine va_calli (va_runS (As := [.int (nI 1)]) (rest := [.int (nI c0)]) ⟨hx, hb, hml, hown, hts⟩ (c_lastOfLength l dC dI _ 1 (by decide) (by decide)) (va_cwS 1 hts gX1_byteCount_X1_lastOfLength rfl rfl rfl (by decide +kernel) ⟨Nat.le_of_ble_eq_true rfl, Nat.le_of_ble_eq_true rfl⟩) (cr_preS hPc hK hDc) rfl rfl hl.1 rfl (lv_room (Nat.le_of_ble_eq_true rfl)) dX1_byteCount_2 ⟨Nat.zero_le _, Nat.zero_le _⟩) hS (fun q _ h => hFc q h) hFc (fun r_2 u_2 t_2 H_2 locs ht_2 hvm_2 hw_2 hB_2 hz_2 hk_2 hS => ?_)
  obtain ⟨rfl, rfl⟩ := hw_2
  obtain ⟨hP, hD⟩ := cr_back (wr := []) (w1 := []) hP hD [] [] rfl rfl (by decide) (by decide) hk_2 hFc hB_2 ht_2
  clear hPc hDc hFc
  generalize H_2 = H at hP hS ⊢
  have hP := hP.sub (ws' := []) [] rfl
  have hD := hD.sub (ws' := []) [] (by decide) rfl
  refine lv_icmp_gt (tgt := 10) hx hb dX1_byteCount_5 (by decide) (fun c_5 => ?_) (fun c_5 => ?_)
  · rw [show cr_lol 1 = 127 from rfl, nI_ltI (by omega) (by omega)] at c_5
    refine lv_iload_n hx hb dX1_byteCount_10 rfl (lv_at hl 0 rfl) ?_
    refine lv_iconst (v := nI 2) hx hb dX1_byteCount_11 (by decide) ?_
    have hPc := hP.sub (ws' := []) [] rfl
    have hDc := hD.sub (ws' := []) [] (by decide) rfl
    have hFc := va_free (wc := []) hD hS hA [] rfl
    refine va_calli (va_runS (As := [.int (nI 2)]) (rest := [.int (nI c0)]) ⟨hx, hb, hml, hown, hts⟩ (c_lastOfLength l dC dI _ 2 (by decide) (by decide)) (va_cwS 1 hts gX1_byteCount_X1_lastOfLength rfl rfl rfl (by decide +kernel) ⟨Nat.le_of_ble_eq_true rfl, Nat.le_of_ble_eq_true rfl⟩) (cr_preS hPc hK hDc) rfl rfl hl.1 rfl (lv_room (Nat.le_of_ble_eq_true rfl)) dX1_byteCount_12 ⟨Nat.zero_le _, Nat.zero_le _⟩) hS (fun q _ h => hFc q h) hFc (fun r_12 u_12 t_12 H_12 locs ht_12 hvm_12 hw_12 hB_12 hz_12 hk_12 hS => ?_)
    obtain ⟨rfl, rfl⟩ := hw_12
    obtain ⟨hP, hD⟩ := cr_back (wr := []) (w1 := []) hP hD [] [] rfl rfl (by decide) (by decide) hk_12 hFc hB_12 ht_12
    clear hPc hDc hFc
    generalize H_12 = H at hP hS ⊢
    have hP := hP.sub (ws' := []) [] rfl
    have hD := hD.sub (ws' := []) [] (by decide) rfl
    refine lv_icmp_gt (tgt := 20) hx hb dX1_byteCount_15 (by decide) (fun c_15 => ?_) (fun c_15 => ?_)
    · rw [show cr_lol 2 = 2047 from rfl, nI_ltI (by omega) (by omega)] at c_15
      refine lv_iload_n hx hb dX1_byteCount_20 rfl (lv_at hl 0 rfl) ?_
      refine lv_iconst (v := nI 3) hx hb dX1_byteCount_21 (by decide) ?_
      have hPc := hP.sub (ws' := []) [] rfl
      have hDc := hD.sub (ws' := []) [] (by decide) rfl
      have hFc := va_free (wc := []) hD hS hA [] rfl
      refine va_calli (va_runS (As := [.int (nI 3)]) (rest := [.int (nI c0)]) ⟨hx, hb, hml, hown, hts⟩ (c_lastOfLength l dC dI _ 3 (by decide) (by decide)) (va_cwS 1 hts gX1_byteCount_X1_lastOfLength rfl rfl rfl (by decide +kernel) ⟨Nat.le_of_ble_eq_true rfl, Nat.le_of_ble_eq_true rfl⟩) (cr_preS hPc hK hDc) rfl rfl hl.1 rfl (lv_room (Nat.le_of_ble_eq_true rfl)) dX1_byteCount_22 ⟨Nat.zero_le _, Nat.zero_le _⟩) hS (fun q _ h => hFc q h) hFc (fun r_22 u_22 t_22 H_22 locs ht_22 hvm_22 hw_22 hB_22 hz_22 hk_22 hS => ?_)
      obtain ⟨rfl, rfl⟩ := hw_22
      obtain ⟨hP, hD⟩ := cr_back (wr := []) (w1 := []) hP hD [] [] rfl rfl (by decide) (by decide) hk_22 hFc hB_22 ht_22
      clear hPc hDc hFc
      generalize H_22 = H at hP hS ⊢
      have hP := hP.sub (ws' := []) [] rfl
      have hD := hD.sub (ws' := []) [] (by decide) rfl
      refine lv_icmp_gt (tgt := 32) hx hb dX1_byteCount_25 (by decide) (fun c_25 => ?_) (fun c_25 => ?_)
      · rw [show cr_lol 3 = 65535 from rfl, nI_ltI (by omega) (by omega)] at c_25
        refine lv_iconst (v := nI 4) hx hb dX1_byteCount_32 (by decide) ?_
        exact W.iret (v := nI 4) hx hb hr (fun t9 ht9 hW9 => ⟨⟨nI 4, [], rfl, ⟨rfl, by rw [cr_len_eq4 (by omega)]⟩, by rw [ht9]; exact hP, va_K.moved hW9.alike hK, hD⟩, hS.F ht9⟩) hS.2.2 dX1_byteCount_33
      · rw [show cr_lol 3 = 65535 from rfl, nI_ltI (by omega) (by omega)] at c_25
        refine lv_iconst (v := nI 3) hx hb dX1_byteCount_28 (by decide) ?_
        refine lv_goto (tgt := 33) hx hb dX1_byteCount_29 (by decide) ?_
        exact W.iret (v := nI 3) hx hb hr (fun t9 ht9 hW9 => ⟨⟨nI 3, [], rfl, ⟨rfl, by rw [cr_len_eq3 (by omega) (by omega)]⟩, by rw [ht9]; exact hP, va_K.moved hW9.alike hK, hD⟩, hS.F ht9⟩) hS.2.2 dX1_byteCount_33
    · rw [show cr_lol 2 = 2047 from rfl, nI_ltI (by omega) (by omega)] at c_15
      refine lv_iconst (v := nI 2) hx hb dX1_byteCount_18 (by decide) ?_
      exact W.iret (v := nI 2) hx hb hr (fun t9 ht9 hW9 => ⟨⟨nI 2, [], rfl, ⟨rfl, by rw [cr_len_eq2 (by omega) (by omega)]⟩, by rw [ht9]; exact hP, va_K.moved hW9.alike hK, hD⟩, hS.F ht9⟩) hS.2.2 dX1_byteCount_19
  · rw [show cr_lol 1 = 127 from rfl, nI_ltI (by omega) (by omega)] at c_5
    refine lv_iconst (v := nI 1) hx hb dX1_byteCount_8 (by decide) ?_
    exact W.iret (v := nI 1) hx hb hr (fun t9 ht9 hW9 => ⟨⟨nI 1, [], rfl, ⟨rfl, by rw [cr_len_eq1 (by omega)]⟩, by rw [ht9]; exact hP, va_K.moved hW9.alike hK, hD⟩, hS.F ht9⟩) hS.2.2 dX1_byteCount_9

set_option maxHeartbeats 4000000 in
set_option maxRecDepth 100000 in
theorem c_lastOfRow (l : Launch) (dC : Nat → ClassId) (dI : Nat → Nat → Nat) (sz : Nat) (c0 h0 : Nat) (hch : c0 ≤ h0) (hh : h0 ≤ 1114111) : Met l yX1_lastOfRow wsX1_lastOfRow ({ frames := 3, cells := 0, slots := 0, locals := 100 }) (va_Pc [.int (nI c0), .int (nI h0)] (cr_pre dC dI [] [] sz)) (va_Qi (fun (rr : Int32) (u : va_W) => u = [] ∧ rr = nI (cr_last c0 h0)) (cr_at dC dI [] (va_A [] sz)) (va_A [] sz)) 0 0 (va_A [] sz) := by
  refine Met.ofW (cc := cX1_lastOfRow) (maxL := 8) (ret := (some .int)) (by decide) rfl ?_
  intro p e s m args below meth c s₁ B hml hv
  obtain ⟨rfl, hsz, hP, hK, hD0⟩ := hv
  have hx := B.exec
  have hb := B.bytes
  have hr := B.returns
  have hts := atoms_spec (ws := wsX1_lastOfRow) B.pre
  have hown : s.vm.findClass RX1 = some m.cls := findClass_of_methodNamed B.named
  have hlocks := B.notSynchronized
  subst hsz
  have hD := hD0.self (sz := s.heap.size)
  generalize hAe : va_A [] s.heap.size = A at hD ⊢
  have hA : ∀ q : Nat, s.heap.size ≤ q → A q := fun q h => by rw [← hAe]; exact Or.inr h
  have hS : va_S A s.heap s.heap [] := va_S.rf
  have hP : va_P (dC, dI) crCl [] s.heap := hP
  have hl := lv_entry ([.int (nI c0), .int (nI h0)]) (n := 8) (Nat.le_of_ble_eq_true rfl)
  rw [lg_entry_eq]
  generalize (lg_sl ([.int (nI c0), .int (nI h0)]) ++ List.replicate (8 - (lg_sl ([.int (nI c0), .int (nI h0)])).length) Slot.unset).toArray = ls at hl ⊢
  have hl : lv_has ls 8 [(0, .int (nI c0)), (1, .int (nI h0))] := hl
  refine lv_iload_n hx hb dX1_lastOfRow_0 rfl (lv_at hl 0 rfl) ?_
  have hPc := hP.sub (ws' := []) [] rfl
  have hDc := hD.sub (ws' := []) [] (by decide) rfl
  have hFc := va_free (wc := []) hD hS hA [] rfl
  refine va_calli (va_runS (As := [.int (nI c0)]) (rest := []) ⟨hx, hb, hml, hown, hts⟩ (c_byteCount l dC dI _ c0 (by omega)) (va_cwS 1 hts gX1_lastOfRow_X1_byteCount rfl rfl rfl (by decide +kernel) ⟨Nat.le_of_ble_eq_true rfl, Nat.le_of_ble_eq_true rfl⟩) (cr_preS hPc hK hDc) rfl rfl hl.1 rfl (lv_room (Nat.le_of_ble_eq_true rfl)) dX1_lastOfRow_1 ⟨Nat.zero_le _, Nat.zero_le _⟩) hS (fun q _ h => hFc q h) hFc (fun r_1 u_1 t_1 H_1 locs ht_1 hvm_1 hw_1 hB_1 hz_1 hk_1 hS => ?_)
  obtain ⟨rfl, rfl⟩ := hw_1
  obtain ⟨hP, hD⟩ := cr_back (wr := []) (w1 := []) hP hD [] [] rfl rfl (by decide) (by decide) hk_1 hFc hB_1 ht_1
  clear hPc hDc hFc
  generalize H_1 = H at hP hS ⊢
  have hP := hP.sub (ws' := []) [] rfl
  have hD := hD.sub (ws' := []) [] (by decide) rfl
  refine lv_istore_n (lv' := [(2, .int (nI (cr_len c0))), (0, .int (nI c0)), (1, .int (nI h0))]) hx hb dX1_lastOfRow_4 rfl hl (by decide) rfl (fun ls hl => ?_)
  refine lv_iload_n hx hb dX1_lastOfRow_5 rfl (lv_at hl 2 rfl) ?_
  refine lv_iload_n hx hb dX1_lastOfRow_6 rfl (lv_at hl 0 rfl) ?_
  have hPc := hP.sub (ws' := []) [] rfl
  have hDc := hD.sub (ws' := []) [] (by decide) rfl
  have hFc := va_free (wc := []) hD hS hA [] rfl
  refine va_calli (va_runS (As := [.int (nI (cr_len c0))]) (rest := [.int (nI h0)]) ⟨hx, hb, hml, hown, hts⟩ (c_lastOfLength l dC dI _ (cr_len c0) (by have := cr_len_in c0; omega) (by have := cr_len_in c0; omega)) (va_cwS 1 hts gX1_lastOfRow_X1_lastOfLength rfl rfl rfl (by decide +kernel) ⟨Nat.le_of_ble_eq_true rfl, Nat.le_of_ble_eq_true rfl⟩) (cr_preS hPc hK hDc) rfl rfl hl.1 rfl (lv_room (Nat.le_of_ble_eq_true rfl)) dX1_lastOfRow_7 ⟨Nat.zero_le _, Nat.zero_le _⟩) hS (fun q _ h => hFc q h) hFc (fun r_7 u_7 t_7 H_7 locs ht_7 hvm_7 hw_7 hB_7 hz_7 hk_7 hS => ?_)
  obtain ⟨rfl, rfl⟩ := hw_7
  have hlol : cr_lol (cr_len c0) < 2 ^ 31 := by unfold cr_lol; split <;> (try split) <;> (try split) <;> omega
  obtain ⟨hP, hD⟩ := cr_back (wr := []) (w1 := []) hP hD [] [] rfl rfl (by decide) (by decide) hk_7 hFc hB_7 ht_7
  clear hPc hDc hFc
  generalize H_7 = H at hP hS ⊢
  have hP := hP.sub (ws' := []) [] rfl
  have hD := hD.sub (ws' := []) [] (by decide) rfl
  refine va_mmin hx hb (hml.trans hl.1.symm) hown (hts (.methodLink RX1 95 Lib.Math.min.name) (by decide +kernel)) (hts (.static Lib.Math.min.name) (by decide +kernel)) (hts (.initialized "java/lang/Math") (by decide +kernel)) (hts (.code Lib.Math.min.name Lib.Math.min.code 2 (some .int)) (by decide +kernel)) (Nat.le_of_ble_eq_true rfl) (Nat.le_of_ble_eq_true rfl) (Nat.zero_le _) (Nat.zero_le _) dX1_lastOfRow_10 ?_
  refine cr_top (y := nI (min h0 (cr_lol (cr_len c0)))) (cr_min _ _ (by omega) (by omega)) ?_
  refine lv_istore_n (lv' := [(3, .int (nI (min h0 (cr_lol (cr_len c0))))), (2, .int (nI (cr_len c0))), (0, .int (nI c0)), (1, .int (nI h0))]) hx hb dX1_lastOfRow_13 rfl hl (by decide) rfl (fun ls hl => ?_)
  rcases cr_len_in c0 with hL | hL | hL | hL
  · rw [hL.1, show cr_lol 1 = 127 from rfl] at hl
    refine lv_iload_n hx hb dX1_lastOfRow_14 rfl (lv_at hl 1 rfl) ?_
    refine lv_iconst (v := nI 1) hx hb dX1_lastOfRow_15 (by decide) ?_
    refine lv_icmp_ne (tgt := 21) hx hb dX1_lastOfRow_16 (by decide) (fun c_16 => ?_) (fun c_16 => ?_)
    · exact absurd (by decide) c_16
    · refine lv_iload_n hx hb dX1_lastOfRow_19 rfl (lv_at hl 0 rfl) ?_
      exact W.iret (v := nI (min h0 127)) hx hb hr (fun t9 ht9 hW9 => ⟨⟨nI (min h0 127), [], rfl, ⟨rfl, by rw [cr_last1 (by omega)]⟩, by rw [ht9]; exact hP, va_K.moved hW9.alike hK, hD⟩, hS.F ht9⟩) hS.2.2 dX1_lastOfRow_20
  · rw [hL.1, show cr_lol 2 = 2047 from rfl] at hl
    refine lv_iload_n hx hb dX1_lastOfRow_14 rfl (lv_at hl 1 rfl) ?_
    refine lv_iconst (v := nI 1) hx hb dX1_lastOfRow_15 (by decide) ?_
    refine lv_icmp_ne (tgt := 21) hx hb dX1_lastOfRow_16 (by decide) (fun c_16 => ?_) (fun c_16 => ?_)
    · refine lv_iconst (v := nI 1) hx hb dX1_lastOfRow_21 (by decide) ?_
      refine lv_istore (lv' := [(4, .int (nI 1)), (3, .int (nI (min h0 2047))), (2, .int (nI 2)), (0, .int (nI c0)), (1, .int (nI h0))]) hx hb dX1_lastOfRow_22 hl (by decide) rfl (fun ls hl => ?_)
      refine lv_iload hx hb dX1_lastOfRow_24 (lv_at hl 0 rfl) ?_
      refine lv_iload_n hx hb dX1_lastOfRow_26 rfl (lv_at hl 2 rfl) ?_
      refine lv_icmp_ge (tgt := 92) hx hb dX1_lastOfRow_27 (by decide) (fun c_27 => ?_) (fun c_27 => ?_)
      · exact absurd c_27 (by decide)
      · refine lv_iconst (v := nI 1) hx hb dX1_lastOfRow_30 (by decide) ?_
        refine lv_bipush (v := nI 6) hx hb dX1_lastOfRow_31 (by decide) ?_
        refine lv_iload_n hx hb dX1_lastOfRow_33 rfl (lv_at hl 2 rfl) ?_
        refine lv_iload hx hb dX1_lastOfRow_34 (lv_at hl 0 rfl) ?_
        refine lv_isub hx hb dX1_lastOfRow_36 ?_
        refine cr_top (y := nI 1) (by decide) ?_
        refine lv_imul hx hb dX1_lastOfRow_37 ?_
        refine cr_top (y := nI 6) (by decide) ?_
        refine lv_ishl hx hb dX1_lastOfRow_38 ?_
        refine cr_top (y := nI 64) (by decide) ?_
        refine lv_istore (lv' := [(5, .int (nI 64)), (4, .int (nI 1)), (3, .int (nI (min h0 2047))), (2, .int (nI 2)), (0, .int (nI c0)), (1, .int (nI h0))]) hx hb dX1_lastOfRow_39 hl (by decide) rfl (fun ls hl => ?_)
        refine lv_iload_n hx hb dX1_lastOfRow_41 rfl (lv_at hl 2 rfl) ?_
        refine lv_iload_n hx hb dX1_lastOfRow_42 rfl (lv_at hl 4 rfl) ?_
        refine lv_bipush (v := nI 64) hx hb dX1_lastOfRow_43 (by decide) ?_
        refine lv_iload hx hb dX1_lastOfRow_45 (lv_at hl 0 rfl) ?_
        refine lv_imul hx hb dX1_lastOfRow_47 ?_
        refine cr_top (y := nI 4096) (by decide) ?_
        refine lv_iconst (v := nI 1) hx hb dX1_lastOfRow_48 (by decide) ?_
        refine lv_isub hx hb dX1_lastOfRow_49 ?_
        refine cr_top (y := nI 4095) (by decide) ?_
        refine lv_ior hx hb dX1_lastOfRow_50 ?_
        refine cr_top (y := nI (c0 / 4096 * 4096 + 4095)) (cr_or4095 c0) ?_
        refine va_mmin hx hb (hml.trans hl.1.symm) hown (hts (.methodLink RX1 95 Lib.Math.min.name) (by decide +kernel)) (hts (.static Lib.Math.min.name) (by decide +kernel)) (hts (.initialized "java/lang/Math") (by decide +kernel)) (hts (.code Lib.Math.min.name Lib.Math.min.code 2 (some .int)) (by decide +kernel)) (Nat.le_of_ble_eq_true rfl) (Nat.le_of_ble_eq_true rfl) (Nat.zero_le _) (Nat.zero_le _) dX1_lastOfRow_51 ?_
        refine cr_top (y := nI (min (min h0 2047) (c0 / 4096 * 4096 + 4095))) (cr_min _ _ (by omega) (by omega)) ?_
        refine lv_istore (lv' := [(6, .int (nI (min (min h0 2047) (c0 / 4096 * 4096 + 4095)))), (5, .int (nI 64)), (4, .int (nI 1)), (3, .int (nI (min h0 2047))), (2, .int (nI 2)), (0, .int (nI c0)), (1, .int (nI h0))]) hx hb dX1_lastOfRow_54 hl (by decide) rfl (fun ls hl => ?_)
        refine lv_iload hx hb dX1_lastOfRow_56 (lv_at hl 0 rfl) ?_
        refine lv_iconst (v := nI 1) hx hb dX1_lastOfRow_58 (by decide) ?_
        refine lv_iadd hx hb dX1_lastOfRow_59 ?_
        refine cr_top (y := nI ((min (min h0 2047) (c0 / 4096 * 4096 + 4095)) + 1)) (nI_add (min (min h0 2047) (c0 / 4096 * 4096 + 4095)) 1) ?_
        refine lv_iload hx hb dX1_lastOfRow_60 (lv_at hl 1 rfl) ?_
        refine lv_ineg hx hb dX1_lastOfRow_62 ?_
        refine lv_iand hx hb dX1_lastOfRow_63 ?_
        refine cr_top (y := nI ((min (min h0 2047) (c0 / 4096 * 4096 + 4095) + 1) / 64 * 64)) (cr_neg64 (by omega)) ?_
        refine lv_iconst (v := nI 1) hx hb dX1_lastOfRow_64 (by decide) ?_
        refine lv_isub hx hb dX1_lastOfRow_65 ?_
        refine lv_istore (lv' := [(7, .int ((nI ((min (min h0 2047) (c0 / 4096 * 4096 + 4095) + 1) / 64 * 64)) - (nI 1))), (6, .int (nI (min (min h0 2047) (c0 / 4096 * 4096 + 4095)))), (5, .int (nI 64)), (4, .int (nI 1)), (3, .int (nI (min h0 2047))), (2, .int (nI 2)), (0, .int (nI c0)), (1, .int (nI h0))]) hx hb dX1_lastOfRow_66 hl (by decide) rfl (fun ls hl => ?_)
        refine lv_iload_n hx hb dX1_lastOfRow_68 rfl (lv_at hl 6 rfl) ?_
        refine lv_iload hx hb dX1_lastOfRow_69 (lv_at hl 2 rfl) ?_
        refine lv_iconst (v := nI 1) hx hb dX1_lastOfRow_71 (by decide) ?_
        refine lv_isub hx hb dX1_lastOfRow_72 ?_
        refine cr_top (y := nI 63) (by decide) ?_
        refine lv_iand hx hb dX1_lastOfRow_73 ?_
        refine cr_top (y := nI (c0 % 64)) (cr_and63 (by omega)) ?_
        refine lv_if_ne (tgt := 86) hx hb dX1_lastOfRow_74 (by decide) (fun c_74 => ?_) (fun c_74 => ?_)
        · rw [show (0 : Int32) = nI 0 from rfl, nI_eq (by omega) (by omega)] at c_74
          refine lv_iinc (v := nI 2) (lv' := [(4, .int (nI 2)), (7, .int ((nI ((min (min h0 2047) (c0 / 4096 * 4096 + 4095) + 1) / 64 * 64)) - (nI 1))), (6, .int (nI (min (min h0 2047) (c0 / 4096 * 4096 + 4095)))), (5, .int (nI 64)), (3, .int (nI (min h0 2047))), (2, .int (nI 2)), (0, .int (nI c0)), (1, .int (nI h0))]) hx hb dX1_lastOfRow_86 hl (k := 3) rfl (by decide) (by decide) rfl (fun ls hl => ?_)
          refine lv_goto (tgt := 24) hx hb dX1_lastOfRow_89 (by decide) ?_
          refine lv_iload hx hb dX1_lastOfRow_24 (lv_at hl 0 rfl) ?_
          refine lv_iload_n hx hb dX1_lastOfRow_26 rfl (lv_at hl 5 rfl) ?_
          refine lv_icmp_ge (tgt := 92) hx hb dX1_lastOfRow_27 (by decide) (fun c_27 => ?_) (fun c_27 => ?_)
          · refine lv_iload_n hx hb dX1_lastOfRow_92 rfl (lv_at hl 4 rfl) ?_
            refine lv_iload_n hx hb dX1_lastOfRow_93 rfl (lv_at hl 6 rfl) ?_
            refine lv_bipush (v := nI 63) hx hb dX1_lastOfRow_94 (by decide) ?_
            refine lv_ior hx hb dX1_lastOfRow_96 ?_
            refine cr_top (y := nI (c0 / 64 * 64 + 63)) (cr_or63 c0) ?_
            refine va_mmin hx hb (hml.trans hl.1.symm) hown (hts (.methodLink RX1 95 Lib.Math.min.name) (by decide +kernel)) (hts (.static Lib.Math.min.name) (by decide +kernel)) (hts (.initialized "java/lang/Math") (by decide +kernel)) (hts (.code Lib.Math.min.name Lib.Math.min.code 2 (some .int)) (by decide +kernel)) (Nat.le_of_ble_eq_true rfl) (Nat.le_of_ble_eq_true rfl) (Nat.zero_le _) (Nat.zero_le _) dX1_lastOfRow_97 ?_
            refine cr_top (y := nI (min (min h0 2047) (c0 / 64 * 64 + 63))) (cr_min _ _ (by omega) (by omega)) ?_
            exact W.iret (v := nI (min (min h0 2047) (c0 / 64 * 64 + 63))) hx hb hr (fun t9 ht9 hW9 => ⟨⟨nI (min (min h0 2047) (c0 / 64 * 64 + 63)), [], rfl, ⟨rfl, by rw [cr_last2 (by omega) (by omega), cr_e64, if_neg (by omega)]⟩, by rw [ht9]; exact hP, va_K.moved hW9.alike hK, hD⟩, hS.F ht9⟩) hS.2.2 dX1_lastOfRow_100
          · exact absurd (by decide) c_27
        · rw [show (0 : Int32) = nI 0 from rfl, nI_eq (by omega) (by omega)] at c_74
          refine lv_iload hx hb dX1_lastOfRow_77 (lv_at hl 0 rfl) ?_
          refine lv_iload_n hx hb dX1_lastOfRow_79 rfl (lv_at hl 6 rfl) ?_
          refine lv_icmp_lt (tgt := 86) hx hb dX1_lastOfRow_80 (by decide) (fun c_80 => ?_) (fun c_80 => ?_)
          · rw [Int32.lt_iff_toInt_lt, pk_sub_toInt (by omega) (by omega), nI_toInt (by omega)] at c_80
            refine lv_iinc (v := nI 2) (lv' := [(4, .int (nI 2)), (7, .int ((nI ((min (min h0 2047) (c0 / 4096 * 4096 + 4095) + 1) / 64 * 64)) - (nI 1))), (6, .int (nI (min (min h0 2047) (c0 / 4096 * 4096 + 4095)))), (5, .int (nI 64)), (3, .int (nI (min h0 2047))), (2, .int (nI 2)), (0, .int (nI c0)), (1, .int (nI h0))]) hx hb dX1_lastOfRow_86 hl (k := 3) rfl (by decide) (by decide) rfl (fun ls hl => ?_)
            refine lv_goto (tgt := 24) hx hb dX1_lastOfRow_89 (by decide) ?_
            refine lv_iload hx hb dX1_lastOfRow_24 (lv_at hl 0 rfl) ?_
            refine lv_iload_n hx hb dX1_lastOfRow_26 rfl (lv_at hl 5 rfl) ?_
            refine lv_icmp_ge (tgt := 92) hx hb dX1_lastOfRow_27 (by decide) (fun c_27 => ?_) (fun c_27 => ?_)
            · refine lv_iload_n hx hb dX1_lastOfRow_92 rfl (lv_at hl 4 rfl) ?_
              refine lv_iload_n hx hb dX1_lastOfRow_93 rfl (lv_at hl 6 rfl) ?_
              refine lv_bipush (v := nI 63) hx hb dX1_lastOfRow_94 (by decide) ?_
              refine lv_ior hx hb dX1_lastOfRow_96 ?_
              refine cr_top (y := nI (c0 / 64 * 64 + 63)) (cr_or63 c0) ?_
              refine va_mmin hx hb (hml.trans hl.1.symm) hown (hts (.methodLink RX1 95 Lib.Math.min.name) (by decide +kernel)) (hts (.static Lib.Math.min.name) (by decide +kernel)) (hts (.initialized "java/lang/Math") (by decide +kernel)) (hts (.code Lib.Math.min.name Lib.Math.min.code 2 (some .int)) (by decide +kernel)) (Nat.le_of_ble_eq_true rfl) (Nat.le_of_ble_eq_true rfl) (Nat.zero_le _) (Nat.zero_le _) dX1_lastOfRow_97 ?_
              refine cr_top (y := nI (min (min h0 2047) (c0 / 64 * 64 + 63))) (cr_min _ _ (by omega) (by omega)) ?_
              exact W.iret (v := nI (min (min h0 2047) (c0 / 64 * 64 + 63))) hx hb hr (fun t9 ht9 hW9 => ⟨⟨nI (min (min h0 2047) (c0 / 64 * 64 + 63)), [], rfl, ⟨rfl, by rw [cr_last2 (by omega) (by omega), cr_e64, if_neg (by omega)]⟩, by rw [ht9]; exact hP, va_K.moved hW9.alike hK, hD⟩, hS.F ht9⟩) hS.2.2 dX1_lastOfRow_100
            · exact absurd (by decide) c_27
          · rw [Int32.lt_iff_toInt_lt, pk_sub_toInt (by omega) (by omega), nI_toInt (by omega)] at c_80
            refine lv_iload hx hb dX1_lastOfRow_83 (lv_at hl 0 rfl) ?_
            exact W.iret (v := (nI ((min (min h0 2047) (c0 / 4096 * 4096 + 4095) + 1) / 64 * 64)) - (nI 1)) hx hb hr (fun t9 ht9 hW9 => ⟨⟨(nI ((min (min h0 2047) (c0 / 4096 * 4096 + 4095) + 1) / 64 * 64)) - (nI 1), [], rfl, ⟨rfl, by rw [cr_last2 (by omega) (by omega), cr_e64, if_pos (by omega)]; exact pk_sub (by omega)⟩, by rw [ht9]; exact hP, va_K.moved hW9.alike hK, hD⟩, hS.F ht9⟩) hS.2.2 dX1_lastOfRow_85
    · exact absurd c_16 (by decide)
  · rw [hL.1, show cr_lol 3 = 65535 from rfl] at hl
    refine lv_iload_n hx hb dX1_lastOfRow_14 rfl (lv_at hl 1 rfl) ?_
    refine lv_iconst (v := nI 1) hx hb dX1_lastOfRow_15 (by decide) ?_
    refine lv_icmp_ne (tgt := 21) hx hb dX1_lastOfRow_16 (by decide) (fun c_16 => ?_) (fun c_16 => ?_)
    · refine lv_iconst (v := nI 1) hx hb dX1_lastOfRow_21 (by decide) ?_
      refine lv_istore (lv' := [(4, .int (nI 1)), (3, .int (nI (min h0 65535))), (2, .int (nI 3)), (0, .int (nI c0)), (1, .int (nI h0))]) hx hb dX1_lastOfRow_22 hl (by decide) rfl (fun ls hl => ?_)
      refine lv_iload hx hb dX1_lastOfRow_24 (lv_at hl 0 rfl) ?_
      refine lv_iload_n hx hb dX1_lastOfRow_26 rfl (lv_at hl 2 rfl) ?_
      refine lv_icmp_ge (tgt := 92) hx hb dX1_lastOfRow_27 (by decide) (fun c_27 => ?_) (fun c_27 => ?_)
      · exact absurd c_27 (by decide)
      · refine lv_iconst (v := nI 1) hx hb dX1_lastOfRow_30 (by decide) ?_
        refine lv_bipush (v := nI 6) hx hb dX1_lastOfRow_31 (by decide) ?_
        refine lv_iload_n hx hb dX1_lastOfRow_33 rfl (lv_at hl 2 rfl) ?_
        refine lv_iload hx hb dX1_lastOfRow_34 (lv_at hl 0 rfl) ?_
        refine lv_isub hx hb dX1_lastOfRow_36 ?_
        refine cr_top (y := nI 2) (by decide) ?_
        refine lv_imul hx hb dX1_lastOfRow_37 ?_
        refine cr_top (y := nI 12) (by decide) ?_
        refine lv_ishl hx hb dX1_lastOfRow_38 ?_
        refine cr_top (y := nI 4096) (by decide) ?_
        refine lv_istore (lv' := [(5, .int (nI 4096)), (4, .int (nI 1)), (3, .int (nI (min h0 65535))), (2, .int (nI 3)), (0, .int (nI c0)), (1, .int (nI h0))]) hx hb dX1_lastOfRow_39 hl (by decide) rfl (fun ls hl => ?_)
        refine lv_iload_n hx hb dX1_lastOfRow_41 rfl (lv_at hl 2 rfl) ?_
        refine lv_iload_n hx hb dX1_lastOfRow_42 rfl (lv_at hl 4 rfl) ?_
        refine lv_bipush (v := nI 64) hx hb dX1_lastOfRow_43 (by decide) ?_
        refine lv_iload hx hb dX1_lastOfRow_45 (lv_at hl 0 rfl) ?_
        refine lv_imul hx hb dX1_lastOfRow_47 ?_
        refine cr_top (y := nI 262144) (by decide) ?_
        refine lv_iconst (v := nI 1) hx hb dX1_lastOfRow_48 (by decide) ?_
        refine lv_isub hx hb dX1_lastOfRow_49 ?_
        refine cr_top (y := nI 262143) (by decide) ?_
        refine lv_ior hx hb dX1_lastOfRow_50 ?_
        refine cr_top (y := nI (c0 / 262144 * 262144 + 262143)) (cr_or262143 c0) ?_
        refine va_mmin hx hb (hml.trans hl.1.symm) hown (hts (.methodLink RX1 95 Lib.Math.min.name) (by decide +kernel)) (hts (.static Lib.Math.min.name) (by decide +kernel)) (hts (.initialized "java/lang/Math") (by decide +kernel)) (hts (.code Lib.Math.min.name Lib.Math.min.code 2 (some .int)) (by decide +kernel)) (Nat.le_of_ble_eq_true rfl) (Nat.le_of_ble_eq_true rfl) (Nat.zero_le _) (Nat.zero_le _) dX1_lastOfRow_51 ?_
        refine cr_top (y := nI (min (min h0 65535) (c0 / 262144 * 262144 + 262143))) (cr_min _ _ (by omega) (by omega)) ?_
        refine lv_istore (lv' := [(6, .int (nI (min (min h0 65535) (c0 / 262144 * 262144 + 262143)))), (5, .int (nI 4096)), (4, .int (nI 1)), (3, .int (nI (min h0 65535))), (2, .int (nI 3)), (0, .int (nI c0)), (1, .int (nI h0))]) hx hb dX1_lastOfRow_54 hl (by decide) rfl (fun ls hl => ?_)
        refine lv_iload hx hb dX1_lastOfRow_56 (lv_at hl 0 rfl) ?_
        refine lv_iconst (v := nI 1) hx hb dX1_lastOfRow_58 (by decide) ?_
        refine lv_iadd hx hb dX1_lastOfRow_59 ?_
        refine cr_top (y := nI ((min (min h0 65535) (c0 / 262144 * 262144 + 262143)) + 1)) (nI_add (min (min h0 65535) (c0 / 262144 * 262144 + 262143)) 1) ?_
        refine lv_iload hx hb dX1_lastOfRow_60 (lv_at hl 1 rfl) ?_
        refine lv_ineg hx hb dX1_lastOfRow_62 ?_
        refine lv_iand hx hb dX1_lastOfRow_63 ?_
        refine cr_top (y := nI ((min (min h0 65535) (c0 / 262144 * 262144 + 262143) + 1) / 4096 * 4096)) (cr_neg4096 (by omega)) ?_
        refine lv_iconst (v := nI 1) hx hb dX1_lastOfRow_64 (by decide) ?_
        refine lv_isub hx hb dX1_lastOfRow_65 ?_
        refine lv_istore (lv' := [(7, .int ((nI ((min (min h0 65535) (c0 / 262144 * 262144 + 262143) + 1) / 4096 * 4096)) - (nI 1))), (6, .int (nI (min (min h0 65535) (c0 / 262144 * 262144 + 262143)))), (5, .int (nI 4096)), (4, .int (nI 1)), (3, .int (nI (min h0 65535))), (2, .int (nI 3)), (0, .int (nI c0)), (1, .int (nI h0))]) hx hb dX1_lastOfRow_66 hl (by decide) rfl (fun ls hl => ?_)
        refine lv_iload_n hx hb dX1_lastOfRow_68 rfl (lv_at hl 6 rfl) ?_
        refine lv_iload hx hb dX1_lastOfRow_69 (lv_at hl 2 rfl) ?_
        refine lv_iconst (v := nI 1) hx hb dX1_lastOfRow_71 (by decide) ?_
        refine lv_isub hx hb dX1_lastOfRow_72 ?_
        refine cr_top (y := nI 4095) (by decide) ?_
        refine lv_iand hx hb dX1_lastOfRow_73 ?_
        refine cr_top (y := nI (c0 % 4096)) (cr_and4095 (by omega)) ?_
        refine lv_if_ne (tgt := 86) hx hb dX1_lastOfRow_74 (by decide) (fun c_74 => ?_) (fun c_74 => ?_)
        · rw [show (0 : Int32) = nI 0 from rfl, nI_eq (by omega) (by omega)] at c_74
          refine lv_iinc (v := nI 2) (lv' := [(4, .int (nI 2)), (7, .int ((nI ((min (min h0 65535) (c0 / 262144 * 262144 + 262143) + 1) / 4096 * 4096)) - (nI 1))), (6, .int (nI (min (min h0 65535) (c0 / 262144 * 262144 + 262143)))), (5, .int (nI 4096)), (3, .int (nI (min h0 65535))), (2, .int (nI 3)), (0, .int (nI c0)), (1, .int (nI h0))]) hx hb dX1_lastOfRow_86 hl (k := 3) rfl (by decide) (by decide) rfl (fun ls hl => ?_)
          refine lv_goto (tgt := 24) hx hb dX1_lastOfRow_89 (by decide) ?_
          refine lv_iload hx hb dX1_lastOfRow_24 (lv_at hl 0 rfl) ?_
          refine lv_iload_n hx hb dX1_lastOfRow_26 rfl (lv_at hl 5 rfl) ?_
          refine lv_icmp_ge (tgt := 92) hx hb dX1_lastOfRow_27 (by decide) (fun c_27 => ?_) (fun c_27 => ?_)
          · exact absurd c_27 (by decide)
          · refine lv_iconst (v := nI 1) hx hb dX1_lastOfRow_30 (by decide) ?_
            refine lv_bipush (v := nI 6) hx hb dX1_lastOfRow_31 (by decide) ?_
            refine lv_iload_n hx hb dX1_lastOfRow_33 rfl (lv_at hl 5 rfl) ?_
            refine lv_iload hx hb dX1_lastOfRow_34 (lv_at hl 0 rfl) ?_
            refine lv_isub hx hb dX1_lastOfRow_36 ?_
            refine cr_top (y := nI 1) (by decide) ?_
            refine lv_imul hx hb dX1_lastOfRow_37 ?_
            refine cr_top (y := nI 6) (by decide) ?_
            refine lv_ishl hx hb dX1_lastOfRow_38 ?_
            refine cr_top (y := nI 64) (by decide) ?_
            refine lv_istore (lv' := [(5, .int (nI 64)), (4, .int (nI 2)), (7, .int ((nI ((min (min h0 65535) (c0 / 262144 * 262144 + 262143) + 1) / 4096 * 4096)) - (nI 1))), (6, .int (nI (min (min h0 65535) (c0 / 262144 * 262144 + 262143)))), (3, .int (nI (min h0 65535))), (2, .int (nI 3)), (0, .int (nI c0)), (1, .int (nI h0))]) hx hb dX1_lastOfRow_39 hl (by decide) rfl (fun ls hl => ?_)
            refine lv_iload_n hx hb dX1_lastOfRow_41 rfl (lv_at hl 4 rfl) ?_
            refine lv_iload_n hx hb dX1_lastOfRow_42 rfl (lv_at hl 6 rfl) ?_
            refine lv_bipush (v := nI 64) hx hb dX1_lastOfRow_43 (by decide) ?_
            refine lv_iload hx hb dX1_lastOfRow_45 (lv_at hl 0 rfl) ?_
            refine lv_imul hx hb dX1_lastOfRow_47 ?_
            refine cr_top (y := nI 4096) (by decide) ?_
            refine lv_iconst (v := nI 1) hx hb dX1_lastOfRow_48 (by decide) ?_
            refine lv_isub hx hb dX1_lastOfRow_49 ?_
            refine cr_top (y := nI 4095) (by decide) ?_
            refine lv_ior hx hb dX1_lastOfRow_50 ?_
            refine cr_top (y := nI (c0 / 4096 * 4096 + 4095)) (cr_or4095 c0) ?_
            refine va_mmin hx hb (hml.trans hl.1.symm) hown (hts (.methodLink RX1 95 Lib.Math.min.name) (by decide +kernel)) (hts (.static Lib.Math.min.name) (by decide +kernel)) (hts (.initialized "java/lang/Math") (by decide +kernel)) (hts (.code Lib.Math.min.name Lib.Math.min.code 2 (some .int)) (by decide +kernel)) (Nat.le_of_ble_eq_true rfl) (Nat.le_of_ble_eq_true rfl) (Nat.zero_le _) (Nat.zero_le _) dX1_lastOfRow_51 ?_
            refine cr_top (y := nI (min (min h0 65535) (c0 / 4096 * 4096 + 4095))) (cr_min _ _ (by omega) (by omega)) ?_
            refine lv_istore (lv' := [(6, .int (nI (min (min h0 65535) (c0 / 4096 * 4096 + 4095)))), (5, .int (nI 64)), (4, .int (nI 2)), (7, .int ((nI ((min (min h0 65535) (c0 / 262144 * 262144 + 262143) + 1) / 4096 * 4096)) - (nI 1))), (3, .int (nI (min h0 65535))), (2, .int (nI 3)), (0, .int (nI c0)), (1, .int (nI h0))]) hx hb dX1_lastOfRow_54 hl (by decide) rfl (fun ls hl => ?_)
            refine lv_iload hx hb dX1_lastOfRow_56 (lv_at hl 0 rfl) ?_
            refine lv_iconst (v := nI 1) hx hb dX1_lastOfRow_58 (by decide) ?_
            refine lv_iadd hx hb dX1_lastOfRow_59 ?_
            refine cr_top (y := nI ((min (min h0 65535) (c0 / 4096 * 4096 + 4095)) + 1)) (nI_add (min (min h0 65535) (c0 / 4096 * 4096 + 4095)) 1) ?_
            refine lv_iload hx hb dX1_lastOfRow_60 (lv_at hl 1 rfl) ?_
            refine lv_ineg hx hb dX1_lastOfRow_62 ?_
            refine lv_iand hx hb dX1_lastOfRow_63 ?_
            refine cr_top (y := nI ((min (min h0 65535) (c0 / 4096 * 4096 + 4095) + 1) / 64 * 64)) (cr_neg64 (by omega)) ?_
            refine lv_iconst (v := nI 1) hx hb dX1_lastOfRow_64 (by decide) ?_
            refine lv_isub hx hb dX1_lastOfRow_65 ?_
            refine lv_istore (lv' := [(7, .int ((nI ((min (min h0 65535) (c0 / 4096 * 4096 + 4095) + 1) / 64 * 64)) - (nI 1))), (6, .int (nI (min (min h0 65535) (c0 / 4096 * 4096 + 4095)))), (5, .int (nI 64)), (4, .int (nI 2)), (3, .int (nI (min h0 65535))), (2, .int (nI 3)), (0, .int (nI c0)), (1, .int (nI h0))]) hx hb dX1_lastOfRow_66 hl (by decide) rfl (fun ls hl => ?_)
            refine lv_iload_n hx hb dX1_lastOfRow_68 rfl (lv_at hl 6 rfl) ?_
            refine lv_iload hx hb dX1_lastOfRow_69 (lv_at hl 2 rfl) ?_
            refine lv_iconst (v := nI 1) hx hb dX1_lastOfRow_71 (by decide) ?_
            refine lv_isub hx hb dX1_lastOfRow_72 ?_
            refine cr_top (y := nI 63) (by decide) ?_
            refine lv_iand hx hb dX1_lastOfRow_73 ?_
            refine cr_top (y := nI (c0 % 64)) (cr_and63 (by omega)) ?_
            refine lv_if_ne (tgt := 86) hx hb dX1_lastOfRow_74 (by decide) (fun c_74 => ?_) (fun c_74 => ?_)
            · rw [show (0 : Int32) = nI 0 from rfl, nI_eq (by omega) (by omega)] at c_74
              refine lv_iinc (v := nI 3) (lv' := [(4, .int (nI 3)), (7, .int ((nI ((min (min h0 65535) (c0 / 4096 * 4096 + 4095) + 1) / 64 * 64)) - (nI 1))), (6, .int (nI (min (min h0 65535) (c0 / 4096 * 4096 + 4095)))), (5, .int (nI 64)), (3, .int (nI (min h0 65535))), (2, .int (nI 3)), (0, .int (nI c0)), (1, .int (nI h0))]) hx hb dX1_lastOfRow_86 hl (k := 3) rfl (by decide) (by decide) rfl (fun ls hl => ?_)
              refine lv_goto (tgt := 24) hx hb dX1_lastOfRow_89 (by decide) ?_
              refine lv_iload hx hb dX1_lastOfRow_24 (lv_at hl 0 rfl) ?_
              refine lv_iload_n hx hb dX1_lastOfRow_26 rfl (lv_at hl 5 rfl) ?_
              refine lv_icmp_ge (tgt := 92) hx hb dX1_lastOfRow_27 (by decide) (fun c_27 => ?_) (fun c_27 => ?_)
              · refine lv_iload_n hx hb dX1_lastOfRow_92 rfl (lv_at hl 4 rfl) ?_
                refine lv_iload_n hx hb dX1_lastOfRow_93 rfl (lv_at hl 6 rfl) ?_
                refine lv_bipush (v := nI 63) hx hb dX1_lastOfRow_94 (by decide) ?_
                refine lv_ior hx hb dX1_lastOfRow_96 ?_
                refine cr_top (y := nI (c0 / 64 * 64 + 63)) (cr_or63 c0) ?_
                refine va_mmin hx hb (hml.trans hl.1.symm) hown (hts (.methodLink RX1 95 Lib.Math.min.name) (by decide +kernel)) (hts (.static Lib.Math.min.name) (by decide +kernel)) (hts (.initialized "java/lang/Math") (by decide +kernel)) (hts (.code Lib.Math.min.name Lib.Math.min.code 2 (some .int)) (by decide +kernel)) (Nat.le_of_ble_eq_true rfl) (Nat.le_of_ble_eq_true rfl) (Nat.zero_le _) (Nat.zero_le _) dX1_lastOfRow_97 ?_
                refine cr_top (y := nI (min (min h0 65535) (c0 / 64 * 64 + 63))) (cr_min _ _ (by omega) (by omega)) ?_
                exact W.iret (v := nI (min (min h0 65535) (c0 / 64 * 64 + 63))) hx hb hr (fun t9 ht9 hW9 => ⟨⟨nI (min (min h0 65535) (c0 / 64 * 64 + 63)), [], rfl, ⟨rfl, by rw [cr_last3 (by omega) (by omega), cr_e4096, cr_e64, if_neg (by omega), if_neg (by omega)]⟩, by rw [ht9]; exact hP, va_K.moved hW9.alike hK, hD⟩, hS.F ht9⟩) hS.2.2 dX1_lastOfRow_100
              · exact absurd (by decide) c_27
            · rw [show (0 : Int32) = nI 0 from rfl, nI_eq (by omega) (by omega)] at c_74
              refine lv_iload hx hb dX1_lastOfRow_77 (lv_at hl 0 rfl) ?_
              refine lv_iload_n hx hb dX1_lastOfRow_79 rfl (lv_at hl 6 rfl) ?_
              refine lv_icmp_lt (tgt := 86) hx hb dX1_lastOfRow_80 (by decide) (fun c_80 => ?_) (fun c_80 => ?_)
              · rw [Int32.lt_iff_toInt_lt, pk_sub_toInt (by omega) (by omega), nI_toInt (by omega)] at c_80
                refine lv_iinc (v := nI 3) (lv' := [(4, .int (nI 3)), (7, .int ((nI ((min (min h0 65535) (c0 / 4096 * 4096 + 4095) + 1) / 64 * 64)) - (nI 1))), (6, .int (nI (min (min h0 65535) (c0 / 4096 * 4096 + 4095)))), (5, .int (nI 64)), (3, .int (nI (min h0 65535))), (2, .int (nI 3)), (0, .int (nI c0)), (1, .int (nI h0))]) hx hb dX1_lastOfRow_86 hl (k := 3) rfl (by decide) (by decide) rfl (fun ls hl => ?_)
                refine lv_goto (tgt := 24) hx hb dX1_lastOfRow_89 (by decide) ?_
                refine lv_iload hx hb dX1_lastOfRow_24 (lv_at hl 0 rfl) ?_
                refine lv_iload_n hx hb dX1_lastOfRow_26 rfl (lv_at hl 5 rfl) ?_
                refine lv_icmp_ge (tgt := 92) hx hb dX1_lastOfRow_27 (by decide) (fun c_27 => ?_) (fun c_27 => ?_)
                · refine lv_iload_n hx hb dX1_lastOfRow_92 rfl (lv_at hl 4 rfl) ?_
                  refine lv_iload_n hx hb dX1_lastOfRow_93 rfl (lv_at hl 6 rfl) ?_
                  refine lv_bipush (v := nI 63) hx hb dX1_lastOfRow_94 (by decide) ?_
                  refine lv_ior hx hb dX1_lastOfRow_96 ?_
                  refine cr_top (y := nI (c0 / 64 * 64 + 63)) (cr_or63 c0) ?_
                  refine va_mmin hx hb (hml.trans hl.1.symm) hown (hts (.methodLink RX1 95 Lib.Math.min.name) (by decide +kernel)) (hts (.static Lib.Math.min.name) (by decide +kernel)) (hts (.initialized "java/lang/Math") (by decide +kernel)) (hts (.code Lib.Math.min.name Lib.Math.min.code 2 (some .int)) (by decide +kernel)) (Nat.le_of_ble_eq_true rfl) (Nat.le_of_ble_eq_true rfl) (Nat.zero_le _) (Nat.zero_le _) dX1_lastOfRow_97 ?_
                  refine cr_top (y := nI (min (min h0 65535) (c0 / 64 * 64 + 63))) (cr_min _ _ (by omega) (by omega)) ?_
                  exact W.iret (v := nI (min (min h0 65535) (c0 / 64 * 64 + 63))) hx hb hr (fun t9 ht9 hW9 => ⟨⟨nI (min (min h0 65535) (c0 / 64 * 64 + 63)), [], rfl, ⟨rfl, by rw [cr_last3 (by omega) (by omega), cr_e4096, cr_e64, if_neg (by omega), if_neg (by omega)]⟩, by rw [ht9]; exact hP, va_K.moved hW9.alike hK, hD⟩, hS.F ht9⟩) hS.2.2 dX1_lastOfRow_100
                · exact absurd (by decide) c_27
              · rw [Int32.lt_iff_toInt_lt, pk_sub_toInt (by omega) (by omega), nI_toInt (by omega)] at c_80
                refine lv_iload hx hb dX1_lastOfRow_83 (lv_at hl 0 rfl) ?_
                exact W.iret (v := (nI ((min (min h0 65535) (c0 / 4096 * 4096 + 4095) + 1) / 64 * 64)) - (nI 1)) hx hb hr (fun t9 ht9 hW9 => ⟨⟨(nI ((min (min h0 65535) (c0 / 4096 * 4096 + 4095) + 1) / 64 * 64)) - (nI 1), [], rfl, ⟨rfl, by rw [cr_last3 (by omega) (by omega), cr_e4096, cr_e64, if_neg (by omega), if_pos (by omega)]; exact pk_sub (by omega)⟩, by rw [ht9]; exact hP, va_K.moved hW9.alike hK, hD⟩, hS.F ht9⟩) hS.2.2 dX1_lastOfRow_85
        · rw [show (0 : Int32) = nI 0 from rfl, nI_eq (by omega) (by omega)] at c_74
          refine lv_iload hx hb dX1_lastOfRow_77 (lv_at hl 0 rfl) ?_
          refine lv_iload_n hx hb dX1_lastOfRow_79 rfl (lv_at hl 6 rfl) ?_
          refine lv_icmp_lt (tgt := 86) hx hb dX1_lastOfRow_80 (by decide) (fun c_80 => ?_) (fun c_80 => ?_)
          · rw [Int32.lt_iff_toInt_lt, pk_sub_toInt (by omega) (by omega), nI_toInt (by omega)] at c_80
            refine lv_iinc (v := nI 2) (lv' := [(4, .int (nI 2)), (7, .int ((nI ((min (min h0 65535) (c0 / 262144 * 262144 + 262143) + 1) / 4096 * 4096)) - (nI 1))), (6, .int (nI (min (min h0 65535) (c0 / 262144 * 262144 + 262143)))), (5, .int (nI 4096)), (3, .int (nI (min h0 65535))), (2, .int (nI 3)), (0, .int (nI c0)), (1, .int (nI h0))]) hx hb dX1_lastOfRow_86 hl (k := 3) rfl (by decide) (by decide) rfl (fun ls hl => ?_)
            refine lv_goto (tgt := 24) hx hb dX1_lastOfRow_89 (by decide) ?_
            refine lv_iload hx hb dX1_lastOfRow_24 (lv_at hl 0 rfl) ?_
            refine lv_iload_n hx hb dX1_lastOfRow_26 rfl (lv_at hl 5 rfl) ?_
            refine lv_icmp_ge (tgt := 92) hx hb dX1_lastOfRow_27 (by decide) (fun c_27 => ?_) (fun c_27 => ?_)
            · exact absurd c_27 (by decide)
            · refine lv_iconst (v := nI 1) hx hb dX1_lastOfRow_30 (by decide) ?_
              refine lv_bipush (v := nI 6) hx hb dX1_lastOfRow_31 (by decide) ?_
              refine lv_iload_n hx hb dX1_lastOfRow_33 rfl (lv_at hl 5 rfl) ?_
              refine lv_iload hx hb dX1_lastOfRow_34 (lv_at hl 0 rfl) ?_
              refine lv_isub hx hb dX1_lastOfRow_36 ?_
              refine cr_top (y := nI 1) (by decide) ?_
              refine lv_imul hx hb dX1_lastOfRow_37 ?_
              refine cr_top (y := nI 6) (by decide) ?_
              refine lv_ishl hx hb dX1_lastOfRow_38 ?_
              refine cr_top (y := nI 64) (by decide) ?_
              refine lv_istore (lv' := [(5, .int (nI 64)), (4, .int (nI 2)), (7, .int ((nI ((min (min h0 65535) (c0 / 262144 * 262144 + 262143) + 1) / 4096 * 4096)) - (nI 1))), (6, .int (nI (min (min h0 65535) (c0 / 262144 * 262144 + 262143)))), (3, .int (nI (min h0 65535))), (2, .int (nI 3)), (0, .int (nI c0)), (1, .int (nI h0))]) hx hb dX1_lastOfRow_39 hl (by decide) rfl (fun ls hl => ?_)
              refine lv_iload_n hx hb dX1_lastOfRow_41 rfl (lv_at hl 4 rfl) ?_
              refine lv_iload_n hx hb dX1_lastOfRow_42 rfl (lv_at hl 6 rfl) ?_
              refine lv_bipush (v := nI 64) hx hb dX1_lastOfRow_43 (by decide) ?_
              refine lv_iload hx hb dX1_lastOfRow_45 (lv_at hl 0 rfl) ?_
              refine lv_imul hx hb dX1_lastOfRow_47 ?_
              refine cr_top (y := nI 4096) (by decide) ?_
              refine lv_iconst (v := nI 1) hx hb dX1_lastOfRow_48 (by decide) ?_
              refine lv_isub hx hb dX1_lastOfRow_49 ?_
              refine cr_top (y := nI 4095) (by decide) ?_
              refine lv_ior hx hb dX1_lastOfRow_50 ?_
              refine cr_top (y := nI (c0 / 4096 * 4096 + 4095)) (cr_or4095 c0) ?_
              refine va_mmin hx hb (hml.trans hl.1.symm) hown (hts (.methodLink RX1 95 Lib.Math.min.name) (by decide +kernel)) (hts (.static Lib.Math.min.name) (by decide +kernel)) (hts (.initialized "java/lang/Math") (by decide +kernel)) (hts (.code Lib.Math.min.name Lib.Math.min.code 2 (some .int)) (by decide +kernel)) (Nat.le_of_ble_eq_true rfl) (Nat.le_of_ble_eq_true rfl) (Nat.zero_le _) (Nat.zero_le _) dX1_lastOfRow_51 ?_
              refine cr_top (y := nI (min (min h0 65535) (c0 / 4096 * 4096 + 4095))) (cr_min _ _ (by omega) (by omega)) ?_
              refine lv_istore (lv' := [(6, .int (nI (min (min h0 65535) (c0 / 4096 * 4096 + 4095)))), (5, .int (nI 64)), (4, .int (nI 2)), (7, .int ((nI ((min (min h0 65535) (c0 / 262144 * 262144 + 262143) + 1) / 4096 * 4096)) - (nI 1))), (3, .int (nI (min h0 65535))), (2, .int (nI 3)), (0, .int (nI c0)), (1, .int (nI h0))]) hx hb dX1_lastOfRow_54 hl (by decide) rfl (fun ls hl => ?_)
              refine lv_iload hx hb dX1_lastOfRow_56 (lv_at hl 0 rfl) ?_
              refine lv_iconst (v := nI 1) hx hb dX1_lastOfRow_58 (by decide) ?_
              refine lv_iadd hx hb dX1_lastOfRow_59 ?_
              refine cr_top (y := nI ((min (min h0 65535) (c0 / 4096 * 4096 + 4095)) + 1)) (nI_add (min (min h0 65535) (c0 / 4096 * 4096 + 4095)) 1) ?_
              refine lv_iload hx hb dX1_lastOfRow_60 (lv_at hl 1 rfl) ?_
              refine lv_ineg hx hb dX1_lastOfRow_62 ?_
              refine lv_iand hx hb dX1_lastOfRow_63 ?_
              refine cr_top (y := nI ((min (min h0 65535) (c0 / 4096 * 4096 + 4095) + 1) / 64 * 64)) (cr_neg64 (by omega)) ?_
              refine lv_iconst (v := nI 1) hx hb dX1_lastOfRow_64 (by decide) ?_
              refine lv_isub hx hb dX1_lastOfRow_65 ?_
              refine lv_istore (lv' := [(7, .int ((nI ((min (min h0 65535) (c0 / 4096 * 4096 + 4095) + 1) / 64 * 64)) - (nI 1))), (6, .int (nI (min (min h0 65535) (c0 / 4096 * 4096 + 4095)))), (5, .int (nI 64)), (4, .int (nI 2)), (3, .int (nI (min h0 65535))), (2, .int (nI 3)), (0, .int (nI c0)), (1, .int (nI h0))]) hx hb dX1_lastOfRow_66 hl (by decide) rfl (fun ls hl => ?_)
              refine lv_iload_n hx hb dX1_lastOfRow_68 rfl (lv_at hl 6 rfl) ?_
              refine lv_iload hx hb dX1_lastOfRow_69 (lv_at hl 2 rfl) ?_
              refine lv_iconst (v := nI 1) hx hb dX1_lastOfRow_71 (by decide) ?_
              refine lv_isub hx hb dX1_lastOfRow_72 ?_
              refine cr_top (y := nI 63) (by decide) ?_
              refine lv_iand hx hb dX1_lastOfRow_73 ?_
              refine cr_top (y := nI (c0 % 64)) (cr_and63 (by omega)) ?_
              refine lv_if_ne (tgt := 86) hx hb dX1_lastOfRow_74 (by decide) (fun c_74 => ?_) (fun c_74 => ?_)
              · rw [show (0 : Int32) = nI 0 from rfl, nI_eq (by omega) (by omega)] at c_74
                refine lv_iinc (v := nI 3) (lv' := [(4, .int (nI 3)), (7, .int ((nI ((min (min h0 65535) (c0 / 4096 * 4096 + 4095) + 1) / 64 * 64)) - (nI 1))), (6, .int (nI (min (min h0 65535) (c0 / 4096 * 4096 + 4095)))), (5, .int (nI 64)), (3, .int (nI (min h0 65535))), (2, .int (nI 3)), (0, .int (nI c0)), (1, .int (nI h0))]) hx hb dX1_lastOfRow_86 hl (k := 3) rfl (by decide) (by decide) rfl (fun ls hl => ?_)
                refine lv_goto (tgt := 24) hx hb dX1_lastOfRow_89 (by decide) ?_
                refine lv_iload hx hb dX1_lastOfRow_24 (lv_at hl 0 rfl) ?_
                refine lv_iload_n hx hb dX1_lastOfRow_26 rfl (lv_at hl 5 rfl) ?_
                refine lv_icmp_ge (tgt := 92) hx hb dX1_lastOfRow_27 (by decide) (fun c_27 => ?_) (fun c_27 => ?_)
                · refine lv_iload_n hx hb dX1_lastOfRow_92 rfl (lv_at hl 4 rfl) ?_
                  refine lv_iload_n hx hb dX1_lastOfRow_93 rfl (lv_at hl 6 rfl) ?_
                  refine lv_bipush (v := nI 63) hx hb dX1_lastOfRow_94 (by decide) ?_
                  refine lv_ior hx hb dX1_lastOfRow_96 ?_
                  refine cr_top (y := nI (c0 / 64 * 64 + 63)) (cr_or63 c0) ?_
                  refine va_mmin hx hb (hml.trans hl.1.symm) hown (hts (.methodLink RX1 95 Lib.Math.min.name) (by decide +kernel)) (hts (.static Lib.Math.min.name) (by decide +kernel)) (hts (.initialized "java/lang/Math") (by decide +kernel)) (hts (.code Lib.Math.min.name Lib.Math.min.code 2 (some .int)) (by decide +kernel)) (Nat.le_of_ble_eq_true rfl) (Nat.le_of_ble_eq_true rfl) (Nat.zero_le _) (Nat.zero_le _) dX1_lastOfRow_97 ?_
                  refine cr_top (y := nI (min (min h0 65535) (c0 / 64 * 64 + 63))) (cr_min _ _ (by omega) (by omega)) ?_
                  exact W.iret (v := nI (min (min h0 65535) (c0 / 64 * 64 + 63))) hx hb hr (fun t9 ht9 hW9 => ⟨⟨nI (min (min h0 65535) (c0 / 64 * 64 + 63)), [], rfl, ⟨rfl, by rw [cr_last3 (by omega) (by omega), cr_e4096, cr_e64, if_neg (by omega), if_neg (by omega)]⟩, by rw [ht9]; exact hP, va_K.moved hW9.alike hK, hD⟩, hS.F ht9⟩) hS.2.2 dX1_lastOfRow_100
                · exact absurd (by decide) c_27
              · rw [show (0 : Int32) = nI 0 from rfl, nI_eq (by omega) (by omega)] at c_74
                refine lv_iload hx hb dX1_lastOfRow_77 (lv_at hl 0 rfl) ?_
                refine lv_iload_n hx hb dX1_lastOfRow_79 rfl (lv_at hl 6 rfl) ?_
                refine lv_icmp_lt (tgt := 86) hx hb dX1_lastOfRow_80 (by decide) (fun c_80 => ?_) (fun c_80 => ?_)
                · rw [Int32.lt_iff_toInt_lt, pk_sub_toInt (by omega) (by omega), nI_toInt (by omega)] at c_80
                  refine lv_iinc (v := nI 3) (lv' := [(4, .int (nI 3)), (7, .int ((nI ((min (min h0 65535) (c0 / 4096 * 4096 + 4095) + 1) / 64 * 64)) - (nI 1))), (6, .int (nI (min (min h0 65535) (c0 / 4096 * 4096 + 4095)))), (5, .int (nI 64)), (3, .int (nI (min h0 65535))), (2, .int (nI 3)), (0, .int (nI c0)), (1, .int (nI h0))]) hx hb dX1_lastOfRow_86 hl (k := 3) rfl (by decide) (by decide) rfl (fun ls hl => ?_)
                  refine lv_goto (tgt := 24) hx hb dX1_lastOfRow_89 (by decide) ?_
                  refine lv_iload hx hb dX1_lastOfRow_24 (lv_at hl 0 rfl) ?_
                  refine lv_iload_n hx hb dX1_lastOfRow_26 rfl (lv_at hl 5 rfl) ?_
                  refine lv_icmp_ge (tgt := 92) hx hb dX1_lastOfRow_27 (by decide) (fun c_27 => ?_) (fun c_27 => ?_)
                  · refine lv_iload_n hx hb dX1_lastOfRow_92 rfl (lv_at hl 4 rfl) ?_
                    refine lv_iload_n hx hb dX1_lastOfRow_93 rfl (lv_at hl 6 rfl) ?_
                    refine lv_bipush (v := nI 63) hx hb dX1_lastOfRow_94 (by decide) ?_
                    refine lv_ior hx hb dX1_lastOfRow_96 ?_
                    refine cr_top (y := nI (c0 / 64 * 64 + 63)) (cr_or63 c0) ?_
                    refine va_mmin hx hb (hml.trans hl.1.symm) hown (hts (.methodLink RX1 95 Lib.Math.min.name) (by decide +kernel)) (hts (.static Lib.Math.min.name) (by decide +kernel)) (hts (.initialized "java/lang/Math") (by decide +kernel)) (hts (.code Lib.Math.min.name Lib.Math.min.code 2 (some .int)) (by decide +kernel)) (Nat.le_of_ble_eq_true rfl) (Nat.le_of_ble_eq_true rfl) (Nat.zero_le _) (Nat.zero_le _) dX1_lastOfRow_97 ?_
                    refine cr_top (y := nI (min (min h0 65535) (c0 / 64 * 64 + 63))) (cr_min _ _ (by omega) (by omega)) ?_
                    exact W.iret (v := nI (min (min h0 65535) (c0 / 64 * 64 + 63))) hx hb hr (fun t9 ht9 hW9 => ⟨⟨nI (min (min h0 65535) (c0 / 64 * 64 + 63)), [], rfl, ⟨rfl, by rw [cr_last3 (by omega) (by omega), cr_e4096, cr_e64, if_neg (by omega), if_neg (by omega)]⟩, by rw [ht9]; exact hP, va_K.moved hW9.alike hK, hD⟩, hS.F ht9⟩) hS.2.2 dX1_lastOfRow_100
                  · exact absurd (by decide) c_27
                · rw [Int32.lt_iff_toInt_lt, pk_sub_toInt (by omega) (by omega), nI_toInt (by omega)] at c_80
                  refine lv_iload hx hb dX1_lastOfRow_83 (lv_at hl 0 rfl) ?_
                  exact W.iret (v := (nI ((min (min h0 65535) (c0 / 4096 * 4096 + 4095) + 1) / 64 * 64)) - (nI 1)) hx hb hr (fun t9 ht9 hW9 => ⟨⟨(nI ((min (min h0 65535) (c0 / 4096 * 4096 + 4095) + 1) / 64 * 64)) - (nI 1), [], rfl, ⟨rfl, by rw [cr_last3 (by omega) (by omega), cr_e4096, cr_e64, if_neg (by omega), if_pos (by omega)]; exact pk_sub (by omega)⟩, by rw [ht9]; exact hP, va_K.moved hW9.alike hK, hD⟩, hS.F ht9⟩) hS.2.2 dX1_lastOfRow_85
          · rw [Int32.lt_iff_toInt_lt, pk_sub_toInt (by omega) (by omega), nI_toInt (by omega)] at c_80
            refine lv_iload hx hb dX1_lastOfRow_83 (lv_at hl 0 rfl) ?_
            exact W.iret (v := (nI ((min (min h0 65535) (c0 / 262144 * 262144 + 262143) + 1) / 4096 * 4096)) - (nI 1)) hx hb hr (fun t9 ht9 hW9 => ⟨⟨(nI ((min (min h0 65535) (c0 / 262144 * 262144 + 262143) + 1) / 4096 * 4096)) - (nI 1), [], rfl, ⟨rfl, by rw [cr_last3 (by omega) (by omega), cr_e4096, cr_e64, if_pos (by omega)]; exact pk_sub (by omega)⟩, by rw [ht9]; exact hP, va_K.moved hW9.alike hK, hD⟩, hS.F ht9⟩) hS.2.2 dX1_lastOfRow_85
    · exact absurd c_16 (by decide)
  · rw [hL.1, show cr_lol 4 = 1114111 from rfl] at hl
    refine lv_iload_n hx hb dX1_lastOfRow_14 rfl (lv_at hl 1 rfl) ?_
    refine lv_iconst (v := nI 1) hx hb dX1_lastOfRow_15 (by decide) ?_
    refine lv_icmp_ne (tgt := 21) hx hb dX1_lastOfRow_16 (by decide) (fun c_16 => ?_) (fun c_16 => ?_)
    · refine lv_iconst (v := nI 1) hx hb dX1_lastOfRow_21 (by decide) ?_
      refine lv_istore (lv' := [(4, .int (nI 1)), (3, .int (nI (min h0 1114111))), (2, .int (nI 4)), (0, .int (nI c0)), (1, .int (nI h0))]) hx hb dX1_lastOfRow_22 hl (by decide) rfl (fun ls hl => ?_)
      refine lv_iload hx hb dX1_lastOfRow_24 (lv_at hl 0 rfl) ?_
      refine lv_iload_n hx hb dX1_lastOfRow_26 rfl (lv_at hl 2 rfl) ?_
      refine lv_icmp_ge (tgt := 92) hx hb dX1_lastOfRow_27 (by decide) (fun c_27 => ?_) (fun c_27 => ?_)
      · exact absurd c_27 (by decide)
      · refine lv_iconst (v := nI 1) hx hb dX1_lastOfRow_30 (by decide) ?_
        refine lv_bipush (v := nI 6) hx hb dX1_lastOfRow_31 (by decide) ?_
        refine lv_iload_n hx hb dX1_lastOfRow_33 rfl (lv_at hl 2 rfl) ?_
        refine lv_iload hx hb dX1_lastOfRow_34 (lv_at hl 0 rfl) ?_
        refine lv_isub hx hb dX1_lastOfRow_36 ?_
        refine cr_top (y := nI 3) (by decide) ?_
        refine lv_imul hx hb dX1_lastOfRow_37 ?_
        refine cr_top (y := nI 18) (by decide) ?_
        refine lv_ishl hx hb dX1_lastOfRow_38 ?_
        refine cr_top (y := nI 262144) (by decide) ?_
        refine lv_istore (lv' := [(5, .int (nI 262144)), (4, .int (nI 1)), (3, .int (nI (min h0 1114111))), (2, .int (nI 4)), (0, .int (nI c0)), (1, .int (nI h0))]) hx hb dX1_lastOfRow_39 hl (by decide) rfl (fun ls hl => ?_)
        refine lv_iload_n hx hb dX1_lastOfRow_41 rfl (lv_at hl 2 rfl) ?_
        refine lv_iload_n hx hb dX1_lastOfRow_42 rfl (lv_at hl 4 rfl) ?_
        refine lv_bipush (v := nI 64) hx hb dX1_lastOfRow_43 (by decide) ?_
        refine lv_iload hx hb dX1_lastOfRow_45 (lv_at hl 0 rfl) ?_
        refine lv_imul hx hb dX1_lastOfRow_47 ?_
        refine cr_top (y := nI 16777216) (by decide) ?_
        refine lv_iconst (v := nI 1) hx hb dX1_lastOfRow_48 (by decide) ?_
        refine lv_isub hx hb dX1_lastOfRow_49 ?_
        refine cr_top (y := nI 16777215) (by decide) ?_
        refine lv_ior hx hb dX1_lastOfRow_50 ?_
        refine cr_top (y := nI (c0 / 16777216 * 16777216 + 16777215)) (cr_or16777215 c0) ?_
        refine va_mmin hx hb (hml.trans hl.1.symm) hown (hts (.methodLink RX1 95 Lib.Math.min.name) (by decide +kernel)) (hts (.static Lib.Math.min.name) (by decide +kernel)) (hts (.initialized "java/lang/Math") (by decide +kernel)) (hts (.code Lib.Math.min.name Lib.Math.min.code 2 (some .int)) (by decide +kernel)) (Nat.le_of_ble_eq_true rfl) (Nat.le_of_ble_eq_true rfl) (Nat.zero_le _) (Nat.zero_le _) dX1_lastOfRow_51 ?_
        refine cr_top (y := nI (min (min h0 1114111) (c0 / 16777216 * 16777216 + 16777215))) (cr_min _ _ (by omega) (by omega)) ?_
        refine lv_istore (lv' := [(6, .int (nI (min (min h0 1114111) (c0 / 16777216 * 16777216 + 16777215)))), (5, .int (nI 262144)), (4, .int (nI 1)), (3, .int (nI (min h0 1114111))), (2, .int (nI 4)), (0, .int (nI c0)), (1, .int (nI h0))]) hx hb dX1_lastOfRow_54 hl (by decide) rfl (fun ls hl => ?_)
        refine lv_iload hx hb dX1_lastOfRow_56 (lv_at hl 0 rfl) ?_
        refine lv_iconst (v := nI 1) hx hb dX1_lastOfRow_58 (by decide) ?_
        refine lv_iadd hx hb dX1_lastOfRow_59 ?_
        refine cr_top (y := nI ((min (min h0 1114111) (c0 / 16777216 * 16777216 + 16777215)) + 1)) (nI_add (min (min h0 1114111) (c0 / 16777216 * 16777216 + 16777215)) 1) ?_
        refine lv_iload hx hb dX1_lastOfRow_60 (lv_at hl 1 rfl) ?_
        refine lv_ineg hx hb dX1_lastOfRow_62 ?_
        refine lv_iand hx hb dX1_lastOfRow_63 ?_
        refine cr_top (y := nI ((min (min h0 1114111) (c0 / 16777216 * 16777216 + 16777215) + 1) / 262144 * 262144)) (cr_neg262144 (by omega)) ?_
        refine lv_iconst (v := nI 1) hx hb dX1_lastOfRow_64 (by decide) ?_
        refine lv_isub hx hb dX1_lastOfRow_65 ?_
        refine lv_istore (lv' := [(7, .int ((nI ((min (min h0 1114111) (c0 / 16777216 * 16777216 + 16777215) + 1) / 262144 * 262144)) - (nI 1))), (6, .int (nI (min (min h0 1114111) (c0 / 16777216 * 16777216 + 16777215)))), (5, .int (nI 262144)), (4, .int (nI 1)), (3, .int (nI (min h0 1114111))), (2, .int (nI 4)), (0, .int (nI c0)), (1, .int (nI h0))]) hx hb dX1_lastOfRow_66 hl (by decide) rfl (fun ls hl => ?_)
        refine lv_iload_n hx hb dX1_lastOfRow_68 rfl (lv_at hl 6 rfl) ?_
        refine lv_iload hx hb dX1_lastOfRow_69 (lv_at hl 2 rfl) ?_
        refine lv_iconst (v := nI 1) hx hb dX1_lastOfRow_71 (by decide) ?_
        refine lv_isub hx hb dX1_lastOfRow_72 ?_
        refine cr_top (y := nI 262143) (by decide) ?_
        refine lv_iand hx hb dX1_lastOfRow_73 ?_
        refine cr_top (y := nI (c0 % 262144)) (cr_and262143 (by omega)) ?_
        refine lv_if_ne (tgt := 86) hx hb dX1_lastOfRow_74 (by decide) (fun c_74 => ?_) (fun c_74 => ?_)
        · rw [show (0 : Int32) = nI 0 from rfl, nI_eq (by omega) (by omega)] at c_74
          refine lv_iinc (v := nI 2) (lv' := [(4, .int (nI 2)), (7, .int ((nI ((min (min h0 1114111) (c0 / 16777216 * 16777216 + 16777215) + 1) / 262144 * 262144)) - (nI 1))), (6, .int (nI (min (min h0 1114111) (c0 / 16777216 * 16777216 + 16777215)))), (5, .int (nI 262144)), (3, .int (nI (min h0 1114111))), (2, .int (nI 4)), (0, .int (nI c0)), (1, .int (nI h0))]) hx hb dX1_lastOfRow_86 hl (k := 3) rfl (by decide) (by decide) rfl (fun ls hl => ?_)
          refine lv_goto (tgt := 24) hx hb dX1_lastOfRow_89 (by decide) ?_
          refine lv_iload hx hb dX1_lastOfRow_24 (lv_at hl 0 rfl) ?_
          refine lv_iload_n hx hb dX1_lastOfRow_26 rfl (lv_at hl 5 rfl) ?_
          refine lv_icmp_ge (tgt := 92) hx hb dX1_lastOfRow_27 (by decide) (fun c_27 => ?_) (fun c_27 => ?_)
          · exact absurd c_27 (by decide)
          · refine lv_iconst (v := nI 1) hx hb dX1_lastOfRow_30 (by decide) ?_
            refine lv_bipush (v := nI 6) hx hb dX1_lastOfRow_31 (by decide) ?_
            refine lv_iload_n hx hb dX1_lastOfRow_33 rfl (lv_at hl 5 rfl) ?_
            refine lv_iload hx hb dX1_lastOfRow_34 (lv_at hl 0 rfl) ?_
            refine lv_isub hx hb dX1_lastOfRow_36 ?_
            refine cr_top (y := nI 2) (by decide) ?_
            refine lv_imul hx hb dX1_lastOfRow_37 ?_
            refine cr_top (y := nI 12) (by decide) ?_
            refine lv_ishl hx hb dX1_lastOfRow_38 ?_
            refine cr_top (y := nI 4096) (by decide) ?_
            refine lv_istore (lv' := [(5, .int (nI 4096)), (4, .int (nI 2)), (7, .int ((nI ((min (min h0 1114111) (c0 / 16777216 * 16777216 + 16777215) + 1) / 262144 * 262144)) - (nI 1))), (6, .int (nI (min (min h0 1114111) (c0 / 16777216 * 16777216 + 16777215)))), (3, .int (nI (min h0 1114111))), (2, .int (nI 4)), (0, .int (nI c0)), (1, .int (nI h0))]) hx hb dX1_lastOfRow_39 hl (by decide) rfl (fun ls hl => ?_)
            refine lv_iload_n hx hb dX1_lastOfRow_41 rfl (lv_at hl 4 rfl) ?_
            refine lv_iload_n hx hb dX1_lastOfRow_42 rfl (lv_at hl 6 rfl) ?_
            refine lv_bipush (v := nI 64) hx hb dX1_lastOfRow_43 (by decide) ?_
            refine lv_iload hx hb dX1_lastOfRow_45 (lv_at hl 0 rfl) ?_
            refine lv_imul hx hb dX1_lastOfRow_47 ?_
            refine cr_top (y := nI 262144) (by decide) ?_
            refine lv_iconst (v := nI 1) hx hb dX1_lastOfRow_48 (by decide) ?_
            refine lv_isub hx hb dX1_lastOfRow_49 ?_
            refine cr_top (y := nI 262143) (by decide) ?_
            refine lv_ior hx hb dX1_lastOfRow_50 ?_
            refine cr_top (y := nI (c0 / 262144 * 262144 + 262143)) (cr_or262143 c0) ?_
            refine va_mmin hx hb (hml.trans hl.1.symm) hown (hts (.methodLink RX1 95 Lib.Math.min.name) (by decide +kernel)) (hts (.static Lib.Math.min.name) (by decide +kernel)) (hts (.initialized "java/lang/Math") (by decide +kernel)) (hts (.code Lib.Math.min.name Lib.Math.min.code 2 (some .int)) (by decide +kernel)) (Nat.le_of_ble_eq_true rfl) (Nat.le_of_ble_eq_true rfl) (Nat.zero_le _) (Nat.zero_le _) dX1_lastOfRow_51 ?_
            refine cr_top (y := nI (min (min h0 1114111) (c0 / 262144 * 262144 + 262143))) (cr_min _ _ (by omega) (by omega)) ?_
            refine lv_istore (lv' := [(6, .int (nI (min (min h0 1114111) (c0 / 262144 * 262144 + 262143)))), (5, .int (nI 4096)), (4, .int (nI 2)), (7, .int ((nI ((min (min h0 1114111) (c0 / 16777216 * 16777216 + 16777215) + 1) / 262144 * 262144)) - (nI 1))), (3, .int (nI (min h0 1114111))), (2, .int (nI 4)), (0, .int (nI c0)), (1, .int (nI h0))]) hx hb dX1_lastOfRow_54 hl (by decide) rfl (fun ls hl => ?_)
            refine lv_iload hx hb dX1_lastOfRow_56 (lv_at hl 0 rfl) ?_
            refine lv_iconst (v := nI 1) hx hb dX1_lastOfRow_58 (by decide) ?_
            refine lv_iadd hx hb dX1_lastOfRow_59 ?_
            refine cr_top (y := nI ((min (min h0 1114111) (c0 / 262144 * 262144 + 262143)) + 1)) (nI_add (min (min h0 1114111) (c0 / 262144 * 262144 + 262143)) 1) ?_
            refine lv_iload hx hb dX1_lastOfRow_60 (lv_at hl 1 rfl) ?_
            refine lv_ineg hx hb dX1_lastOfRow_62 ?_
            refine lv_iand hx hb dX1_lastOfRow_63 ?_
            refine cr_top (y := nI ((min (min h0 1114111) (c0 / 262144 * 262144 + 262143) + 1) / 4096 * 4096)) (cr_neg4096 (by omega)) ?_
            refine lv_iconst (v := nI 1) hx hb dX1_lastOfRow_64 (by decide) ?_
            refine lv_isub hx hb dX1_lastOfRow_65 ?_
            refine lv_istore (lv' := [(7, .int ((nI ((min (min h0 1114111) (c0 / 262144 * 262144 + 262143) + 1) / 4096 * 4096)) - (nI 1))), (6, .int (nI (min (min h0 1114111) (c0 / 262144 * 262144 + 262143)))), (5, .int (nI 4096)), (4, .int (nI 2)), (3, .int (nI (min h0 1114111))), (2, .int (nI 4)), (0, .int (nI c0)), (1, .int (nI h0))]) hx hb dX1_lastOfRow_66 hl (by decide) rfl (fun ls hl => ?_)
            refine lv_iload_n hx hb dX1_lastOfRow_68 rfl (lv_at hl 6 rfl) ?_
            refine lv_iload hx hb dX1_lastOfRow_69 (lv_at hl 2 rfl) ?_
            refine lv_iconst (v := nI 1) hx hb dX1_lastOfRow_71 (by decide) ?_
            refine lv_isub hx hb dX1_lastOfRow_72 ?_
            refine cr_top (y := nI 4095) (by decide) ?_
            refine lv_iand hx hb dX1_lastOfRow_73 ?_
            refine cr_top (y := nI (c0 % 4096)) (cr_and4095 (by omega)) ?_
            refine lv_if_ne (tgt := 86) hx hb dX1_lastOfRow_74 (by decide) (fun c_74 => ?_) (fun c_74 => ?_)
            · rw [show (0 : Int32) = nI 0 from rfl, nI_eq (by omega) (by omega)] at c_74
              refine lv_iinc (v := nI 3) (lv' := [(4, .int (nI 3)), (7, .int ((nI ((min (min h0 1114111) (c0 / 262144 * 262144 + 262143) + 1) / 4096 * 4096)) - (nI 1))), (6, .int (nI (min (min h0 1114111) (c0 / 262144 * 262144 + 262143)))), (5, .int (nI 4096)), (3, .int (nI (min h0 1114111))), (2, .int (nI 4)), (0, .int (nI c0)), (1, .int (nI h0))]) hx hb dX1_lastOfRow_86 hl (k := 3) rfl (by decide) (by decide) rfl (fun ls hl => ?_)
              refine lv_goto (tgt := 24) hx hb dX1_lastOfRow_89 (by decide) ?_
              refine lv_iload hx hb dX1_lastOfRow_24 (lv_at hl 0 rfl) ?_
              refine lv_iload_n hx hb dX1_lastOfRow_26 rfl (lv_at hl 5 rfl) ?_
              refine lv_icmp_ge (tgt := 92) hx hb dX1_lastOfRow_27 (by decide) (fun c_27 => ?_) (fun c_27 => ?_)
              · exact absurd c_27 (by decide)
              · refine lv_iconst (v := nI 1) hx hb dX1_lastOfRow_30 (by decide) ?_
                refine lv_bipush (v := nI 6) hx hb dX1_lastOfRow_31 (by decide) ?_
                refine lv_iload_n hx hb dX1_lastOfRow_33 rfl (lv_at hl 5 rfl) ?_
                refine lv_iload hx hb dX1_lastOfRow_34 (lv_at hl 0 rfl) ?_
                refine lv_isub hx hb dX1_lastOfRow_36 ?_
                refine cr_top (y := nI 1) (by decide) ?_
                refine lv_imul hx hb dX1_lastOfRow_37 ?_
                refine cr_top (y := nI 6) (by decide) ?_
                refine lv_ishl hx hb dX1_lastOfRow_38 ?_
                refine cr_top (y := nI 64) (by decide) ?_
                refine lv_istore (lv' := [(5, .int (nI 64)), (4, .int (nI 3)), (7, .int ((nI ((min (min h0 1114111) (c0 / 262144 * 262144 + 262143) + 1) / 4096 * 4096)) - (nI 1))), (6, .int (nI (min (min h0 1114111) (c0 / 262144 * 262144 + 262143)))), (3, .int (nI (min h0 1114111))), (2, .int (nI 4)), (0, .int (nI c0)), (1, .int (nI h0))]) hx hb dX1_lastOfRow_39 hl (by decide) rfl (fun ls hl => ?_)
                refine lv_iload_n hx hb dX1_lastOfRow_41 rfl (lv_at hl 4 rfl) ?_
                refine lv_iload_n hx hb dX1_lastOfRow_42 rfl (lv_at hl 6 rfl) ?_
                refine lv_bipush (v := nI 64) hx hb dX1_lastOfRow_43 (by decide) ?_
                refine lv_iload hx hb dX1_lastOfRow_45 (lv_at hl 0 rfl) ?_
                refine lv_imul hx hb dX1_lastOfRow_47 ?_
                refine cr_top (y := nI 4096) (by decide) ?_
                refine lv_iconst (v := nI 1) hx hb dX1_lastOfRow_48 (by decide) ?_
                refine lv_isub hx hb dX1_lastOfRow_49 ?_
                refine cr_top (y := nI 4095) (by decide) ?_
                refine lv_ior hx hb dX1_lastOfRow_50 ?_
                refine cr_top (y := nI (c0 / 4096 * 4096 + 4095)) (cr_or4095 c0) ?_
                refine va_mmin hx hb (hml.trans hl.1.symm) hown (hts (.methodLink RX1 95 Lib.Math.min.name) (by decide +kernel)) (hts (.static Lib.Math.min.name) (by decide +kernel)) (hts (.initialized "java/lang/Math") (by decide +kernel)) (hts (.code Lib.Math.min.name Lib.Math.min.code 2 (some .int)) (by decide +kernel)) (Nat.le_of_ble_eq_true rfl) (Nat.le_of_ble_eq_true rfl) (Nat.zero_le _) (Nat.zero_le _) dX1_lastOfRow_51 ?_
                refine cr_top (y := nI (min (min h0 1114111) (c0 / 4096 * 4096 + 4095))) (cr_min _ _ (by omega) (by omega)) ?_
                refine lv_istore (lv' := [(6, .int (nI (min (min h0 1114111) (c0 / 4096 * 4096 + 4095)))), (5, .int (nI 64)), (4, .int (nI 3)), (7, .int ((nI ((min (min h0 1114111) (c0 / 262144 * 262144 + 262143) + 1) / 4096 * 4096)) - (nI 1))), (3, .int (nI (min h0 1114111))), (2, .int (nI 4)), (0, .int (nI c0)), (1, .int (nI h0))]) hx hb dX1_lastOfRow_54 hl (by decide) rfl (fun ls hl => ?_)
                refine lv_iload hx hb dX1_lastOfRow_56 (lv_at hl 0 rfl) ?_
                refine lv_iconst (v := nI 1) hx hb dX1_lastOfRow_58 (by decide) ?_
                refine lv_iadd hx hb dX1_lastOfRow_59 ?_
                refine cr_top (y := nI ((min (min h0 1114111) (c0 / 4096 * 4096 + 4095)) + 1)) (nI_add (min (min h0 1114111) (c0 / 4096 * 4096 + 4095)) 1) ?_
                refine lv_iload hx hb dX1_lastOfRow_60 (lv_at hl 1 rfl) ?_
                refine lv_ineg hx hb dX1_lastOfRow_62 ?_
                refine lv_iand hx hb dX1_lastOfRow_63 ?_
                refine cr_top (y := nI ((min (min h0 1114111) (c0 / 4096 * 4096 + 4095) + 1) / 64 * 64)) (cr_neg64 (by omega)) ?_
                refine lv_iconst (v := nI 1) hx hb dX1_lastOfRow_64 (by decide) ?_
                refine lv_isub hx hb dX1_lastOfRow_65 ?_
                refine lv_istore (lv' := [(7, .int ((nI ((min (min h0 1114111) (c0 / 4096 * 4096 + 4095) + 1) / 64 * 64)) - (nI 1))), (6, .int (nI (min (min h0 1114111) (c0 / 4096 * 4096 + 4095)))), (5, .int (nI 64)), (4, .int (nI 3)), (3, .int (nI (min h0 1114111))), (2, .int (nI 4)), (0, .int (nI c0)), (1, .int (nI h0))]) hx hb dX1_lastOfRow_66 hl (by decide) rfl (fun ls hl => ?_)
                refine lv_iload_n hx hb dX1_lastOfRow_68 rfl (lv_at hl 6 rfl) ?_
                refine lv_iload hx hb dX1_lastOfRow_69 (lv_at hl 2 rfl) ?_
                refine lv_iconst (v := nI 1) hx hb dX1_lastOfRow_71 (by decide) ?_
                refine lv_isub hx hb dX1_lastOfRow_72 ?_
                refine cr_top (y := nI 63) (by decide) ?_
                refine lv_iand hx hb dX1_lastOfRow_73 ?_
                refine cr_top (y := nI (c0 % 64)) (cr_and63 (by omega)) ?_
                refine lv_if_ne (tgt := 86) hx hb dX1_lastOfRow_74 (by decide) (fun c_74 => ?_) (fun c_74 => ?_)
                · rw [show (0 : Int32) = nI 0 from rfl, nI_eq (by omega) (by omega)] at c_74
                  refine lv_iinc (v := nI 4) (lv' := [(4, .int (nI 4)), (7, .int ((nI ((min (min h0 1114111) (c0 / 4096 * 4096 + 4095) + 1) / 64 * 64)) - (nI 1))), (6, .int (nI (min (min h0 1114111) (c0 / 4096 * 4096 + 4095)))), (5, .int (nI 64)), (3, .int (nI (min h0 1114111))), (2, .int (nI 4)), (0, .int (nI c0)), (1, .int (nI h0))]) hx hb dX1_lastOfRow_86 hl (k := 3) rfl (by decide) (by decide) rfl (fun ls hl => ?_)
                  refine lv_goto (tgt := 24) hx hb dX1_lastOfRow_89 (by decide) ?_
                  refine lv_iload hx hb dX1_lastOfRow_24 (lv_at hl 0 rfl) ?_
                  refine lv_iload_n hx hb dX1_lastOfRow_26 rfl (lv_at hl 5 rfl) ?_
                  refine lv_icmp_ge (tgt := 92) hx hb dX1_lastOfRow_27 (by decide) (fun c_27 => ?_) (fun c_27 => ?_)
                  · refine lv_iload_n hx hb dX1_lastOfRow_92 rfl (lv_at hl 4 rfl) ?_
                    refine lv_iload_n hx hb dX1_lastOfRow_93 rfl (lv_at hl 6 rfl) ?_
                    refine lv_bipush (v := nI 63) hx hb dX1_lastOfRow_94 (by decide) ?_
                    refine lv_ior hx hb dX1_lastOfRow_96 ?_
                    refine cr_top (y := nI (c0 / 64 * 64 + 63)) (cr_or63 c0) ?_
                    refine va_mmin hx hb (hml.trans hl.1.symm) hown (hts (.methodLink RX1 95 Lib.Math.min.name) (by decide +kernel)) (hts (.static Lib.Math.min.name) (by decide +kernel)) (hts (.initialized "java/lang/Math") (by decide +kernel)) (hts (.code Lib.Math.min.name Lib.Math.min.code 2 (some .int)) (by decide +kernel)) (Nat.le_of_ble_eq_true rfl) (Nat.le_of_ble_eq_true rfl) (Nat.zero_le _) (Nat.zero_le _) dX1_lastOfRow_97 ?_
                    refine cr_top (y := nI (min (min h0 1114111) (c0 / 64 * 64 + 63))) (cr_min _ _ (by omega) (by omega)) ?_
                    exact W.iret (v := nI (min (min h0 1114111) (c0 / 64 * 64 + 63))) hx hb hr (fun t9 ht9 hW9 => ⟨⟨nI (min (min h0 1114111) (c0 / 64 * 64 + 63)), [], rfl, ⟨rfl, by rw [cr_last4 (by omega), cr_e262144, cr_e4096, cr_e64, if_neg (by omega), if_neg (by omega), if_neg (by omega)]⟩, by rw [ht9]; exact hP, va_K.moved hW9.alike hK, hD⟩, hS.F ht9⟩) hS.2.2 dX1_lastOfRow_100
                  · exact absurd (by decide) c_27
                · rw [show (0 : Int32) = nI 0 from rfl, nI_eq (by omega) (by omega)] at c_74
                  refine lv_iload hx hb dX1_lastOfRow_77 (lv_at hl 0 rfl) ?_
                  refine lv_iload_n hx hb dX1_lastOfRow_79 rfl (lv_at hl 6 rfl) ?_
                  refine lv_icmp_lt (tgt := 86) hx hb dX1_lastOfRow_80 (by decide) (fun c_80 => ?_) (fun c_80 => ?_)
                  · rw [Int32.lt_iff_toInt_lt, pk_sub_toInt (by omega) (by omega), nI_toInt (by omega)] at c_80
                    refine lv_iinc (v := nI 4) (lv' := [(4, .int (nI 4)), (7, .int ((nI ((min (min h0 1114111) (c0 / 4096 * 4096 + 4095) + 1) / 64 * 64)) - (nI 1))), (6, .int (nI (min (min h0 1114111) (c0 / 4096 * 4096 + 4095)))), (5, .int (nI 64)), (3, .int (nI (min h0 1114111))), (2, .int (nI 4)), (0, .int (nI c0)), (1, .int (nI h0))]) hx hb dX1_lastOfRow_86 hl (k := 3) rfl (by decide) (by decide) rfl (fun ls hl => ?_)
                    refine lv_goto (tgt := 24) hx hb dX1_lastOfRow_89 (by decide) ?_
                    refine lv_iload hx hb dX1_lastOfRow_24 (lv_at hl 0 rfl) ?_
                    refine lv_iload_n hx hb dX1_lastOfRow_26 rfl (lv_at hl 5 rfl) ?_
                    refine lv_icmp_ge (tgt := 92) hx hb dX1_lastOfRow_27 (by decide) (fun c_27 => ?_) (fun c_27 => ?_)
                    · refine lv_iload_n hx hb dX1_lastOfRow_92 rfl (lv_at hl 4 rfl) ?_
                      refine lv_iload_n hx hb dX1_lastOfRow_93 rfl (lv_at hl 6 rfl) ?_
                      refine lv_bipush (v := nI 63) hx hb dX1_lastOfRow_94 (by decide) ?_
                      refine lv_ior hx hb dX1_lastOfRow_96 ?_
                      refine cr_top (y := nI (c0 / 64 * 64 + 63)) (cr_or63 c0) ?_
                      refine va_mmin hx hb (hml.trans hl.1.symm) hown (hts (.methodLink RX1 95 Lib.Math.min.name) (by decide +kernel)) (hts (.static Lib.Math.min.name) (by decide +kernel)) (hts (.initialized "java/lang/Math") (by decide +kernel)) (hts (.code Lib.Math.min.name Lib.Math.min.code 2 (some .int)) (by decide +kernel)) (Nat.le_of_ble_eq_true rfl) (Nat.le_of_ble_eq_true rfl) (Nat.zero_le _) (Nat.zero_le _) dX1_lastOfRow_97 ?_
                      refine cr_top (y := nI (min (min h0 1114111) (c0 / 64 * 64 + 63))) (cr_min _ _ (by omega) (by omega)) ?_
                      exact W.iret (v := nI (min (min h0 1114111) (c0 / 64 * 64 + 63))) hx hb hr (fun t9 ht9 hW9 => ⟨⟨nI (min (min h0 1114111) (c0 / 64 * 64 + 63)), [], rfl, ⟨rfl, by rw [cr_last4 (by omega), cr_e262144, cr_e4096, cr_e64, if_neg (by omega), if_neg (by omega), if_neg (by omega)]⟩, by rw [ht9]; exact hP, va_K.moved hW9.alike hK, hD⟩, hS.F ht9⟩) hS.2.2 dX1_lastOfRow_100
                    · exact absurd (by decide) c_27
                  · rw [Int32.lt_iff_toInt_lt, pk_sub_toInt (by omega) (by omega), nI_toInt (by omega)] at c_80
                    refine lv_iload hx hb dX1_lastOfRow_83 (lv_at hl 0 rfl) ?_
                    exact W.iret (v := (nI ((min (min h0 1114111) (c0 / 4096 * 4096 + 4095) + 1) / 64 * 64)) - (nI 1)) hx hb hr (fun t9 ht9 hW9 => ⟨⟨(nI ((min (min h0 1114111) (c0 / 4096 * 4096 + 4095) + 1) / 64 * 64)) - (nI 1), [], rfl, ⟨rfl, by rw [cr_last4 (by omega), cr_e262144, cr_e4096, cr_e64, if_neg (by omega), if_neg (by omega), if_pos (by omega)]; exact pk_sub (by omega)⟩, by rw [ht9]; exact hP, va_K.moved hW9.alike hK, hD⟩, hS.F ht9⟩) hS.2.2 dX1_lastOfRow_85
            · rw [show (0 : Int32) = nI 0 from rfl, nI_eq (by omega) (by omega)] at c_74
              refine lv_iload hx hb dX1_lastOfRow_77 (lv_at hl 0 rfl) ?_
              refine lv_iload_n hx hb dX1_lastOfRow_79 rfl (lv_at hl 6 rfl) ?_
              refine lv_icmp_lt (tgt := 86) hx hb dX1_lastOfRow_80 (by decide) (fun c_80 => ?_) (fun c_80 => ?_)
              · rw [Int32.lt_iff_toInt_lt, pk_sub_toInt (by omega) (by omega), nI_toInt (by omega)] at c_80
                refine lv_iinc (v := nI 3) (lv' := [(4, .int (nI 3)), (7, .int ((nI ((min (min h0 1114111) (c0 / 262144 * 262144 + 262143) + 1) / 4096 * 4096)) - (nI 1))), (6, .int (nI (min (min h0 1114111) (c0 / 262144 * 262144 + 262143)))), (5, .int (nI 4096)), (3, .int (nI (min h0 1114111))), (2, .int (nI 4)), (0, .int (nI c0)), (1, .int (nI h0))]) hx hb dX1_lastOfRow_86 hl (k := 3) rfl (by decide) (by decide) rfl (fun ls hl => ?_)
                refine lv_goto (tgt := 24) hx hb dX1_lastOfRow_89 (by decide) ?_
                refine lv_iload hx hb dX1_lastOfRow_24 (lv_at hl 0 rfl) ?_
                refine lv_iload_n hx hb dX1_lastOfRow_26 rfl (lv_at hl 5 rfl) ?_
                refine lv_icmp_ge (tgt := 92) hx hb dX1_lastOfRow_27 (by decide) (fun c_27 => ?_) (fun c_27 => ?_)
                · exact absurd c_27 (by decide)
                · refine lv_iconst (v := nI 1) hx hb dX1_lastOfRow_30 (by decide) ?_
                  refine lv_bipush (v := nI 6) hx hb dX1_lastOfRow_31 (by decide) ?_
                  refine lv_iload_n hx hb dX1_lastOfRow_33 rfl (lv_at hl 5 rfl) ?_
                  refine lv_iload hx hb dX1_lastOfRow_34 (lv_at hl 0 rfl) ?_
                  refine lv_isub hx hb dX1_lastOfRow_36 ?_
                  refine cr_top (y := nI 1) (by decide) ?_
                  refine lv_imul hx hb dX1_lastOfRow_37 ?_
                  refine cr_top (y := nI 6) (by decide) ?_
                  refine lv_ishl hx hb dX1_lastOfRow_38 ?_
                  refine cr_top (y := nI 64) (by decide) ?_
                  refine lv_istore (lv' := [(5, .int (nI 64)), (4, .int (nI 3)), (7, .int ((nI ((min (min h0 1114111) (c0 / 262144 * 262144 + 262143) + 1) / 4096 * 4096)) - (nI 1))), (6, .int (nI (min (min h0 1114111) (c0 / 262144 * 262144 + 262143)))), (3, .int (nI (min h0 1114111))), (2, .int (nI 4)), (0, .int (nI c0)), (1, .int (nI h0))]) hx hb dX1_lastOfRow_39 hl (by decide) rfl (fun ls hl => ?_)
                  refine lv_iload_n hx hb dX1_lastOfRow_41 rfl (lv_at hl 4 rfl) ?_
                  refine lv_iload_n hx hb dX1_lastOfRow_42 rfl (lv_at hl 6 rfl) ?_
                  refine lv_bipush (v := nI 64) hx hb dX1_lastOfRow_43 (by decide) ?_
                  refine lv_iload hx hb dX1_lastOfRow_45 (lv_at hl 0 rfl) ?_
                  refine lv_imul hx hb dX1_lastOfRow_47 ?_
                  refine cr_top (y := nI 4096) (by decide) ?_
                  refine lv_iconst (v := nI 1) hx hb dX1_lastOfRow_48 (by decide) ?_
                  refine lv_isub hx hb dX1_lastOfRow_49 ?_
                  refine cr_top (y := nI 4095) (by decide) ?_
                  refine lv_ior hx hb dX1_lastOfRow_50 ?_
                  refine cr_top (y := nI (c0 / 4096 * 4096 + 4095)) (cr_or4095 c0) ?_
                  refine va_mmin hx hb (hml.trans hl.1.symm) hown (hts (.methodLink RX1 95 Lib.Math.min.name) (by decide +kernel)) (hts (.static Lib.Math.min.name) (by decide +kernel)) (hts (.initialized "java/lang/Math") (by decide +kernel)) (hts (.code Lib.Math.min.name Lib.Math.min.code 2 (some .int)) (by decide +kernel)) (Nat.le_of_ble_eq_true rfl) (Nat.le_of_ble_eq_true rfl) (Nat.zero_le _) (Nat.zero_le _) dX1_lastOfRow_51 ?_
                  refine cr_top (y := nI (min (min h0 1114111) (c0 / 4096 * 4096 + 4095))) (cr_min _ _ (by omega) (by omega)) ?_
                  refine lv_istore (lv' := [(6, .int (nI (min (min h0 1114111) (c0 / 4096 * 4096 + 4095)))), (5, .int (nI 64)), (4, .int (nI 3)), (7, .int ((nI ((min (min h0 1114111) (c0 / 262144 * 262144 + 262143) + 1) / 4096 * 4096)) - (nI 1))), (3, .int (nI (min h0 1114111))), (2, .int (nI 4)), (0, .int (nI c0)), (1, .int (nI h0))]) hx hb dX1_lastOfRow_54 hl (by decide) rfl (fun ls hl => ?_)
                  refine lv_iload hx hb dX1_lastOfRow_56 (lv_at hl 0 rfl) ?_
                  refine lv_iconst (v := nI 1) hx hb dX1_lastOfRow_58 (by decide) ?_
                  refine lv_iadd hx hb dX1_lastOfRow_59 ?_
                  refine cr_top (y := nI ((min (min h0 1114111) (c0 / 4096 * 4096 + 4095)) + 1)) (nI_add (min (min h0 1114111) (c0 / 4096 * 4096 + 4095)) 1) ?_
                  refine lv_iload hx hb dX1_lastOfRow_60 (lv_at hl 1 rfl) ?_
                  refine lv_ineg hx hb dX1_lastOfRow_62 ?_
                  refine lv_iand hx hb dX1_lastOfRow_63 ?_
                  refine cr_top (y := nI ((min (min h0 1114111) (c0 / 4096 * 4096 + 4095) + 1) / 64 * 64)) (cr_neg64 (by omega)) ?_
                  refine lv_iconst (v := nI 1) hx hb dX1_lastOfRow_64 (by decide) ?_
                  refine lv_isub hx hb dX1_lastOfRow_65 ?_
                  refine lv_istore (lv' := [(7, .int ((nI ((min (min h0 1114111) (c0 / 4096 * 4096 + 4095) + 1) / 64 * 64)) - (nI 1))), (6, .int (nI (min (min h0 1114111) (c0 / 4096 * 4096 + 4095)))), (5, .int (nI 64)), (4, .int (nI 3)), (3, .int (nI (min h0 1114111))), (2, .int (nI 4)), (0, .int (nI c0)), (1, .int (nI h0))]) hx hb dX1_lastOfRow_66 hl (by decide) rfl (fun ls hl => ?_)
                  refine lv_iload_n hx hb dX1_lastOfRow_68 rfl (lv_at hl 6 rfl) ?_
                  refine lv_iload hx hb dX1_lastOfRow_69 (lv_at hl 2 rfl) ?_
                  refine lv_iconst (v := nI 1) hx hb dX1_lastOfRow_71 (by decide) ?_
                  refine lv_isub hx hb dX1_lastOfRow_72 ?_
                  refine cr_top (y := nI 63) (by decide) ?_
                  refine lv_iand hx hb dX1_lastOfRow_73 ?_
                  refine cr_top (y := nI (c0 % 64)) (cr_and63 (by omega)) ?_
                  refine lv_if_ne (tgt := 86) hx hb dX1_lastOfRow_74 (by decide) (fun c_74 => ?_) (fun c_74 => ?_)
                  · rw [show (0 : Int32) = nI 0 from rfl, nI_eq (by omega) (by omega)] at c_74
                    refine lv_iinc (v := nI 4) (lv' := [(4, .int (nI 4)), (7, .int ((nI ((min (min h0 1114111) (c0 / 4096 * 4096 + 4095) + 1) / 64 * 64)) - (nI 1))), (6, .int (nI (min (min h0 1114111) (c0 / 4096 * 4096 + 4095)))), (5, .int (nI 64)), (3, .int (nI (min h0 1114111))), (2, .int (nI 4)), (0, .int (nI c0)), (1, .int (nI h0))]) hx hb dX1_lastOfRow_86 hl (k := 3) rfl (by decide) (by decide) rfl (fun ls hl => ?_)
                    refine lv_goto (tgt := 24) hx hb dX1_lastOfRow_89 (by decide) ?_
                    refine lv_iload hx hb dX1_lastOfRow_24 (lv_at hl 0 rfl) ?_
                    refine lv_iload_n hx hb dX1_lastOfRow_26 rfl (lv_at hl 5 rfl) ?_
                    refine lv_icmp_ge (tgt := 92) hx hb dX1_lastOfRow_27 (by decide) (fun c_27 => ?_) (fun c_27 => ?_)
                    · refine lv_iload_n hx hb dX1_lastOfRow_92 rfl (lv_at hl 4 rfl) ?_
                      refine lv_iload_n hx hb dX1_lastOfRow_93 rfl (lv_at hl 6 rfl) ?_
                      refine lv_bipush (v := nI 63) hx hb dX1_lastOfRow_94 (by decide) ?_
                      refine lv_ior hx hb dX1_lastOfRow_96 ?_
                      refine cr_top (y := nI (c0 / 64 * 64 + 63)) (cr_or63 c0) ?_
                      refine va_mmin hx hb (hml.trans hl.1.symm) hown (hts (.methodLink RX1 95 Lib.Math.min.name) (by decide +kernel)) (hts (.static Lib.Math.min.name) (by decide +kernel)) (hts (.initialized "java/lang/Math") (by decide +kernel)) (hts (.code Lib.Math.min.name Lib.Math.min.code 2 (some .int)) (by decide +kernel)) (Nat.le_of_ble_eq_true rfl) (Nat.le_of_ble_eq_true rfl) (Nat.zero_le _) (Nat.zero_le _) dX1_lastOfRow_97 ?_
                      refine cr_top (y := nI (min (min h0 1114111) (c0 / 64 * 64 + 63))) (cr_min _ _ (by omega) (by omega)) ?_
                      exact W.iret (v := nI (min (min h0 1114111) (c0 / 64 * 64 + 63))) hx hb hr (fun t9 ht9 hW9 => ⟨⟨nI (min (min h0 1114111) (c0 / 64 * 64 + 63)), [], rfl, ⟨rfl, by rw [cr_last4 (by omega), cr_e262144, cr_e4096, cr_e64, if_neg (by omega), if_neg (by omega), if_neg (by omega)]⟩, by rw [ht9]; exact hP, va_K.moved hW9.alike hK, hD⟩, hS.F ht9⟩) hS.2.2 dX1_lastOfRow_100
                    · exact absurd (by decide) c_27
                  · rw [show (0 : Int32) = nI 0 from rfl, nI_eq (by omega) (by omega)] at c_74
                    refine lv_iload hx hb dX1_lastOfRow_77 (lv_at hl 0 rfl) ?_
                    refine lv_iload_n hx hb dX1_lastOfRow_79 rfl (lv_at hl 6 rfl) ?_
                    refine lv_icmp_lt (tgt := 86) hx hb dX1_lastOfRow_80 (by decide) (fun c_80 => ?_) (fun c_80 => ?_)
                    · rw [Int32.lt_iff_toInt_lt, pk_sub_toInt (by omega) (by omega), nI_toInt (by omega)] at c_80
                      refine lv_iinc (v := nI 4) (lv' := [(4, .int (nI 4)), (7, .int ((nI ((min (min h0 1114111) (c0 / 4096 * 4096 + 4095) + 1) / 64 * 64)) - (nI 1))), (6, .int (nI (min (min h0 1114111) (c0 / 4096 * 4096 + 4095)))), (5, .int (nI 64)), (3, .int (nI (min h0 1114111))), (2, .int (nI 4)), (0, .int (nI c0)), (1, .int (nI h0))]) hx hb dX1_lastOfRow_86 hl (k := 3) rfl (by decide) (by decide) rfl (fun ls hl => ?_)
                      refine lv_goto (tgt := 24) hx hb dX1_lastOfRow_89 (by decide) ?_
                      refine lv_iload hx hb dX1_lastOfRow_24 (lv_at hl 0 rfl) ?_
                      refine lv_iload_n hx hb dX1_lastOfRow_26 rfl (lv_at hl 5 rfl) ?_
                      refine lv_icmp_ge (tgt := 92) hx hb dX1_lastOfRow_27 (by decide) (fun c_27 => ?_) (fun c_27 => ?_)
                      · refine lv_iload_n hx hb dX1_lastOfRow_92 rfl (lv_at hl 4 rfl) ?_
                        refine lv_iload_n hx hb dX1_lastOfRow_93 rfl (lv_at hl 6 rfl) ?_
                        refine lv_bipush (v := nI 63) hx hb dX1_lastOfRow_94 (by decide) ?_
                        refine lv_ior hx hb dX1_lastOfRow_96 ?_
                        refine cr_top (y := nI (c0 / 64 * 64 + 63)) (cr_or63 c0) ?_
                        refine va_mmin hx hb (hml.trans hl.1.symm) hown (hts (.methodLink RX1 95 Lib.Math.min.name) (by decide +kernel)) (hts (.static Lib.Math.min.name) (by decide +kernel)) (hts (.initialized "java/lang/Math") (by decide +kernel)) (hts (.code Lib.Math.min.name Lib.Math.min.code 2 (some .int)) (by decide +kernel)) (Nat.le_of_ble_eq_true rfl) (Nat.le_of_ble_eq_true rfl) (Nat.zero_le _) (Nat.zero_le _) dX1_lastOfRow_97 ?_
                        refine cr_top (y := nI (min (min h0 1114111) (c0 / 64 * 64 + 63))) (cr_min _ _ (by omega) (by omega)) ?_
                        exact W.iret (v := nI (min (min h0 1114111) (c0 / 64 * 64 + 63))) hx hb hr (fun t9 ht9 hW9 => ⟨⟨nI (min (min h0 1114111) (c0 / 64 * 64 + 63)), [], rfl, ⟨rfl, by rw [cr_last4 (by omega), cr_e262144, cr_e4096, cr_e64, if_neg (by omega), if_neg (by omega), if_neg (by omega)]⟩, by rw [ht9]; exact hP, va_K.moved hW9.alike hK, hD⟩, hS.F ht9⟩) hS.2.2 dX1_lastOfRow_100
                      · exact absurd (by decide) c_27
                    · rw [Int32.lt_iff_toInt_lt, pk_sub_toInt (by omega) (by omega), nI_toInt (by omega)] at c_80
                      refine lv_iload hx hb dX1_lastOfRow_83 (lv_at hl 0 rfl) ?_
                      exact W.iret (v := (nI ((min (min h0 1114111) (c0 / 4096 * 4096 + 4095) + 1) / 64 * 64)) - (nI 1)) hx hb hr (fun t9 ht9 hW9 => ⟨⟨(nI ((min (min h0 1114111) (c0 / 4096 * 4096 + 4095) + 1) / 64 * 64)) - (nI 1), [], rfl, ⟨rfl, by rw [cr_last4 (by omega), cr_e262144, cr_e4096, cr_e64, if_neg (by omega), if_neg (by omega), if_pos (by omega)]; exact pk_sub (by omega)⟩, by rw [ht9]; exact hP, va_K.moved hW9.alike hK, hD⟩, hS.F ht9⟩) hS.2.2 dX1_lastOfRow_85
              · rw [Int32.lt_iff_toInt_lt, pk_sub_toInt (by omega) (by omega), nI_toInt (by omega)] at c_80
                refine lv_iload hx hb dX1_lastOfRow_83 (lv_at hl 0 rfl) ?_
                exact W.iret (v := (nI ((min (min h0 1114111) (c0 / 262144 * 262144 + 262143) + 1) / 4096 * 4096)) - (nI 1)) hx hb hr (fun t9 ht9 hW9 => ⟨⟨(nI ((min (min h0 1114111) (c0 / 262144 * 262144 + 262143) + 1) / 4096 * 4096)) - (nI 1), [], rfl, ⟨rfl, by rw [cr_last4 (by omega), cr_e262144, cr_e4096, cr_e64, if_neg (by omega), if_pos (by omega)]; exact pk_sub (by omega)⟩, by rw [ht9]; exact hP, va_K.moved hW9.alike hK, hD⟩, hS.F ht9⟩) hS.2.2 dX1_lastOfRow_85
        · rw [show (0 : Int32) = nI 0 from rfl, nI_eq (by omega) (by omega)] at c_74
          refine lv_iload hx hb dX1_lastOfRow_77 (lv_at hl 0 rfl) ?_
          refine lv_iload_n hx hb dX1_lastOfRow_79 rfl (lv_at hl 6 rfl) ?_
          refine lv_icmp_lt (tgt := 86) hx hb dX1_lastOfRow_80 (by decide) (fun c_80 => ?_) (fun c_80 => ?_)
          · rw [Int32.lt_iff_toInt_lt, pk_sub_toInt (by omega) (by omega), nI_toInt (by omega)] at c_80
            refine lv_iinc (v := nI 2) (lv' := [(4, .int (nI 2)), (7, .int ((nI ((min (min h0 1114111) (c0 / 16777216 * 16777216 + 16777215) + 1) / 262144 * 262144)) - (nI 1))), (6, .int (nI (min (min h0 1114111) (c0 / 16777216 * 16777216 + 16777215)))), (5, .int (nI 262144)), (3, .int (nI (min h0 1114111))), (2, .int (nI 4)), (0, .int (nI c0)), (1, .int (nI h0))]) hx hb dX1_lastOfRow_86 hl (k := 3) rfl (by decide) (by decide) rfl (fun ls hl => ?_)
            refine lv_goto (tgt := 24) hx hb dX1_lastOfRow_89 (by decide) ?_
            refine lv_iload hx hb dX1_lastOfRow_24 (lv_at hl 0 rfl) ?_
            refine lv_iload_n hx hb dX1_lastOfRow_26 rfl (lv_at hl 5 rfl) ?_
            refine lv_icmp_ge (tgt := 92) hx hb dX1_lastOfRow_27 (by decide) (fun c_27 => ?_) (fun c_27 => ?_)
            · exact absurd c_27 (by decide)
            · refine lv_iconst (v := nI 1) hx hb dX1_lastOfRow_30 (by decide) ?_
              refine lv_bipush (v := nI 6) hx hb dX1_lastOfRow_31 (by decide) ?_
              refine lv_iload_n hx hb dX1_lastOfRow_33 rfl (lv_at hl 5 rfl) ?_
              refine lv_iload hx hb dX1_lastOfRow_34 (lv_at hl 0 rfl) ?_
              refine lv_isub hx hb dX1_lastOfRow_36 ?_
              refine cr_top (y := nI 2) (by decide) ?_
              refine lv_imul hx hb dX1_lastOfRow_37 ?_
              refine cr_top (y := nI 12) (by decide) ?_
              refine lv_ishl hx hb dX1_lastOfRow_38 ?_
              refine cr_top (y := nI 4096) (by decide) ?_
              refine lv_istore (lv' := [(5, .int (nI 4096)), (4, .int (nI 2)), (7, .int ((nI ((min (min h0 1114111) (c0 / 16777216 * 16777216 + 16777215) + 1) / 262144 * 262144)) - (nI 1))), (6, .int (nI (min (min h0 1114111) (c0 / 16777216 * 16777216 + 16777215)))), (3, .int (nI (min h0 1114111))), (2, .int (nI 4)), (0, .int (nI c0)), (1, .int (nI h0))]) hx hb dX1_lastOfRow_39 hl (by decide) rfl (fun ls hl => ?_)
              refine lv_iload_n hx hb dX1_lastOfRow_41 rfl (lv_at hl 4 rfl) ?_
              refine lv_iload_n hx hb dX1_lastOfRow_42 rfl (lv_at hl 6 rfl) ?_
              refine lv_bipush (v := nI 64) hx hb dX1_lastOfRow_43 (by decide) ?_
              refine lv_iload hx hb dX1_lastOfRow_45 (lv_at hl 0 rfl) ?_
              refine lv_imul hx hb dX1_lastOfRow_47 ?_
              refine cr_top (y := nI 262144) (by decide) ?_
              refine lv_iconst (v := nI 1) hx hb dX1_lastOfRow_48 (by decide) ?_
              refine lv_isub hx hb dX1_lastOfRow_49 ?_
              refine cr_top (y := nI 262143) (by decide) ?_
              refine lv_ior hx hb dX1_lastOfRow_50 ?_
              refine cr_top (y := nI (c0 / 262144 * 262144 + 262143)) (cr_or262143 c0) ?_
              refine va_mmin hx hb (hml.trans hl.1.symm) hown (hts (.methodLink RX1 95 Lib.Math.min.name) (by decide +kernel)) (hts (.static Lib.Math.min.name) (by decide +kernel)) (hts (.initialized "java/lang/Math") (by decide +kernel)) (hts (.code Lib.Math.min.name Lib.Math.min.code 2 (some .int)) (by decide +kernel)) (Nat.le_of_ble_eq_true rfl) (Nat.le_of_ble_eq_true rfl) (Nat.zero_le _) (Nat.zero_le _) dX1_lastOfRow_51 ?_
              refine cr_top (y := nI (min (min h0 1114111) (c0 / 262144 * 262144 + 262143))) (cr_min _ _ (by omega) (by omega)) ?_
              refine lv_istore (lv' := [(6, .int (nI (min (min h0 1114111) (c0 / 262144 * 262144 + 262143)))), (5, .int (nI 4096)), (4, .int (nI 2)), (7, .int ((nI ((min (min h0 1114111) (c0 / 16777216 * 16777216 + 16777215) + 1) / 262144 * 262144)) - (nI 1))), (3, .int (nI (min h0 1114111))), (2, .int (nI 4)), (0, .int (nI c0)), (1, .int (nI h0))]) hx hb dX1_lastOfRow_54 hl (by decide) rfl (fun ls hl => ?_)
              refine lv_iload hx hb dX1_lastOfRow_56 (lv_at hl 0 rfl) ?_
              refine lv_iconst (v := nI 1) hx hb dX1_lastOfRow_58 (by decide) ?_
              refine lv_iadd hx hb dX1_lastOfRow_59 ?_
              refine cr_top (y := nI ((min (min h0 1114111) (c0 / 262144 * 262144 + 262143)) + 1)) (nI_add (min (min h0 1114111) (c0 / 262144 * 262144 + 262143)) 1) ?_
              refine lv_iload hx hb dX1_lastOfRow_60 (lv_at hl 1 rfl) ?_
              refine lv_ineg hx hb dX1_lastOfRow_62 ?_
              refine lv_iand hx hb dX1_lastOfRow_63 ?_
              refine cr_top (y := nI ((min (min h0 1114111) (c0 / 262144 * 262144 + 262143) + 1) / 4096 * 4096)) (cr_neg4096 (by omega)) ?_
              refine lv_iconst (v := nI 1) hx hb dX1_lastOfRow_64 (by decide) ?_
              refine lv_isub hx hb dX1_lastOfRow_65 ?_
              refine lv_istore (lv' := [(7, .int ((nI ((min (min h0 1114111) (c0 / 262144 * 262144 + 262143) + 1) / 4096 * 4096)) - (nI 1))), (6, .int (nI (min (min h0 1114111) (c0 / 262144 * 262144 + 262143)))), (5, .int (nI 4096)), (4, .int (nI 2)), (3, .int (nI (min h0 1114111))), (2, .int (nI 4)), (0, .int (nI c0)), (1, .int (nI h0))]) hx hb dX1_lastOfRow_66 hl (by decide) rfl (fun ls hl => ?_)
              refine lv_iload_n hx hb dX1_lastOfRow_68 rfl (lv_at hl 6 rfl) ?_
              refine lv_iload hx hb dX1_lastOfRow_69 (lv_at hl 2 rfl) ?_
              refine lv_iconst (v := nI 1) hx hb dX1_lastOfRow_71 (by decide) ?_
              refine lv_isub hx hb dX1_lastOfRow_72 ?_
              refine cr_top (y := nI 4095) (by decide) ?_
              refine lv_iand hx hb dX1_lastOfRow_73 ?_
              refine cr_top (y := nI (c0 % 4096)) (cr_and4095 (by omega)) ?_
              refine lv_if_ne (tgt := 86) hx hb dX1_lastOfRow_74 (by decide) (fun c_74 => ?_) (fun c_74 => ?_)
              · rw [show (0 : Int32) = nI 0 from rfl, nI_eq (by omega) (by omega)] at c_74
                refine lv_iinc (v := nI 3) (lv' := [(4, .int (nI 3)), (7, .int ((nI ((min (min h0 1114111) (c0 / 262144 * 262144 + 262143) + 1) / 4096 * 4096)) - (nI 1))), (6, .int (nI (min (min h0 1114111) (c0 / 262144 * 262144 + 262143)))), (5, .int (nI 4096)), (3, .int (nI (min h0 1114111))), (2, .int (nI 4)), (0, .int (nI c0)), (1, .int (nI h0))]) hx hb dX1_lastOfRow_86 hl (k := 3) rfl (by decide) (by decide) rfl (fun ls hl => ?_)
                refine lv_goto (tgt := 24) hx hb dX1_lastOfRow_89 (by decide) ?_
                refine lv_iload hx hb dX1_lastOfRow_24 (lv_at hl 0 rfl) ?_
                refine lv_iload_n hx hb dX1_lastOfRow_26 rfl (lv_at hl 5 rfl) ?_
                refine lv_icmp_ge (tgt := 92) hx hb dX1_lastOfRow_27 (by decide) (fun c_27 => ?_) (fun c_27 => ?_)
                · exact absurd c_27 (by decide)
                · refine lv_iconst (v := nI 1) hx hb dX1_lastOfRow_30 (by decide) ?_
                  refine lv_bipush (v := nI 6) hx hb dX1_lastOfRow_31 (by decide) ?_
                  refine lv_iload_n hx hb dX1_lastOfRow_33 rfl (lv_at hl 5 rfl) ?_
                  refine lv_iload hx hb dX1_lastOfRow_34 (lv_at hl 0 rfl) ?_
                  refine lv_isub hx hb dX1_lastOfRow_36 ?_
                  refine cr_top (y := nI 1) (by decide) ?_
                  refine lv_imul hx hb dX1_lastOfRow_37 ?_
                  refine cr_top (y := nI 6) (by decide) ?_
                  refine lv_ishl hx hb dX1_lastOfRow_38 ?_
                  refine cr_top (y := nI 64) (by decide) ?_
                  refine lv_istore (lv' := [(5, .int (nI 64)), (4, .int (nI 3)), (7, .int ((nI ((min (min h0 1114111) (c0 / 262144 * 262144 + 262143) + 1) / 4096 * 4096)) - (nI 1))), (6, .int (nI (min (min h0 1114111) (c0 / 262144 * 262144 + 262143)))), (3, .int (nI (min h0 1114111))), (2, .int (nI 4)), (0, .int (nI c0)), (1, .int (nI h0))]) hx hb dX1_lastOfRow_39 hl (by decide) rfl (fun ls hl => ?_)
                  refine lv_iload_n hx hb dX1_lastOfRow_41 rfl (lv_at hl 4 rfl) ?_
                  refine lv_iload_n hx hb dX1_lastOfRow_42 rfl (lv_at hl 6 rfl) ?_
                  refine lv_bipush (v := nI 64) hx hb dX1_lastOfRow_43 (by decide) ?_
                  refine lv_iload hx hb dX1_lastOfRow_45 (lv_at hl 0 rfl) ?_
                  refine lv_imul hx hb dX1_lastOfRow_47 ?_
                  refine cr_top (y := nI 4096) (by decide) ?_
                  refine lv_iconst (v := nI 1) hx hb dX1_lastOfRow_48 (by decide) ?_
                  refine lv_isub hx hb dX1_lastOfRow_49 ?_
                  refine cr_top (y := nI 4095) (by decide) ?_
                  refine lv_ior hx hb dX1_lastOfRow_50 ?_
                  refine cr_top (y := nI (c0 / 4096 * 4096 + 4095)) (cr_or4095 c0) ?_
                  refine va_mmin hx hb (hml.trans hl.1.symm) hown (hts (.methodLink RX1 95 Lib.Math.min.name) (by decide +kernel)) (hts (.static Lib.Math.min.name) (by decide +kernel)) (hts (.initialized "java/lang/Math") (by decide +kernel)) (hts (.code Lib.Math.min.name Lib.Math.min.code 2 (some .int)) (by decide +kernel)) (Nat.le_of_ble_eq_true rfl) (Nat.le_of_ble_eq_true rfl) (Nat.zero_le _) (Nat.zero_le _) dX1_lastOfRow_51 ?_
                  refine cr_top (y := nI (min (min h0 1114111) (c0 / 4096 * 4096 + 4095))) (cr_min _ _ (by omega) (by omega)) ?_
                  refine lv_istore (lv' := [(6, .int (nI (min (min h0 1114111) (c0 / 4096 * 4096 + 4095)))), (5, .int (nI 64)), (4, .int (nI 3)), (7, .int ((nI ((min (min h0 1114111) (c0 / 262144 * 262144 + 262143) + 1) / 4096 * 4096)) - (nI 1))), (3, .int (nI (min h0 1114111))), (2, .int (nI 4)), (0, .int (nI c0)), (1, .int (nI h0))]) hx hb dX1_lastOfRow_54 hl (by decide) rfl (fun ls hl => ?_)
                  refine lv_iload hx hb dX1_lastOfRow_56 (lv_at hl 0 rfl) ?_
                  refine lv_iconst (v := nI 1) hx hb dX1_lastOfRow_58 (by decide) ?_
                  refine lv_iadd hx hb dX1_lastOfRow_59 ?_
                  refine cr_top (y := nI ((min (min h0 1114111) (c0 / 4096 * 4096 + 4095)) + 1)) (nI_add (min (min h0 1114111) (c0 / 4096 * 4096 + 4095)) 1) ?_
                  refine lv_iload hx hb dX1_lastOfRow_60 (lv_at hl 1 rfl) ?_
                  refine lv_ineg hx hb dX1_lastOfRow_62 ?_
                  refine lv_iand hx hb dX1_lastOfRow_63 ?_
                  refine cr_top (y := nI ((min (min h0 1114111) (c0 / 4096 * 4096 + 4095) + 1) / 64 * 64)) (cr_neg64 (by omega)) ?_
                  refine lv_iconst (v := nI 1) hx hb dX1_lastOfRow_64 (by decide) ?_
                  refine lv_isub hx hb dX1_lastOfRow_65 ?_
                  refine lv_istore (lv' := [(7, .int ((nI ((min (min h0 1114111) (c0 / 4096 * 4096 + 4095) + 1) / 64 * 64)) - (nI 1))), (6, .int (nI (min (min h0 1114111) (c0 / 4096 * 4096 + 4095)))), (5, .int (nI 64)), (4, .int (nI 3)), (3, .int (nI (min h0 1114111))), (2, .int (nI 4)), (0, .int (nI c0)), (1, .int (nI h0))]) hx hb dX1_lastOfRow_66 hl (by decide) rfl (fun ls hl => ?_)
                  refine lv_iload_n hx hb dX1_lastOfRow_68 rfl (lv_at hl 6 rfl) ?_
                  refine lv_iload hx hb dX1_lastOfRow_69 (lv_at hl 2 rfl) ?_
                  refine lv_iconst (v := nI 1) hx hb dX1_lastOfRow_71 (by decide) ?_
                  refine lv_isub hx hb dX1_lastOfRow_72 ?_
                  refine cr_top (y := nI 63) (by decide) ?_
                  refine lv_iand hx hb dX1_lastOfRow_73 ?_
                  refine cr_top (y := nI (c0 % 64)) (cr_and63 (by omega)) ?_
                  refine lv_if_ne (tgt := 86) hx hb dX1_lastOfRow_74 (by decide) (fun c_74 => ?_) (fun c_74 => ?_)
                  · rw [show (0 : Int32) = nI 0 from rfl, nI_eq (by omega) (by omega)] at c_74
                    refine lv_iinc (v := nI 4) (lv' := [(4, .int (nI 4)), (7, .int ((nI ((min (min h0 1114111) (c0 / 4096 * 4096 + 4095) + 1) / 64 * 64)) - (nI 1))), (6, .int (nI (min (min h0 1114111) (c0 / 4096 * 4096 + 4095)))), (5, .int (nI 64)), (3, .int (nI (min h0 1114111))), (2, .int (nI 4)), (0, .int (nI c0)), (1, .int (nI h0))]) hx hb dX1_lastOfRow_86 hl (k := 3) rfl (by decide) (by decide) rfl (fun ls hl => ?_)
                    refine lv_goto (tgt := 24) hx hb dX1_lastOfRow_89 (by decide) ?_
                    refine lv_iload hx hb dX1_lastOfRow_24 (lv_at hl 0 rfl) ?_
                    refine lv_iload_n hx hb dX1_lastOfRow_26 rfl (lv_at hl 5 rfl) ?_
                    refine lv_icmp_ge (tgt := 92) hx hb dX1_lastOfRow_27 (by decide) (fun c_27 => ?_) (fun c_27 => ?_)
                    · refine lv_iload_n hx hb dX1_lastOfRow_92 rfl (lv_at hl 4 rfl) ?_
                      refine lv_iload_n hx hb dX1_lastOfRow_93 rfl (lv_at hl 6 rfl) ?_
                      refine lv_bipush (v := nI 63) hx hb dX1_lastOfRow_94 (by decide) ?_
                      refine lv_ior hx hb dX1_lastOfRow_96 ?_
                      refine cr_top (y := nI (c0 / 64 * 64 + 63)) (cr_or63 c0) ?_
                      refine va_mmin hx hb (hml.trans hl.1.symm) hown (hts (.methodLink RX1 95 Lib.Math.min.name) (by decide +kernel)) (hts (.static Lib.Math.min.name) (by decide +kernel)) (hts (.initialized "java/lang/Math") (by decide +kernel)) (hts (.code Lib.Math.min.name Lib.Math.min.code 2 (some .int)) (by decide +kernel)) (Nat.le_of_ble_eq_true rfl) (Nat.le_of_ble_eq_true rfl) (Nat.zero_le _) (Nat.zero_le _) dX1_lastOfRow_97 ?_
                      refine cr_top (y := nI (min (min h0 1114111) (c0 / 64 * 64 + 63))) (cr_min _ _ (by omega) (by omega)) ?_
                      exact W.iret (v := nI (min (min h0 1114111) (c0 / 64 * 64 + 63))) hx hb hr (fun t9 ht9 hW9 => ⟨⟨nI (min (min h0 1114111) (c0 / 64 * 64 + 63)), [], rfl, ⟨rfl, by rw [cr_last4 (by omega), cr_e262144, cr_e4096, cr_e64, if_neg (by omega), if_neg (by omega), if_neg (by omega)]⟩, by rw [ht9]; exact hP, va_K.moved hW9.alike hK, hD⟩, hS.F ht9⟩) hS.2.2 dX1_lastOfRow_100
                    · exact absurd (by decide) c_27
                  · rw [show (0 : Int32) = nI 0 from rfl, nI_eq (by omega) (by omega)] at c_74
                    refine lv_iload hx hb dX1_lastOfRow_77 (lv_at hl 0 rfl) ?_
                    refine lv_iload_n hx hb dX1_lastOfRow_79 rfl (lv_at hl 6 rfl) ?_
                    refine lv_icmp_lt (tgt := 86) hx hb dX1_lastOfRow_80 (by decide) (fun c_80 => ?_) (fun c_80 => ?_)
                    · rw [Int32.lt_iff_toInt_lt, pk_sub_toInt (by omega) (by omega), nI_toInt (by omega)] at c_80
                      refine lv_iinc (v := nI 4) (lv' := [(4, .int (nI 4)), (7, .int ((nI ((min (min h0 1114111) (c0 / 4096 * 4096 + 4095) + 1) / 64 * 64)) - (nI 1))), (6, .int (nI (min (min h0 1114111) (c0 / 4096 * 4096 + 4095)))), (5, .int (nI 64)), (3, .int (nI (min h0 1114111))), (2, .int (nI 4)), (0, .int (nI c0)), (1, .int (nI h0))]) hx hb dX1_lastOfRow_86 hl (k := 3) rfl (by decide) (by decide) rfl (fun ls hl => ?_)
                      refine lv_goto (tgt := 24) hx hb dX1_lastOfRow_89 (by decide) ?_
                      refine lv_iload hx hb dX1_lastOfRow_24 (lv_at hl 0 rfl) ?_
                      refine lv_iload_n hx hb dX1_lastOfRow_26 rfl (lv_at hl 5 rfl) ?_
                      refine lv_icmp_ge (tgt := 92) hx hb dX1_lastOfRow_27 (by decide) (fun c_27 => ?_) (fun c_27 => ?_)
                      · refine lv_iload_n hx hb dX1_lastOfRow_92 rfl (lv_at hl 4 rfl) ?_
                        refine lv_iload_n hx hb dX1_lastOfRow_93 rfl (lv_at hl 6 rfl) ?_
                        refine lv_bipush (v := nI 63) hx hb dX1_lastOfRow_94 (by decide) ?_
                        refine lv_ior hx hb dX1_lastOfRow_96 ?_
                        refine cr_top (y := nI (c0 / 64 * 64 + 63)) (cr_or63 c0) ?_
                        refine va_mmin hx hb (hml.trans hl.1.symm) hown (hts (.methodLink RX1 95 Lib.Math.min.name) (by decide +kernel)) (hts (.static Lib.Math.min.name) (by decide +kernel)) (hts (.initialized "java/lang/Math") (by decide +kernel)) (hts (.code Lib.Math.min.name Lib.Math.min.code 2 (some .int)) (by decide +kernel)) (Nat.le_of_ble_eq_true rfl) (Nat.le_of_ble_eq_true rfl) (Nat.zero_le _) (Nat.zero_le _) dX1_lastOfRow_97 ?_
                        refine cr_top (y := nI (min (min h0 1114111) (c0 / 64 * 64 + 63))) (cr_min _ _ (by omega) (by omega)) ?_
                        exact W.iret (v := nI (min (min h0 1114111) (c0 / 64 * 64 + 63))) hx hb hr (fun t9 ht9 hW9 => ⟨⟨nI (min (min h0 1114111) (c0 / 64 * 64 + 63)), [], rfl, ⟨rfl, by rw [cr_last4 (by omega), cr_e262144, cr_e4096, cr_e64, if_neg (by omega), if_neg (by omega), if_neg (by omega)]⟩, by rw [ht9]; exact hP, va_K.moved hW9.alike hK, hD⟩, hS.F ht9⟩) hS.2.2 dX1_lastOfRow_100
                      · exact absurd (by decide) c_27
                    · rw [Int32.lt_iff_toInt_lt, pk_sub_toInt (by omega) (by omega), nI_toInt (by omega)] at c_80
                      refine lv_iload hx hb dX1_lastOfRow_83 (lv_at hl 0 rfl) ?_
                      exact W.iret (v := (nI ((min (min h0 1114111) (c0 / 4096 * 4096 + 4095) + 1) / 64 * 64)) - (nI 1)) hx hb hr (fun t9 ht9 hW9 => ⟨⟨(nI ((min (min h0 1114111) (c0 / 4096 * 4096 + 4095) + 1) / 64 * 64)) - (nI 1), [], rfl, ⟨rfl, by rw [cr_last4 (by omega), cr_e262144, cr_e4096, cr_e64, if_neg (by omega), if_neg (by omega), if_pos (by omega)]; exact pk_sub (by omega)⟩, by rw [ht9]; exact hP, va_K.moved hW9.alike hK, hD⟩, hS.F ht9⟩) hS.2.2 dX1_lastOfRow_85
              · rw [show (0 : Int32) = nI 0 from rfl, nI_eq (by omega) (by omega)] at c_74
                refine lv_iload hx hb dX1_lastOfRow_77 (lv_at hl 0 rfl) ?_
                refine lv_iload_n hx hb dX1_lastOfRow_79 rfl (lv_at hl 6 rfl) ?_
                refine lv_icmp_lt (tgt := 86) hx hb dX1_lastOfRow_80 (by decide) (fun c_80 => ?_) (fun c_80 => ?_)
                · rw [Int32.lt_iff_toInt_lt, pk_sub_toInt (by omega) (by omega), nI_toInt (by omega)] at c_80
                  refine lv_iinc (v := nI 3) (lv' := [(4, .int (nI 3)), (7, .int ((nI ((min (min h0 1114111) (c0 / 262144 * 262144 + 262143) + 1) / 4096 * 4096)) - (nI 1))), (6, .int (nI (min (min h0 1114111) (c0 / 262144 * 262144 + 262143)))), (5, .int (nI 4096)), (3, .int (nI (min h0 1114111))), (2, .int (nI 4)), (0, .int (nI c0)), (1, .int (nI h0))]) hx hb dX1_lastOfRow_86 hl (k := 3) rfl (by decide) (by decide) rfl (fun ls hl => ?_)
                  refine lv_goto (tgt := 24) hx hb dX1_lastOfRow_89 (by decide) ?_
                  refine lv_iload hx hb dX1_lastOfRow_24 (lv_at hl 0 rfl) ?_
                  refine lv_iload_n hx hb dX1_lastOfRow_26 rfl (lv_at hl 5 rfl) ?_
                  refine lv_icmp_ge (tgt := 92) hx hb dX1_lastOfRow_27 (by decide) (fun c_27 => ?_) (fun c_27 => ?_)
                  · exact absurd c_27 (by decide)
                  · refine lv_iconst (v := nI 1) hx hb dX1_lastOfRow_30 (by decide) ?_
                    refine lv_bipush (v := nI 6) hx hb dX1_lastOfRow_31 (by decide) ?_
                    refine lv_iload_n hx hb dX1_lastOfRow_33 rfl (lv_at hl 5 rfl) ?_
                    refine lv_iload hx hb dX1_lastOfRow_34 (lv_at hl 0 rfl) ?_
                    refine lv_isub hx hb dX1_lastOfRow_36 ?_
                    refine cr_top (y := nI 1) (by decide) ?_
                    refine lv_imul hx hb dX1_lastOfRow_37 ?_
                    refine cr_top (y := nI 6) (by decide) ?_
                    refine lv_ishl hx hb dX1_lastOfRow_38 ?_
                    refine cr_top (y := nI 64) (by decide) ?_
                    refine lv_istore (lv' := [(5, .int (nI 64)), (4, .int (nI 3)), (7, .int ((nI ((min (min h0 1114111) (c0 / 262144 * 262144 + 262143) + 1) / 4096 * 4096)) - (nI 1))), (6, .int (nI (min (min h0 1114111) (c0 / 262144 * 262144 + 262143)))), (3, .int (nI (min h0 1114111))), (2, .int (nI 4)), (0, .int (nI c0)), (1, .int (nI h0))]) hx hb dX1_lastOfRow_39 hl (by decide) rfl (fun ls hl => ?_)
                    refine lv_iload_n hx hb dX1_lastOfRow_41 rfl (lv_at hl 4 rfl) ?_
                    refine lv_iload_n hx hb dX1_lastOfRow_42 rfl (lv_at hl 6 rfl) ?_
                    refine lv_bipush (v := nI 64) hx hb dX1_lastOfRow_43 (by decide) ?_
                    refine lv_iload hx hb dX1_lastOfRow_45 (lv_at hl 0 rfl) ?_
                    refine lv_imul hx hb dX1_lastOfRow_47 ?_
                    refine cr_top (y := nI 4096) (by decide) ?_
                    refine lv_iconst (v := nI 1) hx hb dX1_lastOfRow_48 (by decide) ?_
                    refine lv_isub hx hb dX1_lastOfRow_49 ?_
                    refine cr_top (y := nI 4095) (by decide) ?_
                    refine lv_ior hx hb dX1_lastOfRow_50 ?_
                    refine cr_top (y := nI (c0 / 4096 * 4096 + 4095)) (cr_or4095 c0) ?_
                    refine va_mmin hx hb (hml.trans hl.1.symm) hown (hts (.methodLink RX1 95 Lib.Math.min.name) (by decide +kernel)) (hts (.static Lib.Math.min.name) (by decide +kernel)) (hts (.initialized "java/lang/Math") (by decide +kernel)) (hts (.code Lib.Math.min.name Lib.Math.min.code 2 (some .int)) (by decide +kernel)) (Nat.le_of_ble_eq_true rfl) (Nat.le_of_ble_eq_true rfl) (Nat.zero_le _) (Nat.zero_le _) dX1_lastOfRow_51 ?_
                    refine cr_top (y := nI (min (min h0 1114111) (c0 / 4096 * 4096 + 4095))) (cr_min _ _ (by omega) (by omega)) ?_
                    refine lv_istore (lv' := [(6, .int (nI (min (min h0 1114111) (c0 / 4096 * 4096 + 4095)))), (5, .int (nI 64)), (4, .int (nI 3)), (7, .int ((nI ((min (min h0 1114111) (c0 / 262144 * 262144 + 262143) + 1) / 4096 * 4096)) - (nI 1))), (3, .int (nI (min h0 1114111))), (2, .int (nI 4)), (0, .int (nI c0)), (1, .int (nI h0))]) hx hb dX1_lastOfRow_54 hl (by decide) rfl (fun ls hl => ?_)
                    refine lv_iload hx hb dX1_lastOfRow_56 (lv_at hl 0 rfl) ?_
                    refine lv_iconst (v := nI 1) hx hb dX1_lastOfRow_58 (by decide) ?_
                    refine lv_iadd hx hb dX1_lastOfRow_59 ?_
                    refine cr_top (y := nI ((min (min h0 1114111) (c0 / 4096 * 4096 + 4095)) + 1)) (nI_add (min (min h0 1114111) (c0 / 4096 * 4096 + 4095)) 1) ?_
                    refine lv_iload hx hb dX1_lastOfRow_60 (lv_at hl 1 rfl) ?_
                    refine lv_ineg hx hb dX1_lastOfRow_62 ?_
                    refine lv_iand hx hb dX1_lastOfRow_63 ?_
                    refine cr_top (y := nI ((min (min h0 1114111) (c0 / 4096 * 4096 + 4095) + 1) / 64 * 64)) (cr_neg64 (by omega)) ?_
                    refine lv_iconst (v := nI 1) hx hb dX1_lastOfRow_64 (by decide) ?_
                    refine lv_isub hx hb dX1_lastOfRow_65 ?_
                    refine lv_istore (lv' := [(7, .int ((nI ((min (min h0 1114111) (c0 / 4096 * 4096 + 4095) + 1) / 64 * 64)) - (nI 1))), (6, .int (nI (min (min h0 1114111) (c0 / 4096 * 4096 + 4095)))), (5, .int (nI 64)), (4, .int (nI 3)), (3, .int (nI (min h0 1114111))), (2, .int (nI 4)), (0, .int (nI c0)), (1, .int (nI h0))]) hx hb dX1_lastOfRow_66 hl (by decide) rfl (fun ls hl => ?_)
                    refine lv_iload_n hx hb dX1_lastOfRow_68 rfl (lv_at hl 6 rfl) ?_
                    refine lv_iload hx hb dX1_lastOfRow_69 (lv_at hl 2 rfl) ?_
                    refine lv_iconst (v := nI 1) hx hb dX1_lastOfRow_71 (by decide) ?_
                    refine lv_isub hx hb dX1_lastOfRow_72 ?_
                    refine cr_top (y := nI 63) (by decide) ?_
                    refine lv_iand hx hb dX1_lastOfRow_73 ?_
                    refine cr_top (y := nI (c0 % 64)) (cr_and63 (by omega)) ?_
                    refine lv_if_ne (tgt := 86) hx hb dX1_lastOfRow_74 (by decide) (fun c_74 => ?_) (fun c_74 => ?_)
                    · rw [show (0 : Int32) = nI 0 from rfl, nI_eq (by omega) (by omega)] at c_74
                      refine lv_iinc (v := nI 4) (lv' := [(4, .int (nI 4)), (7, .int ((nI ((min (min h0 1114111) (c0 / 4096 * 4096 + 4095) + 1) / 64 * 64)) - (nI 1))), (6, .int (nI (min (min h0 1114111) (c0 / 4096 * 4096 + 4095)))), (5, .int (nI 64)), (3, .int (nI (min h0 1114111))), (2, .int (nI 4)), (0, .int (nI c0)), (1, .int (nI h0))]) hx hb dX1_lastOfRow_86 hl (k := 3) rfl (by decide) (by decide) rfl (fun ls hl => ?_)
                      refine lv_goto (tgt := 24) hx hb dX1_lastOfRow_89 (by decide) ?_
                      refine lv_iload hx hb dX1_lastOfRow_24 (lv_at hl 0 rfl) ?_
                      refine lv_iload_n hx hb dX1_lastOfRow_26 rfl (lv_at hl 5 rfl) ?_
                      refine lv_icmp_ge (tgt := 92) hx hb dX1_lastOfRow_27 (by decide) (fun c_27 => ?_) (fun c_27 => ?_)
                      · refine lv_iload_n hx hb dX1_lastOfRow_92 rfl (lv_at hl 4 rfl) ?_
                        refine lv_iload_n hx hb dX1_lastOfRow_93 rfl (lv_at hl 6 rfl) ?_
                        refine lv_bipush (v := nI 63) hx hb dX1_lastOfRow_94 (by decide) ?_
                        refine lv_ior hx hb dX1_lastOfRow_96 ?_
                        refine cr_top (y := nI (c0 / 64 * 64 + 63)) (cr_or63 c0) ?_
                        refine va_mmin hx hb (hml.trans hl.1.symm) hown (hts (.methodLink RX1 95 Lib.Math.min.name) (by decide +kernel)) (hts (.static Lib.Math.min.name) (by decide +kernel)) (hts (.initialized "java/lang/Math") (by decide +kernel)) (hts (.code Lib.Math.min.name Lib.Math.min.code 2 (some .int)) (by decide +kernel)) (Nat.le_of_ble_eq_true rfl) (Nat.le_of_ble_eq_true rfl) (Nat.zero_le _) (Nat.zero_le _) dX1_lastOfRow_97 ?_
                        refine cr_top (y := nI (min (min h0 1114111) (c0 / 64 * 64 + 63))) (cr_min _ _ (by omega) (by omega)) ?_
                        exact W.iret (v := nI (min (min h0 1114111) (c0 / 64 * 64 + 63))) hx hb hr (fun t9 ht9 hW9 => ⟨⟨nI (min (min h0 1114111) (c0 / 64 * 64 + 63)), [], rfl, ⟨rfl, by rw [cr_last4 (by omega), cr_e262144, cr_e4096, cr_e64, if_neg (by omega), if_neg (by omega), if_neg (by omega)]⟩, by rw [ht9]; exact hP, va_K.moved hW9.alike hK, hD⟩, hS.F ht9⟩) hS.2.2 dX1_lastOfRow_100
                      · exact absurd (by decide) c_27
                    · rw [show (0 : Int32) = nI 0 from rfl, nI_eq (by omega) (by omega)] at c_74
                      refine lv_iload hx hb dX1_lastOfRow_77 (lv_at hl 0 rfl) ?_
                      refine lv_iload_n hx hb dX1_lastOfRow_79 rfl (lv_at hl 6 rfl) ?_
                      refine lv_icmp_lt (tgt := 86) hx hb dX1_lastOfRow_80 (by decide) (fun c_80 => ?_) (fun c_80 => ?_)
                      · rw [Int32.lt_iff_toInt_lt, pk_sub_toInt (by omega) (by omega), nI_toInt (by omega)] at c_80
                        refine lv_iinc (v := nI 4) (lv' := [(4, .int (nI 4)), (7, .int ((nI ((min (min h0 1114111) (c0 / 4096 * 4096 + 4095) + 1) / 64 * 64)) - (nI 1))), (6, .int (nI (min (min h0 1114111) (c0 / 4096 * 4096 + 4095)))), (5, .int (nI 64)), (3, .int (nI (min h0 1114111))), (2, .int (nI 4)), (0, .int (nI c0)), (1, .int (nI h0))]) hx hb dX1_lastOfRow_86 hl (k := 3) rfl (by decide) (by decide) rfl (fun ls hl => ?_)
                        refine lv_goto (tgt := 24) hx hb dX1_lastOfRow_89 (by decide) ?_
                        refine lv_iload hx hb dX1_lastOfRow_24 (lv_at hl 0 rfl) ?_
                        refine lv_iload_n hx hb dX1_lastOfRow_26 rfl (lv_at hl 5 rfl) ?_
                        refine lv_icmp_ge (tgt := 92) hx hb dX1_lastOfRow_27 (by decide) (fun c_27 => ?_) (fun c_27 => ?_)
                        · refine lv_iload_n hx hb dX1_lastOfRow_92 rfl (lv_at hl 4 rfl) ?_
                          refine lv_iload_n hx hb dX1_lastOfRow_93 rfl (lv_at hl 6 rfl) ?_
                          refine lv_bipush (v := nI 63) hx hb dX1_lastOfRow_94 (by decide) ?_
                          refine lv_ior hx hb dX1_lastOfRow_96 ?_
                          refine cr_top (y := nI (c0 / 64 * 64 + 63)) (cr_or63 c0) ?_
                          refine va_mmin hx hb (hml.trans hl.1.symm) hown (hts (.methodLink RX1 95 Lib.Math.min.name) (by decide +kernel)) (hts (.static Lib.Math.min.name) (by decide +kernel)) (hts (.initialized "java/lang/Math") (by decide +kernel)) (hts (.code Lib.Math.min.name Lib.Math.min.code 2 (some .int)) (by decide +kernel)) (Nat.le_of_ble_eq_true rfl) (Nat.le_of_ble_eq_true rfl) (Nat.zero_le _) (Nat.zero_le _) dX1_lastOfRow_97 ?_
                          refine cr_top (y := nI (min (min h0 1114111) (c0 / 64 * 64 + 63))) (cr_min _ _ (by omega) (by omega)) ?_
                          exact W.iret (v := nI (min (min h0 1114111) (c0 / 64 * 64 + 63))) hx hb hr (fun t9 ht9 hW9 => ⟨⟨nI (min (min h0 1114111) (c0 / 64 * 64 + 63)), [], rfl, ⟨rfl, by rw [cr_last4 (by omega), cr_e262144, cr_e4096, cr_e64, if_neg (by omega), if_neg (by omega), if_neg (by omega)]⟩, by rw [ht9]; exact hP, va_K.moved hW9.alike hK, hD⟩, hS.F ht9⟩) hS.2.2 dX1_lastOfRow_100
                        · exact absurd (by decide) c_27
                      · rw [Int32.lt_iff_toInt_lt, pk_sub_toInt (by omega) (by omega), nI_toInt (by omega)] at c_80
                        refine lv_iload hx hb dX1_lastOfRow_83 (lv_at hl 0 rfl) ?_
                        exact W.iret (v := (nI ((min (min h0 1114111) (c0 / 4096 * 4096 + 4095) + 1) / 64 * 64)) - (nI 1)) hx hb hr (fun t9 ht9 hW9 => ⟨⟨(nI ((min (min h0 1114111) (c0 / 4096 * 4096 + 4095) + 1) / 64 * 64)) - (nI 1), [], rfl, ⟨rfl, by rw [cr_last4 (by omega), cr_e262144, cr_e4096, cr_e64, if_neg (by omega), if_neg (by omega), if_pos (by omega)]; exact pk_sub (by omega)⟩, by rw [ht9]; exact hP, va_K.moved hW9.alike hK, hD⟩, hS.F ht9⟩) hS.2.2 dX1_lastOfRow_85
                · rw [Int32.lt_iff_toInt_lt, pk_sub_toInt (by omega) (by omega), nI_toInt (by omega)] at c_80
                  refine lv_iload hx hb dX1_lastOfRow_83 (lv_at hl 0 rfl) ?_
                  exact W.iret (v := (nI ((min (min h0 1114111) (c0 / 262144 * 262144 + 262143) + 1) / 4096 * 4096)) - (nI 1)) hx hb hr (fun t9 ht9 hW9 => ⟨⟨(nI ((min (min h0 1114111) (c0 / 262144 * 262144 + 262143) + 1) / 4096 * 4096)) - (nI 1), [], rfl, ⟨rfl, by rw [cr_last4 (by omega), cr_e262144, cr_e4096, cr_e64, if_neg (by omega), if_pos (by omega)]; exact pk_sub (by omega)⟩, by rw [ht9]; exact hP, va_K.moved hW9.alike hK, hD⟩, hS.F ht9⟩) hS.2.2 dX1_lastOfRow_85
          · rw [Int32.lt_iff_toInt_lt, pk_sub_toInt (by omega) (by omega), nI_toInt (by omega)] at c_80
            refine lv_iload hx hb dX1_lastOfRow_83 (lv_at hl 0 rfl) ?_
            exact W.iret (v := (nI ((min (min h0 1114111) (c0 / 16777216 * 16777216 + 16777215) + 1) / 262144 * 262144)) - (nI 1)) hx hb hr (fun t9 ht9 hW9 => ⟨⟨(nI ((min (min h0 1114111) (c0 / 16777216 * 16777216 + 16777215) + 1) / 262144 * 262144)) - (nI 1), [], rfl, ⟨rfl, by rw [cr_last4 (by omega), cr_e262144, cr_e4096, cr_e64, if_pos (by omega)]; exact pk_sub (by omega)⟩, by rw [ht9]; exact hP, va_K.moved hW9.alike hK, hD⟩, hS.F ht9⟩) hS.2.2 dX1_lastOfRow_85
    · exact absurd c_16 (by decide)

set_option maxHeartbeats 4000000 in
set_option maxRecDepth 100000 in
theorem c_countRows (l : Launch) (dC : Nat → ClassId) (dI : Nat → Nat → Nat) (sz : Nat) (c0 h0 : Nat) (hc0 : c0 ≤ 1114112) (hh : h0 ≤ 1114111) : Met l yX1_countRows wsX1_countRows ({ frames := 4, cells := 0, slots := 0, locals := 140 }) (va_Pc [.int (nI c0), .int (nI h0)] (cr_pre dC dI [] [] sz)) (va_Qi (fun (rr : Int32) (u : va_W) => u = [] ∧ rr = nI (cr_N c0 h0)) (cr_at dC dI [] (va_A [] sz)) (va_A [] sz)) 0 0 (va_A [] sz) := by
  refine Met.ofW (cc := cX1_countRows) (maxL := 4) (ret := (some .int)) (by decide) rfl ?_
  intro p e s m args below meth c s₁ B hml hv
  obtain ⟨rfl, hsz, hP, hK, hD0⟩ := hv
  have hx := B.exec
  have hb := B.bytes
  have hr := B.returns
  have hts := atoms_spec (ws := wsX1_countRows) B.pre
  have hown : s.vm.findClass RX1 = some m.cls := findClass_of_methodNamed B.named
  have hlocks := B.notSynchronized
  subst hsz
  have hD := hD0.self (sz := s.heap.size)
  generalize hAe : va_A [] s.heap.size = A at hD ⊢
  have hA : ∀ q : Nat, s.heap.size ≤ q → A q := fun q h => by rw [← hAe]; exact Or.inr h
  have hS : va_S A s.heap s.heap [] := va_S.rf
  have hP : va_P (dC, dI) crCl [] s.heap := hP
  have hl := lv_entry ([.int (nI c0), .int (nI h0)]) (n := 4) (Nat.le_of_ble_eq_true rfl)
  rw [lg_entry_eq]
  generalize (lg_sl ([.int (nI c0), .int (nI h0)]) ++ List.replicate (4 - (lg_sl ([.int (nI c0), .int (nI h0)])).length) Slot.unset).toArray = ls at hl ⊢
  have hl : lv_has ls 4 [(0, .int (nI c0)), (1, .int (nI h0))] := hl
  refine lv_iload_n hx hb dX1_countRows_0 rfl (lv_at hl 0 rfl) ?_
  refine lv_istore_n (lv' := [(2, .int (nI c0)), (0, .int (nI c0)), (1, .int (nI h0))]) hx hb dX1_countRows_1 rfl hl (by decide) rfl (fun ls hl => ?_)
  refine lv_iconst (v := nI 0) hx hb dX1_countRows_2 (by decide) ?_
  refine lv_istore_n (lv' := [(3, .int (nI 0)), (2, .int (nI c0)), (0, .int (nI c0)), (1, .int (nI h0))]) hx hb dX1_countRows_3 rfl hl (by decide) rfl (fun ls hl => ?_)
  refine cr_lp2 (fun (d : Nat) (k : Nat) => 16 - k) (fun (d : Nat) (k : Nat) H locs ls => (k ≤ 16 ∧ d ≤ 1114112 ∧ k + cr_nr (16 - k) d h0 = cr_nr 16 c0 h0) ∧ va_P (dC, dI) crCl [] H ∧ va_D A [] ∧ va_S A s.heap H locs ∧ lv_has ls 4 [(0, .int (nI c0)), (1, .int (nI h0)), (2, .int (nI d)), (3, .int (nI k))]) ?_ c0 0 ⟨⟨by omega, hc0, Nat.zero_add _⟩, hP, hD, hS, lv_sub hl [2, 3, 1, 0] rfl⟩
  intro d k H locs ls hI4 ih4
  obtain ⟨⟨h1, h2, h3⟩, hP, hD, hS, hl⟩ := hI4
  refine lv_iload_n hx hb dX1_countRows_4 rfl (lv_at hl 3 rfl) ?_
  refine lv_bipush (v := nI 16) hx hb dX1_countRows_5 (by decide) ?_
  refine lv_icmp_ge (tgt := 29) hx hb dX1_countRows_7 (by decide) (fun c_7 => ?_) (fun c_7 => ?_)
  · rw [nI_leI (by omega) (by omega)] at c_7
    refine lv_iload_n hx hb dX1_countRows_29 rfl (lv_at hl 3 rfl) ?_
    exact W.iret (v := nI k) hx hb hr (fun t9 ht9 hW9 => ⟨⟨nI k, [], rfl, ⟨rfl, by rw [show cr_N c0 h0 = cr_nr 16 c0 h0 from rfl, ← h3, show 16 - k = 0 from (by omega), show cr_nr 0 d h0 = 0 from rfl, Nat.add_zero]⟩, by rw [ht9]; exact hP, va_K.moved hW9.alike hK, hD⟩, hS.F ht9⟩) hS.2.2 dX1_countRows_30
  · rw [nI_leI (by omega) (by omega)] at c_7
    refine lv_iload_n hx hb dX1_countRows_10 rfl (lv_at hl 2 rfl) ?_
    refine lv_iload_n hx hb dX1_countRows_11 rfl (lv_at hl 1 rfl) ?_
    refine lv_icmp_gt (tgt := 29) hx hb dX1_countRows_12 (by decide) (fun c_12 => ?_) (fun c_12 => ?_)
    · rw [nI_ltI (by omega) (by omega)] at c_12
      refine lv_iload_n hx hb dX1_countRows_29 rfl (lv_at hl 3 rfl) ?_
      exact W.iret (v := nI k) hx hb hr (fun t9 ht9 hW9 => ⟨⟨nI k, [], rfl, ⟨rfl, by rw [show cr_N c0 h0 = cr_nr 16 c0 h0 from rfl, ← h3, cr_nr_out (by omega), Nat.add_zero]⟩, by rw [ht9]; exact hP, va_K.moved hW9.alike hK, hD⟩, hS.F ht9⟩) hS.2.2 dX1_countRows_30
    · rw [nI_ltI (by omega) (by omega)] at c_12
      refine lv_iload_n hx hb dX1_countRows_15 rfl (lv_at hl 2 rfl) ?_
      refine lv_iload_n hx hb dX1_countRows_16 rfl (lv_at hl 1 rfl) ?_
      have hPc := hP.sub (ws' := []) [] rfl
      have hDc := hD.sub (ws' := []) [] (by decide) rfl
      have hFc := va_free (wc := []) hD hS hA [] rfl
      refine va_calli (va_runS (As := [.int (nI d), .int (nI h0)]) (rest := []) ⟨hx, hb, hml, hown, hts⟩ (c_lastOfRow l dC dI _ d h0 (by omega) hh) (va_cwS 2 hts gX1_countRows_X1_lastOfRow rfl rfl rfl (by decide +kernel) ⟨Nat.le_of_ble_eq_true rfl, Nat.le_of_ble_eq_true rfl⟩) (cr_preS hPc hK hDc) rfl rfl hl.1 rfl (lv_room (Nat.le_of_ble_eq_true rfl)) dX1_countRows_17 ⟨Nat.zero_le _, Nat.zero_le _⟩) hS (fun q _ h => hFc q h) hFc (fun r_17 u_17 t_17 H_17 locs ht_17 hvm_17 hw_17 hB_17 hz_17 hk_17 hS => ?_)
      obtain ⟨rfl, rfl⟩ := hw_17
      have hla := cr_last_in (c := d) (high := h0) (by omega) hh
      obtain ⟨hP, hD⟩ := cr_back (wr := []) (w1 := []) hP hD [] [] rfl rfl (by decide) (by decide) hk_17 hFc hB_17 ht_17
      clear hPc hDc hFc
      generalize H_17 = H at hP hS ⊢
      have hP := hP.sub (ws' := []) [] rfl
      have hD := hD.sub (ws' := []) [] (by decide) rfl
      refine lv_iconst (v := nI 1) hx hb dX1_countRows_20 (by decide) ?_
      refine lv_iadd hx hb dX1_countRows_21 ?_
      refine cr_top (y := nI ((cr_last d h0) + 1)) (nI_add (cr_last d h0) 1) ?_
      refine lv_istore_n (lv' := [(2, .int (nI ((cr_last d h0) + 1))), (0, .int (nI c0)), (1, .int (nI h0)), (3, .int (nI k))]) hx hb dX1_countRows_22 rfl hl (by decide) rfl (fun ls hl => ?_)
      refine lv_iinc (v := nI (k + 1)) (lv' := [(3, .int (nI (k + 1))), (2, .int (nI ((cr_last d h0) + 1))), (0, .int (nI c0)), (1, .int (nI h0))]) hx hb dX1_countRows_23 hl (k := 3) rfl (nI_add k 1) (by decide) rfl (fun ls hl => ?_)
      refine lv_goto (tgt := 4) hx hb dX1_countRows_26 (by decide) ?_
      exact ih4 (cr_last d h0 + 1) (k + 1) _ _ _ ⟨⟨by omega, by omega, by rw [← h3]; exact cr_nr_step (by omega) (by omega)⟩, hP, hD, hS, lv_sub hl [2, 3, 1, 0] rfl⟩ (by omega)

set_option maxHeartbeats 4000000 in
set_option maxRecDepth 100000 in
theorem c_skipRows (l : Launch) (dC : Nat → ClassId) (dI : Nat → Nat → Nat) (sz : Nat) (c0 h0 t : Nat) (hc0 : c0 ≤ 1114112) (hh : h0 ≤ 1114111) (ht0 : t < cr_N c0 h0) (ht1 : t < 2 ^ 31) : Met l yX1_skipRows wsX1_skipRows ({ frames := 4, cells := 0, slots := 0, locals := 140 }) (va_Pc [.int (nI c0), .int (nI h0), .int (nI t)] (cr_pre dC dI [] [] sz)) (va_Qi (fun (rr : Int32) (u : va_W) => u = [] ∧ rr = nI (cr_go t c0 h0)) (cr_at dC dI [] (va_A [] sz)) (va_A [] sz)) 0 0 (va_A [] sz) := by
  refine Met.ofW (cc := cX1_skipRows) (maxL := 5) (ret := (some .int)) (by decide) rfl ?_
  intro p e s m args below meth c s₁ B hml hv
  obtain ⟨rfl, hsz, hP, hK, hD0⟩ := hv
  have hx := B.exec
  have hb := B.bytes
  have hr := B.returns
  have hts := atoms_spec (ws := wsX1_skipRows) B.pre
  have hown : s.vm.findClass RX1 = some m.cls := findClass_of_methodNamed B.named
  have hlocks := B.notSynchronized
  subst hsz
  have hD := hD0.self (sz := s.heap.size)
  generalize hAe : va_A [] s.heap.size = A at hD ⊢
  have hA : ∀ q : Nat, s.heap.size ≤ q → A q := fun q h => by rw [← hAe]; exact Or.inr h
  have hS : va_S A s.heap s.heap [] := va_S.rf
  have hP : va_P (dC, dI) crCl [] s.heap := hP
  have hl := lv_entry ([.int (nI c0), .int (nI h0), .int (nI t)]) (n := 5) (Nat.le_of_ble_eq_true rfl)
  rw [lg_entry_eq]
  generalize (lg_sl ([.int (nI c0), .int (nI h0), .int (nI t)]) ++ List.replicate (5 - (lg_sl ([.int (nI c0), .int (nI h0), .int (nI t)])).length) Slot.unset).toArray = ls at hl ⊢
  have hl : lv_has ls 5 [(0, .int (nI c0)), (1, .int (nI h0)), (2, .int (nI t))] := hl
  have hN : t < cr_nr 16 c0 h0 := ht0
  refine lv_iload_n hx hb dX1_skipRows_0 rfl (lv_at hl 0 rfl) ?_
  refine lv_istore_n (lv' := [(3, .int (nI c0)), (0, .int (nI c0)), (1, .int (nI h0)), (2, .int (nI t))]) hx hb dX1_skipRows_1 rfl hl (by decide) rfl (fun ls hl => ?_)
  refine lv_iconst (v := nI 0) hx hb dX1_skipRows_2 (by decide) ?_
  refine lv_istore (lv' := [(4, .int (nI 0)), (3, .int (nI c0)), (0, .int (nI c0)), (1, .int (nI h0)), (2, .int (nI t))]) hx hb dX1_skipRows_3 hl (by decide) rfl (fun ls hl => ?_)
  refine cr_lp1 (fun (k : Nat) => t - k) (fun (k : Nat) H locs ls => (k ≤ t) ∧ va_P (dC, dI) crCl [] H ∧ va_D A [] ∧ va_S A s.heap H locs ∧ lv_has ls 5 [(0, .int (nI c0)), (1, .int (nI h0)), (2, .int (nI t)), (3, .int (nI (cr_go k c0 h0))), (4, .int (nI k))]) ?_ 0 ⟨Nat.zero_le _, hP, hD, hS, lv_sub hl [2, 3, 4, 1, 0] rfl⟩
  intro k H locs ls hI5 ih5
  obtain ⟨h1, hP, hD, hS, hl⟩ := hI5
  refine lv_iload hx hb dX1_skipRows_5 (lv_at hl 4 rfl) ?_
  refine lv_iload_n hx hb dX1_skipRows_7 rfl (lv_at hl 2 rfl) ?_
  refine lv_icmp_ge (tgt := 25) hx hb dX1_skipRows_8 (by decide) (fun c_8 => ?_) (fun c_8 => ?_)
  · rw [nI_leI (by omega) (by omega)] at c_8
    obtain rfl : k = t := by omega
    refine lv_iload_n hx hb dX1_skipRows_25 rfl (lv_at hl 3 rfl) ?_
    exact W.iret (v := nI (cr_go k c0 h0)) hx hb hr (fun t9 ht9 hW9 => ⟨⟨nI (cr_go k c0 h0), [], rfl, ⟨rfl, rfl⟩, by rw [ht9]; exact hP, va_K.moved hW9.alike hK, hD⟩, hS.F ht9⟩) hS.2.2 dX1_skipRows_26
  · rw [nI_leI (by omega) (by omega)] at c_8
    have hgo := cr_go_in (m := 16) (show k < cr_nr 16 c0 h0 by omega)
    refine lv_iload_n hx hb dX1_skipRows_11 rfl (lv_at hl 3 rfl) ?_
    refine lv_iload_n hx hb dX1_skipRows_12 rfl (lv_at hl 1 rfl) ?_
    have hPc := hP.sub (ws' := []) [] rfl
    have hDc := hD.sub (ws' := []) [] (by decide) rfl
    have hFc := va_free (wc := []) hD hS hA [] rfl
    refine va_calli (va_runS (As := [.int (nI (cr_go k c0 h0)), .int (nI h0)]) (rest := []) ⟨hx, hb, hml, hown, hts⟩ (c_lastOfRow l dC dI _ (cr_go k c0 h0) h0 hgo hh) (va_cwS 2 hts gX1_skipRows_X1_lastOfRow rfl rfl rfl (by decide +kernel) ⟨Nat.le_of_ble_eq_true rfl, Nat.le_of_ble_eq_true rfl⟩) (cr_preS hPc hK hDc) rfl rfl hl.1 rfl (lv_room (Nat.le_of_ble_eq_true rfl)) dX1_skipRows_13 ⟨Nat.zero_le _, Nat.zero_le _⟩) hS (fun q _ h => hFc q h) hFc (fun r_13 u_13 t_13 H_13 locs ht_13 hvm_13 hw_13 hB_13 hz_13 hk_13 hS => ?_)
    obtain ⟨rfl, rfl⟩ := hw_13
    obtain ⟨hP, hD⟩ := cr_back (wr := []) (w1 := []) hP hD [] [] rfl rfl (by decide) (by decide) hk_13 hFc hB_13 ht_13
    clear hPc hDc hFc
    generalize H_13 = H at hP hS ⊢
    have hP := hP.sub (ws' := []) [] rfl
    have hD := hD.sub (ws' := []) [] (by decide) rfl
    refine lv_iconst (v := nI 1) hx hb dX1_skipRows_16 (by decide) ?_
    refine lv_iadd hx hb dX1_skipRows_17 ?_
    refine cr_top (y := nI ((cr_last (cr_go k c0 h0) h0) + 1)) (nI_add (cr_last (cr_go k c0 h0) h0) 1) ?_
    rw [← cr_go_succ]
    refine lv_istore_n (lv' := [(3, .int (nI (cr_go (k + 1) c0 h0))), (0, .int (nI c0)), (1, .int (nI h0)), (2, .int (nI t)), (4, .int (nI k))]) hx hb dX1_skipRows_18 rfl hl (by decide) rfl (fun ls hl => ?_)
    refine lv_iinc (v := nI (k + 1)) (lv' := [(4, .int (nI (k + 1))), (3, .int (nI (cr_go (k + 1) c0 h0))), (0, .int (nI c0)), (1, .int (nI h0)), (2, .int (nI t))]) hx hb dX1_skipRows_19 hl (k := 4) rfl (nI_add k 1) (by decide) rfl (fun ls hl => ?_)
    refine lv_goto (tgt := 5) hx hb dX1_skipRows_22 (by decide) ?_
    exact ih5 (k + 1) _ _ _ ⟨by omega, hP, hD, hS, lv_sub hl [2, 3, 4, 1, 0] rfl⟩ (by omega)

set_option maxHeartbeats 4000000 in
set_option maxRecDepth 100000 in
theorem c_leadMark (l : Launch) (dC : Nat → ClassId) (dI : Nat → Nat → Nat) (sz : Nat) (L : Nat) (h1 : 2 ≤ L) (h4 : L ≤ 4) : Met l yX1_leadMark wsX1_leadMark ({ frames := 1, cells := 0, slots := 0, locals := 20 }) (va_Pc [.int (nI L)] (cr_pre dC dI [] [] sz)) (va_Qi (fun (rr : Int32) (u : va_W) => u = [] ∧ rr = nI (cr_lm L)) (cr_at dC dI [] (va_A [] sz)) (va_A [] sz)) 0 0 (va_A [] sz) := by
  refine Met.ofW (cc := cX1_leadMark) (maxL := 1) (ret := (some .int)) (by decide) rfl ?_
  intro p e s m args below meth c s₁ B hml hv
  obtain ⟨rfl, hsz, hP, hK, hD0⟩ := hv
  have hx := B.exec
  have hb := B.bytes
  have hr := B.returns
  have hts := atoms_spec (ws := wsX1_leadMark) B.pre
  have hown : s.vm.findClass RX1 = some m.cls := findClass_of_methodNamed B.named
  have hlocks := B.notSynchronized
  subst hsz
  have hD := hD0.self (sz := s.heap.size)
  generalize hAe : va_A [] s.heap.size = A at hD ⊢
  have hA : ∀ q : Nat, s.heap.size ≤ q → A q := fun q h => by rw [← hAe]; exact Or.inr h
  have hS : va_S A s.heap s.heap [] := va_S.rf
  have hP : va_P (dC, dI) crCl [] s.heap := hP
  have hl := lv_entry ([.int (nI L)]) (n := 1) (Nat.le_of_ble_eq_true rfl)
  rw [lg_entry_eq]
  generalize (lg_sl ([.int (nI L)]) ++ List.replicate (1 - (lg_sl ([.int (nI L)])).length) Slot.unset).toArray = ls at hl ⊢
  have hl : lv_has ls 1 [(0, .int (nI L))] := hl
  rcases (show L = 2 ∨ L = 3 ∨ L = 4 by omega) with rfl | rfl | rfl
  · refine lv_ldc (v := nI 65280) hx hb hown (hts (.constant RX1 123 (nI 65280)) (by decide +kernel)) dX1_leadMark_0 ?_
    refine lv_iload_n hx hb dX1_leadMark_2 rfl (lv_at hl 0 rfl) ?_
    refine lv_ishr hx hb dX1_leadMark_3 ?_
    refine cr_top (y := nI 16320) (by decide) ?_
    refine lv_sipush (v := nI 255) hx hb dX1_leadMark_4 (by decide) ?_
    refine lv_iand hx hb dX1_leadMark_7 ?_
    refine cr_top (y := nI 192) (by decide) ?_
    exact W.iret (v := nI 192) hx hb hr (fun t9 ht9 hW9 => ⟨⟨nI 192, [], rfl, ⟨rfl, rfl⟩, by rw [ht9]; exact hP, va_K.moved hW9.alike hK, hD⟩, hS.F ht9⟩) hS.2.2 dX1_leadMark_8
  · refine lv_ldc (v := nI 65280) hx hb hown (hts (.constant RX1 123 (nI 65280)) (by decide +kernel)) dX1_leadMark_0 ?_
    refine lv_iload_n hx hb dX1_leadMark_2 rfl (lv_at hl 0 rfl) ?_
    refine lv_ishr hx hb dX1_leadMark_3 ?_
    refine cr_top (y := nI 8160) (by decide) ?_
    refine lv_sipush (v := nI 255) hx hb dX1_leadMark_4 (by decide) ?_
    refine lv_iand hx hb dX1_leadMark_7 ?_
    refine cr_top (y := nI 224) (by decide) ?_
    exact W.iret (v := nI 224) hx hb hr (fun t9 ht9 hW9 => ⟨⟨nI 224, [], rfl, ⟨rfl, rfl⟩, by rw [ht9]; exact hP, va_K.moved hW9.alike hK, hD⟩, hS.F ht9⟩) hS.2.2 dX1_leadMark_8
  · refine lv_ldc (v := nI 65280) hx hb hown (hts (.constant RX1 123 (nI 65280)) (by decide +kernel)) dX1_leadMark_0 ?_
    refine lv_iload_n hx hb dX1_leadMark_2 rfl (lv_at hl 0 rfl) ?_
    refine lv_ishr hx hb dX1_leadMark_3 ?_
    refine cr_top (y := nI 4080) (by decide) ?_
    refine lv_sipush (v := nI 255) hx hb dX1_leadMark_4 (by decide) ?_
    refine lv_iand hx hb dX1_leadMark_7 ?_
    refine cr_top (y := nI 240) (by decide) ?_
    exact W.iret (v := nI 240) hx hb hr (fun t9 ht9 hW9 => ⟨⟨nI 240, [], rfl, ⟨rfl, rfl⟩, by rw [ht9]; exact hP, va_K.moved hW9.alike hK, hD⟩, hS.F ht9⟩) hS.2.2 dX1_leadMark_8

set_option maxHeartbeats 4000000 in
set_option maxRecDepth 100000 in
theorem c_byteOf (l : Launch) (dC : Nat → ClassId) (dI : Nat → Nat → Nat) (sz : Nat) (c0 L i : Nat) (hL : cr_len c0 = L) (hc : c0 ≤ 1114111) (h1 : 1 ≤ i) (h4 : i ≤ L) : Met l yX1_byteOf wsX1_byteOf ({ frames := 2, cells := 0, slots := 0, locals := 60 }) (va_Pc [.int (nI c0), .int (nI L), .int (nI i)] (cr_pre dC dI [] [] sz)) (va_Qi (fun (rr : Int32) (u : va_W) => u = [] ∧ rr = nI (cr_by c0 (i - 1))) (cr_at dC dI [] (va_A [] sz)) (va_A [] sz)) 0 0 (va_A [] sz) := by
  refine Met.ofW (cc := cX1_byteOf) (maxL := 4) (ret := (some .int)) (by decide) rfl ?_
  intro p e s m args below meth c s₁ B hml hv
  obtain ⟨rfl, hsz, hP, hK, hD0⟩ := hv
  have hx := B.exec
  have hb := B.bytes
  have hr := B.returns
  have hts := atoms_spec (ws := wsX1_byteOf) B.pre
  have hown : s.vm.findClass RX1 = some m.cls := findClass_of_methodNamed B.named
  have hlocks := B.notSynchronized
  subst hsz
  have hD := hD0.self (sz := s.heap.size)
  generalize hAe : va_A [] s.heap.size = A at hD ⊢
  have hA : ∀ q : Nat, s.heap.size ≤ q → A q := fun q h => by rw [← hAe]; exact Or.inr h
  have hS : va_S A s.heap s.heap [] := va_S.rf
  have hP : va_P (dC, dI) crCl [] s.heap := hP
  have hl := lv_entry ([.int (nI c0), .int (nI L), .int (nI i)]) (n := 4) (Nat.le_of_ble_eq_true rfl)
  rw [lg_entry_eq]
  generalize (lg_sl ([.int (nI c0), .int (nI L), .int (nI i)]) ++ List.replicate (4 - (lg_sl ([.int (nI c0), .int (nI L), .int (nI i)])).length) Slot.unset).toArray = ls at hl ⊢
  have hl : lv_has ls 4 [(0, .int (nI c0)), (1, .int (nI L)), (2, .int (nI i))] := hl
  have hin := cr_len_in c0
  rcases (show (L = 1 ∧ i = 1) ∨ (L = 2 ∧ i = 1) ∨ (L = 2 ∧ i = 2) ∨ (L = 3 ∧ i = 1) ∨ (L = 3 ∧ i = 2) ∨ (L = 3 ∧ i = 3) ∨ (L = 4 ∧ i = 1) ∨ (L = 4 ∧ i = 2) ∨ (L = 4 ∧ i = 3) ∨ (L = 4 ∧ i = 4) by omega) with ⟨rfl, rfl⟩ | ⟨rfl, rfl⟩ | ⟨rfl, rfl⟩ | ⟨rfl, rfl⟩ | ⟨rfl, rfl⟩ | ⟨rfl, rfl⟩ | ⟨rfl, rfl⟩ | ⟨rfl, rfl⟩ | ⟨rfl, rfl⟩ | ⟨rfl, rfl⟩
  · refine lv_iload_n hx hb dX1_byteOf_0 rfl (lv_at hl 0 rfl) ?_
    refine lv_bipush (v := nI 6) hx hb dX1_byteOf_1 (by decide) ?_
    refine lv_iload_n hx hb dX1_byteOf_3 rfl (lv_at hl 1 rfl) ?_
    refine lv_iload_n hx hb dX1_byteOf_4 rfl (lv_at hl 2 rfl) ?_
    refine lv_isub hx hb dX1_byteOf_5 ?_
    refine cr_top (y := nI 0) (by decide) ?_
    refine lv_imul hx hb dX1_byteOf_6 ?_
    refine cr_top (y := nI 0) (by decide) ?_
    refine lv_ishr hx hb dX1_byteOf_7 ?_
    refine cr_top (y := nI c0) ((pk_shrN (by omega) _ 0 (by decide)).trans (by simp)) ?_
    refine lv_istore_n (lv' := [(3, .int (nI c0)), (0, .int (nI c0)), (1, .int (nI 1)), (2, .int (nI 1))]) hx hb dX1_byteOf_8 rfl hl (by decide) rfl (fun ls hl => ?_)
    refine lv_iload_n hx hb dX1_byteOf_9 rfl (lv_at hl 3 rfl) ?_
    refine lv_iconst (v := nI 1) hx hb dX1_byteOf_10 (by decide) ?_
    refine lv_icmp_le (tgt := 23) hx hb dX1_byteOf_11 (by decide) (fun c_11 => ?_) (fun c_11 => ?_)
    · refine lv_iload_n hx hb dX1_byteOf_23 rfl (lv_at hl 2 rfl) ?_
      refine lv_iconst (v := nI 1) hx hb dX1_byteOf_24 (by decide) ?_
      refine lv_icmp_ne (tgt := 32) hx hb dX1_byteOf_25 (by decide) (fun c_25 => ?_) (fun c_25 => ?_)
      · exact absurd (by decide) c_25
      · refine lv_iload_n hx hb dX1_byteOf_28 rfl (lv_at hl 0 rfl) ?_
        refine lv_goto (tgt := 38) hx hb dX1_byteOf_29 (by decide) ?_
        exact W.iret (v := nI c0) hx hb hr (fun t9 ht9 hW9 => ⟨⟨nI c0, [], rfl, ⟨rfl, by rw [show 1 - 1 = 0 from rfl, cr_by1 (by omega)]⟩, by rw [ht9]; exact hP, va_K.moved hW9.alike hK, hD⟩, hS.F ht9⟩) hS.2.2 dX1_byteOf_38
    · exact absurd (by decide) c_11
  · refine lv_iload_n hx hb dX1_byteOf_0 rfl (lv_at hl 0 rfl) ?_
    refine lv_bipush (v := nI 6) hx hb dX1_byteOf_1 (by decide) ?_
    refine lv_iload_n hx hb dX1_byteOf_3 rfl (lv_at hl 1 rfl) ?_
    refine lv_iload_n hx hb dX1_byteOf_4 rfl (lv_at hl 2 rfl) ?_
    refine lv_isub hx hb dX1_byteOf_5 ?_
    refine cr_top (y := nI 1) (by decide) ?_
    refine lv_imul hx hb dX1_byteOf_6 ?_
    refine cr_top (y := nI 6) (by decide) ?_
    refine lv_ishr hx hb dX1_byteOf_7 ?_
    refine cr_top (y := nI (c0 / 64)) (pk_shrN (by omega) _ 6 (by decide)) ?_
    refine lv_istore_n (lv' := [(3, .int (nI (c0 / 64))), (0, .int (nI c0)), (1, .int (nI 2)), (2, .int (nI 1))]) hx hb dX1_byteOf_8 rfl hl (by decide) rfl (fun ls hl => ?_)
    refine lv_iload_n hx hb dX1_byteOf_9 rfl (lv_at hl 3 rfl) ?_
    refine lv_iconst (v := nI 1) hx hb dX1_byteOf_10 (by decide) ?_
    refine lv_icmp_le (tgt := 23) hx hb dX1_byteOf_11 (by decide) (fun c_11 => ?_) (fun c_11 => ?_)
    · refine lv_iload_n hx hb dX1_byteOf_23 rfl (lv_at hl 2 rfl) ?_
      refine lv_iconst (v := nI 1) hx hb dX1_byteOf_24 (by decide) ?_
      refine lv_icmp_ne (tgt := 32) hx hb dX1_byteOf_25 (by decide) (fun c_25 => ?_) (fun c_25 => ?_)
      · refine lv_iload_n hx hb dX1_byteOf_32 rfl (lv_at hl 2 rfl) ?_
        have hPc := hP.sub (ws' := []) [] rfl
        have hDc := hD.sub (ws' := []) [] (by decide) rfl
        have hFc := va_free (wc := []) hD hS hA [] rfl
        refine va_calli (va_runS (As := [.int (nI 2)]) (rest := []) ⟨hx, hb, hml, hown, hts⟩ (c_leadMark l dC dI _ 2 (by decide) (by decide)) (va_cwS 1 hts gX1_byteOf_X1_leadMark rfl rfl rfl (by decide +kernel) ⟨Nat.le_of_ble_eq_true rfl, Nat.le_of_ble_eq_true rfl⟩) (cr_preS hPc hK hDc) rfl rfl hl.1 rfl (lv_room (Nat.le_of_ble_eq_true rfl)) dX1_byteOf_33 ⟨Nat.zero_le _, Nat.zero_le _⟩) hS (fun q _ h => hFc q h) hFc (fun r_33 u_33 t_33 H_33 locs ht_33 hvm_33 hw_33 hB_33 hz_33 hk_33 hS => ?_)
        obtain ⟨rfl, rfl⟩ := hw_33
        obtain ⟨hP, hD⟩ := cr_back (wr := []) (w1 := []) hP hD [] [] rfl rfl (by decide) (by decide) hk_33 hFc hB_33 ht_33
        clear hPc hDc hFc
        generalize H_33 = H at hP hS ⊢
        have hP := hP.sub (ws' := []) [] rfl
        have hD := hD.sub (ws' := []) [] (by decide) rfl
        refine lv_iload_n hx hb dX1_byteOf_36 rfl (lv_at hl 0 rfl) ?_
        refine lv_ior hx hb dX1_byteOf_37 ?_
        refine cr_top (y := nI (192 + c0 / 64)) (cr_orlead2 (by omega)) ?_
        exact W.iret (v := nI (192 + c0 / 64)) hx hb hr (fun t9 ht9 hW9 => ⟨⟨nI (192 + c0 / 64), [], rfl, ⟨rfl, by rw [show 1 - 1 = 0 from rfl, (cr_by2 (by omega) (by omega)).1]⟩, by rw [ht9]; exact hP, va_K.moved hW9.alike hK, hD⟩, hS.F ht9⟩) hS.2.2 dX1_byteOf_38
      · exact absurd c_25 (by decide)
    · exact absurd (by decide) c_11
  · refine lv_iload_n hx hb dX1_byteOf_0 rfl (lv_at hl 0 rfl) ?_
    refine lv_bipush (v := nI 6) hx hb dX1_byteOf_1 (by decide) ?_
    refine lv_iload_n hx hb dX1_byteOf_3 rfl (lv_at hl 1 rfl) ?_
    refine lv_iload_n hx hb dX1_byteOf_4 rfl (lv_at hl 2 rfl) ?_
    refine lv_isub hx hb dX1_byteOf_5 ?_
    refine cr_top (y := nI 0) (by decide) ?_
    refine lv_imul hx hb dX1_byteOf_6 ?_
    refine cr_top (y := nI 0) (by decide) ?_
    refine lv_ishr hx hb dX1_byteOf_7 ?_
    refine cr_top (y := nI c0) ((pk_shrN (by omega) _ 0 (by decide)).trans (by simp)) ?_
    refine lv_istore_n (lv' := [(3, .int (nI c0)), (0, .int (nI c0)), (1, .int (nI 2)), (2, .int (nI 2))]) hx hb dX1_byteOf_8 rfl hl (by decide) rfl (fun ls hl => ?_)
    refine lv_iload_n hx hb dX1_byteOf_9 rfl (lv_at hl 3 rfl) ?_
    refine lv_iconst (v := nI 1) hx hb dX1_byteOf_10 (by decide) ?_
    refine lv_icmp_le (tgt := 23) hx hb dX1_byteOf_11 (by decide) (fun c_11 => ?_) (fun c_11 => ?_)
    · exact absurd c_11 (by decide)
    · refine lv_sipush (v := nI 128) hx hb dX1_byteOf_14 (by decide) ?_
      refine lv_iload_n hx hb dX1_byteOf_17 rfl (lv_at hl 0 rfl) ?_
      refine lv_bipush (v := nI 63) hx hb dX1_byteOf_18 (by decide) ?_
      refine lv_iand hx hb dX1_byteOf_20 ?_
      refine cr_top (y := nI (c0 % 64)) (cr_and63 (by omega)) ?_
      refine lv_ior hx hb dX1_byteOf_21 ?_
      refine cr_top (y := nI (128 + c0 % 64)) (cr_or128 (by omega)) ?_
      exact W.iret (v := nI (128 + c0 % 64)) hx hb hr (fun t9 ht9 hW9 => ⟨⟨nI (128 + c0 % 64), [], rfl, ⟨rfl, by rw [show 2 - 1 = 1 from rfl, (cr_by2 (by omega) (by omega)).2]⟩, by rw [ht9]; exact hP, va_K.moved hW9.alike hK, hD⟩, hS.F ht9⟩) hS.2.2 dX1_byteOf_22
  · refine lv_iload_n hx hb dX1_byteOf_0 rfl (lv_at hl 0 rfl) ?_
    refine lv_bipush (v := nI 6) hx hb dX1_byteOf_1 (by decide) ?_
    refine lv_iload_n hx hb dX1_byteOf_3 rfl (lv_at hl 1 rfl) ?_
    refine lv_iload_n hx hb dX1_byteOf_4 rfl (lv_at hl 2 rfl) ?_
    refine lv_isub hx hb dX1_byteOf_5 ?_
    refine cr_top (y := nI 2) (by decide) ?_
    refine lv_imul hx hb dX1_byteOf_6 ?_
    refine cr_top (y := nI 12) (by decide) ?_
    refine lv_ishr hx hb dX1_byteOf_7 ?_
    refine cr_top (y := nI (c0 / 4096)) (pk_shrN (by omega) _ 12 (by decide)) ?_
    refine lv_istore_n (lv' := [(3, .int (nI (c0 / 4096))), (0, .int (nI c0)), (1, .int (nI 3)), (2, .int (nI 1))]) hx hb dX1_byteOf_8 rfl hl (by decide) rfl (fun ls hl => ?_)
    refine lv_iload_n hx hb dX1_byteOf_9 rfl (lv_at hl 3 rfl) ?_
    refine lv_iconst (v := nI 1) hx hb dX1_byteOf_10 (by decide) ?_
    refine lv_icmp_le (tgt := 23) hx hb dX1_byteOf_11 (by decide) (fun c_11 => ?_) (fun c_11 => ?_)
    · refine lv_iload_n hx hb dX1_byteOf_23 rfl (lv_at hl 2 rfl) ?_
      refine lv_iconst (v := nI 1) hx hb dX1_byteOf_24 (by decide) ?_
      refine lv_icmp_ne (tgt := 32) hx hb dX1_byteOf_25 (by decide) (fun c_25 => ?_) (fun c_25 => ?_)
      · refine lv_iload_n hx hb dX1_byteOf_32 rfl (lv_at hl 2 rfl) ?_
        have hPc := hP.sub (ws' := []) [] rfl
        have hDc := hD.sub (ws' := []) [] (by decide) rfl
        have hFc := va_free (wc := []) hD hS hA [] rfl
        refine va_calli (va_runS (As := [.int (nI 3)]) (rest := []) ⟨hx, hb, hml, hown, hts⟩ (c_leadMark l dC dI _ 3 (by decide) (by decide)) (va_cwS 1 hts gX1_byteOf_X1_leadMark rfl rfl rfl (by decide +kernel) ⟨Nat.le_of_ble_eq_true rfl, Nat.le_of_ble_eq_true rfl⟩) (cr_preS hPc hK hDc) rfl rfl hl.1 rfl (lv_room (Nat.le_of_ble_eq_true rfl)) dX1_byteOf_33 ⟨Nat.zero_le _, Nat.zero_le _⟩) hS (fun q _ h => hFc q h) hFc (fun r_33 u_33 t_33 H_33 locs ht_33 hvm_33 hw_33 hB_33 hz_33 hk_33 hS => ?_)
        obtain ⟨rfl, rfl⟩ := hw_33
        obtain ⟨hP, hD⟩ := cr_back (wr := []) (w1 := []) hP hD [] [] rfl rfl (by decide) (by decide) hk_33 hFc hB_33 ht_33
        clear hPc hDc hFc
        generalize H_33 = H at hP hS ⊢
        have hP := hP.sub (ws' := []) [] rfl
        have hD := hD.sub (ws' := []) [] (by decide) rfl
        refine lv_iload_n hx hb dX1_byteOf_36 rfl (lv_at hl 0 rfl) ?_
        refine lv_ior hx hb dX1_byteOf_37 ?_
        refine cr_top (y := nI (224 + c0 / 4096)) (cr_orlead3 (by omega)) ?_
        exact W.iret (v := nI (224 + c0 / 4096)) hx hb hr (fun t9 ht9 hW9 => ⟨⟨nI (224 + c0 / 4096), [], rfl, ⟨rfl, by rw [show 1 - 1 = 0 from rfl, (cr_by3 (by omega) (by omega)).1]⟩, by rw [ht9]; exact hP, va_K.moved hW9.alike hK, hD⟩, hS.F ht9⟩) hS.2.2 dX1_byteOf_38
      · exact absurd c_25 (by decide)
    · exact absurd (by decide) c_11
  · refine lv_iload_n hx hb dX1_byteOf_0 rfl (lv_at hl 0 rfl) ?_
    refine lv_bipush (v := nI 6) hx hb dX1_byteOf_1 (by decide) ?_
    refine lv_iload_n hx hb dX1_byteOf_3 rfl (lv_at hl 1 rfl) ?_
    refine lv_iload_n hx hb dX1_byteOf_4 rfl (lv_at hl 2 rfl) ?_
    refine lv_isub hx hb dX1_byteOf_5 ?_
    refine cr_top (y := nI 1) (by decide) ?_
    refine lv_imul hx hb dX1_byteOf_6 ?_
    refine cr_top (y := nI 6) (by decide) ?_
    refine lv_ishr hx hb dX1_byteOf_7 ?_
    refine cr_top (y := nI (c0 / 64)) (pk_shrN (by omega) _ 6 (by decide)) ?_
    refine lv_istore_n (lv' := [(3, .int (nI (c0 / 64))), (0, .int (nI c0)), (1, .int (nI 3)), (2, .int (nI 2))]) hx hb dX1_byteOf_8 rfl hl (by decide) rfl (fun ls hl => ?_)
    refine lv_iload_n hx hb dX1_byteOf_9 rfl (lv_at hl 3 rfl) ?_
    refine lv_iconst (v := nI 1) hx hb dX1_byteOf_10 (by decide) ?_
    refine lv_icmp_le (tgt := 23) hx hb dX1_byteOf_11 (by decide) (fun c_11 => ?_) (fun c_11 => ?_)
    · exact absurd c_11 (by decide)
    · refine lv_sipush (v := nI 128) hx hb dX1_byteOf_14 (by decide) ?_
      refine lv_iload_n hx hb dX1_byteOf_17 rfl (lv_at hl 0 rfl) ?_
      refine lv_bipush (v := nI 63) hx hb dX1_byteOf_18 (by decide) ?_
      refine lv_iand hx hb dX1_byteOf_20 ?_
      refine cr_top (y := nI (c0 / 64 % 64)) (cr_and63 (by omega)) ?_
      refine lv_ior hx hb dX1_byteOf_21 ?_
      refine cr_top (y := nI (128 + c0 / 64 % 64)) (cr_or128 (by omega)) ?_
      exact W.iret (v := nI (128 + c0 / 64 % 64)) hx hb hr (fun t9 ht9 hW9 => ⟨⟨nI (128 + c0 / 64 % 64), [], rfl, ⟨rfl, by rw [show 2 - 1 = 1 from rfl, (cr_by3 (by omega) (by omega)).2.1]⟩, by rw [ht9]; exact hP, va_K.moved hW9.alike hK, hD⟩, hS.F ht9⟩) hS.2.2 dX1_byteOf_22
  · refine lv_iload_n hx hb dX1_byteOf_0 rfl (lv_at hl 0 rfl) ?_
    refine lv_bipush (v := nI 6) hx hb dX1_byteOf_1 (by decide) ?_
    refine lv_iload_n hx hb dX1_byteOf_3 rfl (lv_at hl 1 rfl) ?_
    refine lv_iload_n hx hb dX1_byteOf_4 rfl (lv_at hl 2 rfl) ?_
    refine lv_isub hx hb dX1_byteOf_5 ?_
    refine cr_top (y := nI 0) (by decide) ?_
    refine lv_imul hx hb dX1_byteOf_6 ?_
    refine cr_top (y := nI 0) (by decide) ?_
    refine lv_ishr hx hb dX1_byteOf_7 ?_
    refine cr_top (y := nI c0) ((pk_shrN (by omega) _ 0 (by decide)).trans (by simp)) ?_
    refine lv_istore_n (lv' := [(3, .int (nI c0)), (0, .int (nI c0)), (1, .int (nI 3)), (2, .int (nI 3))]) hx hb dX1_byteOf_8 rfl hl (by decide) rfl (fun ls hl => ?_)
    refine lv_iload_n hx hb dX1_byteOf_9 rfl (lv_at hl 3 rfl) ?_
    refine lv_iconst (v := nI 1) hx hb dX1_byteOf_10 (by decide) ?_
    refine lv_icmp_le (tgt := 23) hx hb dX1_byteOf_11 (by decide) (fun c_11 => ?_) (fun c_11 => ?_)
    · exact absurd c_11 (by decide)
    · refine lv_sipush (v := nI 128) hx hb dX1_byteOf_14 (by decide) ?_
      refine lv_iload_n hx hb dX1_byteOf_17 rfl (lv_at hl 0 rfl) ?_
      refine lv_bipush (v := nI 63) hx hb dX1_byteOf_18 (by decide) ?_
      refine lv_iand hx hb dX1_byteOf_20 ?_
      refine cr_top (y := nI (c0 % 64)) (cr_and63 (by omega)) ?_
      refine lv_ior hx hb dX1_byteOf_21 ?_
      refine cr_top (y := nI (128 + c0 % 64)) (cr_or128 (by omega)) ?_
      exact W.iret (v := nI (128 + c0 % 64)) hx hb hr (fun t9 ht9 hW9 => ⟨⟨nI (128 + c0 % 64), [], rfl, ⟨rfl, by rw [show 3 - 1 = 2 from rfl, (cr_by3 (by omega) (by omega)).2.2]⟩, by rw [ht9]; exact hP, va_K.moved hW9.alike hK, hD⟩, hS.F ht9⟩) hS.2.2 dX1_byteOf_22
  · refine lv_iload_n hx hb dX1_byteOf_0 rfl (lv_at hl 0 rfl) ?_
    refine lv_bipush (v := nI 6) hx hb dX1_byteOf_1 (by decide) ?_
    refine lv_iload_n hx hb dX1_byteOf_3 rfl (lv_at hl 1 rfl) ?_
    refine lv_iload_n hx hb dX1_byteOf_4 rfl (lv_at hl 2 rfl) ?_
    refine lv_isub hx hb dX1_byteOf_5 ?_
    refine cr_top (y := nI 3) (by decide) ?_
    refine lv_imul hx hb dX1_byteOf_6 ?_
    refine cr_top (y := nI 18) (by decide) ?_
    refine lv_ishr hx hb dX1_byteOf_7 ?_
    refine cr_top (y := nI (c0 / 262144)) (pk_shrN (by omega) _ 18 (by decide)) ?_
    refine lv_istore_n (lv' := [(3, .int (nI (c0 / 262144))), (0, .int (nI c0)), (1, .int (nI 4)), (2, .int (nI 1))]) hx hb dX1_byteOf_8 rfl hl (by decide) rfl (fun ls hl => ?_)
    refine lv_iload_n hx hb dX1_byteOf_9 rfl (lv_at hl 3 rfl) ?_
    refine lv_iconst (v := nI 1) hx hb dX1_byteOf_10 (by decide) ?_
    refine lv_icmp_le (tgt := 23) hx hb dX1_byteOf_11 (by decide) (fun c_11 => ?_) (fun c_11 => ?_)
    · refine lv_iload_n hx hb dX1_byteOf_23 rfl (lv_at hl 2 rfl) ?_
      refine lv_iconst (v := nI 1) hx hb dX1_byteOf_24 (by decide) ?_
      refine lv_icmp_ne (tgt := 32) hx hb dX1_byteOf_25 (by decide) (fun c_25 => ?_) (fun c_25 => ?_)
      · refine lv_iload_n hx hb dX1_byteOf_32 rfl (lv_at hl 2 rfl) ?_
        have hPc := hP.sub (ws' := []) [] rfl
        have hDc := hD.sub (ws' := []) [] (by decide) rfl
        have hFc := va_free (wc := []) hD hS hA [] rfl
        refine va_calli (va_runS (As := [.int (nI 4)]) (rest := []) ⟨hx, hb, hml, hown, hts⟩ (c_leadMark l dC dI _ 4 (by decide) (by decide)) (va_cwS 1 hts gX1_byteOf_X1_leadMark rfl rfl rfl (by decide +kernel) ⟨Nat.le_of_ble_eq_true rfl, Nat.le_of_ble_eq_true rfl⟩) (cr_preS hPc hK hDc) rfl rfl hl.1 rfl (lv_room (Nat.le_of_ble_eq_true rfl)) dX1_byteOf_33 ⟨Nat.zero_le _, Nat.zero_le _⟩) hS (fun q _ h => hFc q h) hFc (fun r_33 u_33 t_33 H_33 locs ht_33 hvm_33 hw_33 hB_33 hz_33 hk_33 hS => ?_)
        obtain ⟨rfl, rfl⟩ := hw_33
        obtain ⟨hP, hD⟩ := cr_back (wr := []) (w1 := []) hP hD [] [] rfl rfl (by decide) (by decide) hk_33 hFc hB_33 ht_33
        clear hPc hDc hFc
        generalize H_33 = H at hP hS ⊢
        have hP := hP.sub (ws' := []) [] rfl
        have hD := hD.sub (ws' := []) [] (by decide) rfl
        refine lv_iload_n hx hb dX1_byteOf_36 rfl (lv_at hl 0 rfl) ?_
        refine lv_ior hx hb dX1_byteOf_37 ?_
        refine cr_top (y := nI (240 + c0 / 262144)) (cr_orlead4 (by omega)) ?_
        exact W.iret (v := nI (240 + c0 / 262144)) hx hb hr (fun t9 ht9 hW9 => ⟨⟨nI (240 + c0 / 262144), [], rfl, ⟨rfl, by rw [show 1 - 1 = 0 from rfl, (cr_by4 (by omega)).1]⟩, by rw [ht9]; exact hP, va_K.moved hW9.alike hK, hD⟩, hS.F ht9⟩) hS.2.2 dX1_byteOf_38
      · exact absurd c_25 (by decide)
    · exact absurd (by decide) c_11
  · refine lv_iload_n hx hb dX1_byteOf_0 rfl (lv_at hl 0 rfl) ?_
    refine lv_bipush (v := nI 6) hx hb dX1_byteOf_1 (by decide) ?_
    refine lv_iload_n hx hb dX1_byteOf_3 rfl (lv_at hl 1 rfl) ?_
    refine lv_iload_n hx hb dX1_byteOf_4 rfl (lv_at hl 2 rfl) ?_
    refine lv_isub hx hb dX1_byteOf_5 ?_
    refine cr_top (y := nI 2) (by decide) ?_
    refine lv_imul hx hb dX1_byteOf_6 ?_
    refine cr_top (y := nI 12) (by decide) ?_
    refine lv_ishr hx hb dX1_byteOf_7 ?_
    refine cr_top (y := nI (c0 / 4096)) (pk_shrN (by omega) _ 12 (by decide)) ?_
    refine lv_istore_n (lv' := [(3, .int (nI (c0 / 4096))), (0, .int (nI c0)), (1, .int (nI 4)), (2, .int (nI 2))]) hx hb dX1_byteOf_8 rfl hl (by decide) rfl (fun ls hl => ?_)
    refine lv_iload_n hx hb dX1_byteOf_9 rfl (lv_at hl 3 rfl) ?_
    refine lv_iconst (v := nI 1) hx hb dX1_byteOf_10 (by decide) ?_
    refine lv_icmp_le (tgt := 23) hx hb dX1_byteOf_11 (by decide) (fun c_11 => ?_) (fun c_11 => ?_)
    · exact absurd c_11 (by decide)
    · refine lv_sipush (v := nI 128) hx hb dX1_byteOf_14 (by decide) ?_
      refine lv_iload_n hx hb dX1_byteOf_17 rfl (lv_at hl 0 rfl) ?_
      refine lv_bipush (v := nI 63) hx hb dX1_byteOf_18 (by decide) ?_
      refine lv_iand hx hb dX1_byteOf_20 ?_
      refine cr_top (y := nI (c0 / 4096 % 64)) (cr_and63 (by omega)) ?_
      refine lv_ior hx hb dX1_byteOf_21 ?_
      refine cr_top (y := nI (128 + c0 / 4096 % 64)) (cr_or128 (by omega)) ?_
      exact W.iret (v := nI (128 + c0 / 4096 % 64)) hx hb hr (fun t9 ht9 hW9 => ⟨⟨nI (128 + c0 / 4096 % 64), [], rfl, ⟨rfl, by rw [show 2 - 1 = 1 from rfl, (cr_by4 (by omega)).2.1]⟩, by rw [ht9]; exact hP, va_K.moved hW9.alike hK, hD⟩, hS.F ht9⟩) hS.2.2 dX1_byteOf_22
  · refine lv_iload_n hx hb dX1_byteOf_0 rfl (lv_at hl 0 rfl) ?_
    refine lv_bipush (v := nI 6) hx hb dX1_byteOf_1 (by decide) ?_
    refine lv_iload_n hx hb dX1_byteOf_3 rfl (lv_at hl 1 rfl) ?_
    refine lv_iload_n hx hb dX1_byteOf_4 rfl (lv_at hl 2 rfl) ?_
    refine lv_isub hx hb dX1_byteOf_5 ?_
    refine cr_top (y := nI 1) (by decide) ?_
    refine lv_imul hx hb dX1_byteOf_6 ?_
    refine cr_top (y := nI 6) (by decide) ?_
    refine lv_ishr hx hb dX1_byteOf_7 ?_
    refine cr_top (y := nI (c0 / 64)) (pk_shrN (by omega) _ 6 (by decide)) ?_
    refine lv_istore_n (lv' := [(3, .int (nI (c0 / 64))), (0, .int (nI c0)), (1, .int (nI 4)), (2, .int (nI 3))]) hx hb dX1_byteOf_8 rfl hl (by decide) rfl (fun ls hl => ?_)
    refine lv_iload_n hx hb dX1_byteOf_9 rfl (lv_at hl 3 rfl) ?_
    refine lv_iconst (v := nI 1) hx hb dX1_byteOf_10 (by decide) ?_
    refine lv_icmp_le (tgt := 23) hx hb dX1_byteOf_11 (by decide) (fun c_11 => ?_) (fun c_11 => ?_)
    · exact absurd c_11 (by decide)
    · refine lv_sipush (v := nI 128) hx hb dX1_byteOf_14 (by decide) ?_
      refine lv_iload_n hx hb dX1_byteOf_17 rfl (lv_at hl 0 rfl) ?_
      refine lv_bipush (v := nI 63) hx hb dX1_byteOf_18 (by decide) ?_
      refine lv_iand hx hb dX1_byteOf_20 ?_
      refine cr_top (y := nI (c0 / 64 % 64)) (cr_and63 (by omega)) ?_
      refine lv_ior hx hb dX1_byteOf_21 ?_
      refine cr_top (y := nI (128 + c0 / 64 % 64)) (cr_or128 (by omega)) ?_
      exact W.iret (v := nI (128 + c0 / 64 % 64)) hx hb hr (fun t9 ht9 hW9 => ⟨⟨nI (128 + c0 / 64 % 64), [], rfl, ⟨rfl, by rw [show 3 - 1 = 2 from rfl, (cr_by4 (by omega)).2.2.1]⟩, by rw [ht9]; exact hP, va_K.moved hW9.alike hK, hD⟩, hS.F ht9⟩) hS.2.2 dX1_byteOf_22
  · refine lv_iload_n hx hb dX1_byteOf_0 rfl (lv_at hl 0 rfl) ?_
    refine lv_bipush (v := nI 6) hx hb dX1_byteOf_1 (by decide) ?_
    refine lv_iload_n hx hb dX1_byteOf_3 rfl (lv_at hl 1 rfl) ?_
    refine lv_iload_n hx hb dX1_byteOf_4 rfl (lv_at hl 2 rfl) ?_
    refine lv_isub hx hb dX1_byteOf_5 ?_
    refine cr_top (y := nI 0) (by decide) ?_
    refine lv_imul hx hb dX1_byteOf_6 ?_
    refine cr_top (y := nI 0) (by decide) ?_
    refine lv_ishr hx hb dX1_byteOf_7 ?_
    refine cr_top (y := nI c0) ((pk_shrN (by omega) _ 0 (by decide)).trans (by simp)) ?_
    refine lv_istore_n (lv' := [(3, .int (nI c0)), (0, .int (nI c0)), (1, .int (nI 4)), (2, .int (nI 4))]) hx hb dX1_byteOf_8 rfl hl (by decide) rfl (fun ls hl => ?_)
    refine lv_iload_n hx hb dX1_byteOf_9 rfl (lv_at hl 3 rfl) ?_
    refine lv_iconst (v := nI 1) hx hb dX1_byteOf_10 (by decide) ?_
    refine lv_icmp_le (tgt := 23) hx hb dX1_byteOf_11 (by decide) (fun c_11 => ?_) (fun c_11 => ?_)
    · exact absurd c_11 (by decide)
    · refine lv_sipush (v := nI 128) hx hb dX1_byteOf_14 (by decide) ?_
      refine lv_iload_n hx hb dX1_byteOf_17 rfl (lv_at hl 0 rfl) ?_
      refine lv_bipush (v := nI 63) hx hb dX1_byteOf_18 (by decide) ?_
      refine lv_iand hx hb dX1_byteOf_20 ?_
      refine cr_top (y := nI (c0 % 64)) (cr_and63 (by omega)) ?_
      refine lv_ior hx hb dX1_byteOf_21 ?_
      refine cr_top (y := nI (128 + c0 % 64)) (cr_or128 (by omega)) ?_
      exact W.iret (v := nI (128 + c0 % 64)) hx hb hr (fun t9 ht9 hW9 => ⟨⟨nI (128 + c0 % 64), [], rfl, ⟨rfl, by rw [show 4 - 1 = 3 from rfl, (cr_by4 (by omega)).2.2.2]⟩, by rw [ht9]; exact hP, va_K.moved hW9.alike hK, hD⟩, hS.F ht9⟩) hS.2.2 dX1_byteOf_22

set_option maxHeartbeats 4000000 in
set_option maxRecDepth 100000 in
theorem c_byteAt (l : Launch) (dC : Nat → ClassId) (dI : Nat → Nat → Nat) (sz : Nat) (x : Int32) (i : Nat) (h1 : 1 ≤ i) (h4 : i ≤ 4) : Met l yX1_byteAt wsX1_byteAt ({ frames := 1, cells := 0, slots := 0, locals := 20 }) (va_Pc [.int x, .int (nI i)] (cr_pre dC dI [] [] sz)) (va_Qi (fun (rr : Int32) (u : va_W) => u = [] ∧ rr = nI (cr_ba x i)) (cr_at dC dI [] (va_A [] sz)) (va_A [] sz)) 0 0 (va_A [] sz) := by
  refine Met.ofW (cc := cX1_byteAt) (maxL := 2) (ret := (some .int)) (by decide) rfl ?_
  intro p e s m args below meth c s₁ B hml hv
  obtain ⟨rfl, hsz, hP, hK, hD0⟩ := hv
  have hx := B.exec
  have hb := B.bytes
  have hr := B.returns
  have hts := atoms_spec (ws := wsX1_byteAt) B.pre
  have hown : s.vm.findClass RX1 = some m.cls := findClass_of_methodNamed B.named
  have hlocks := B.notSynchronized
  subst hsz
  have hD := hD0.self (sz := s.heap.size)
  generalize hAe : va_A [] s.heap.size = A at hD ⊢
  have hA : ∀ q : Nat, s.heap.size ≤ q → A q := fun q h => by rw [← hAe]; exact Or.inr h
  have hS : va_S A s.heap s.heap [] := va_S.rf
  have hP : va_P (dC, dI) crCl [] s.heap := hP
  have hl := lv_entry ([.int x, .int (nI i)]) (n := 2) (Nat.le_of_ble_eq_true rfl)
  rw [lg_entry_eq]
  generalize (lg_sl ([.int x, .int (nI i)]) ++ List.replicate (2 - (lg_sl ([.int x, .int (nI i)])).length) Slot.unset).toArray = ls at hl ⊢
  have hl : lv_has ls 2 [(0, .int x), (1, .int (nI i))] := hl
  rcases (show i = 1 ∨ i = 2 ∨ i = 3 ∨ i = 4 by omega) with rfl | rfl | rfl | rfl
  · refine lv_iload_n hx hb dX1_byteAt_0 rfl (lv_at hl 0 rfl) ?_
    refine lv_bipush (v := nI 32) hx hb dX1_byteAt_1 (by decide) ?_
    refine lv_bipush (v := nI 8) hx hb dX1_byteAt_3 (by decide) ?_
    refine lv_iload_n hx hb dX1_byteAt_5 rfl (lv_at hl 1 rfl) ?_
    refine lv_imul hx hb dX1_byteAt_6 ?_
    refine cr_top (y := nI 8) (by decide) ?_
    refine lv_isub hx hb dX1_byteAt_7 ?_
    refine cr_top (y := nI 24) (by decide) ?_
    refine lv_iushr (v := (x.toUInt32 >>> ((nI 24).toUInt32 &&& Int32.toUInt32 31)).toInt32) hx hb dX1_byteAt_8 (rfl) ?_
    refine lv_sipush (v := nI 255) hx hb dX1_byteAt_9 (by decide) ?_
    refine lv_iand hx hb dX1_byteAt_12 ?_
    refine cr_top (y := nI (cr_ba x 1)) (by rw [pk_and _ 8 (by decide), pk_ushr _ _ 24 (by decide)]; rfl) ?_
    exact W.iret (v := nI (cr_ba x 1)) hx hb hr (fun t9 ht9 hW9 => ⟨⟨nI (cr_ba x 1), [], rfl, ⟨rfl, rfl⟩, by rw [ht9]; exact hP, va_K.moved hW9.alike hK, hD⟩, hS.F ht9⟩) hS.2.2 dX1_byteAt_13
  · refine lv_iload_n hx hb dX1_byteAt_0 rfl (lv_at hl 0 rfl) ?_
    refine lv_bipush (v := nI 32) hx hb dX1_byteAt_1 (by decide) ?_
    refine lv_bipush (v := nI 8) hx hb dX1_byteAt_3 (by decide) ?_
    refine lv_iload_n hx hb dX1_byteAt_5 rfl (lv_at hl 1 rfl) ?_
    refine lv_imul hx hb dX1_byteAt_6 ?_
    refine cr_top (y := nI 16) (by decide) ?_
    refine lv_isub hx hb dX1_byteAt_7 ?_
    refine cr_top (y := nI 16) (by decide) ?_
    refine lv_iushr (v := (x.toUInt32 >>> ((nI 16).toUInt32 &&& Int32.toUInt32 31)).toInt32) hx hb dX1_byteAt_8 (rfl) ?_
    refine lv_sipush (v := nI 255) hx hb dX1_byteAt_9 (by decide) ?_
    refine lv_iand hx hb dX1_byteAt_12 ?_
    refine cr_top (y := nI (cr_ba x 2)) (by rw [pk_and _ 8 (by decide), pk_ushr _ _ 16 (by decide)]; rfl) ?_
    exact W.iret (v := nI (cr_ba x 2)) hx hb hr (fun t9 ht9 hW9 => ⟨⟨nI (cr_ba x 2), [], rfl, ⟨rfl, rfl⟩, by rw [ht9]; exact hP, va_K.moved hW9.alike hK, hD⟩, hS.F ht9⟩) hS.2.2 dX1_byteAt_13
  · refine lv_iload_n hx hb dX1_byteAt_0 rfl (lv_at hl 0 rfl) ?_
    refine lv_bipush (v := nI 32) hx hb dX1_byteAt_1 (by decide) ?_
    refine lv_bipush (v := nI 8) hx hb dX1_byteAt_3 (by decide) ?_
    refine lv_iload_n hx hb dX1_byteAt_5 rfl (lv_at hl 1 rfl) ?_
    refine lv_imul hx hb dX1_byteAt_6 ?_
    refine cr_top (y := nI 24) (by decide) ?_
    refine lv_isub hx hb dX1_byteAt_7 ?_
    refine cr_top (y := nI 8) (by decide) ?_
    refine lv_iushr (v := (x.toUInt32 >>> ((nI 8).toUInt32 &&& Int32.toUInt32 31)).toInt32) hx hb dX1_byteAt_8 (rfl) ?_
    refine lv_sipush (v := nI 255) hx hb dX1_byteAt_9 (by decide) ?_
    refine lv_iand hx hb dX1_byteAt_12 ?_
    refine cr_top (y := nI (cr_ba x 3)) (by rw [pk_and _ 8 (by decide), pk_ushr _ _ 8 (by decide)]; rfl) ?_
    exact W.iret (v := nI (cr_ba x 3)) hx hb hr (fun t9 ht9 hW9 => ⟨⟨nI (cr_ba x 3), [], rfl, ⟨rfl, rfl⟩, by rw [ht9]; exact hP, va_K.moved hW9.alike hK, hD⟩, hS.F ht9⟩) hS.2.2 dX1_byteAt_13
  · refine lv_iload_n hx hb dX1_byteAt_0 rfl (lv_at hl 0 rfl) ?_
    refine lv_bipush (v := nI 32) hx hb dX1_byteAt_1 (by decide) ?_
    refine lv_bipush (v := nI 8) hx hb dX1_byteAt_3 (by decide) ?_
    refine lv_iload_n hx hb dX1_byteAt_5 rfl (lv_at hl 1 rfl) ?_
    refine lv_imul hx hb dX1_byteAt_6 ?_
    refine cr_top (y := nI 32) (by decide) ?_
    refine lv_isub hx hb dX1_byteAt_7 ?_
    refine cr_top (y := nI 0) (by decide) ?_
    refine lv_iushr (v := (x.toUInt32 >>> ((nI 0).toUInt32 &&& Int32.toUInt32 31)).toInt32) hx hb dX1_byteAt_8 (rfl) ?_
    refine lv_sipush (v := nI 255) hx hb dX1_byteAt_9 (by decide) ?_
    refine lv_iand hx hb dX1_byteAt_12 ?_
    refine cr_top (y := nI (cr_ba x 4)) (by rw [pk_and _ 8 (by decide), pk_ushr _ _ 0 (by decide)]; rfl) ?_
    exact W.iret (v := nI (cr_ba x 4)) hx hb hr (fun t9 ht9 hW9 => ⟨⟨nI (cr_ba x 4), [], rfl, ⟨rfl, rfl⟩, by rw [ht9]; exact hP, va_K.moved hW9.alike hK, hD⟩, hS.F ht9⟩) hS.2.2 dX1_byteAt_13

set_option maxHeartbeats 4000000 in
set_option maxRecDepth 100000 in
theorem c_decode (l : Launch) (dC : Nat → ClassId) (dI : Nat → Nat → Nat) (sz : Nat) (x : Int32) (n0 : Nat) (h1 : 1 ≤ n0) (h4 : n0 ≤ 4) : Met l yX1_decode wsX1_decode ({ frames := 2, cells := 0, slots := 0, locals := 60 }) (va_Pc [.int x, .int (nI n0)] (cr_pre dC dI [] [] sz)) (va_Qi (fun (rr : Int32) (u : va_W) => u = [] ∧ rr = nI (cr_dec x n0)) (cr_at dC dI [] (va_A [] sz)) (va_A [] sz)) 0 0 (va_A [] sz) := by
  refine Met.ofW (cc := cX1_decode) (maxL := 4) (ret := (some .int)) (by decide) rfl ?_
  intro p e s m args below meth c s₁ B hml hv
  obtain ⟨rfl, hsz, hP, hK, hD0⟩ := hv
  have hx := B.exec
  have hb := B.bytes
  have hr := B.returns
  have hts := atoms_spec (ws := wsX1_decode) B.pre
  have hown : s.vm.findClass RX1 = some m.cls := findClass_of_methodNamed B.named
  have hlocks := B.notSynchronized
  subst hsz
  have hD := hD0.self (sz := s.heap.size)
  generalize hAe : va_A [] s.heap.size = A at hD ⊢
  have hA : ∀ q : Nat, s.heap.size ≤ q → A q := fun q h => by rw [← hAe]; exact Or.inr h
  have hS : va_S A s.heap s.heap [] := va_S.rf
  have hP : va_P (dC, dI) crCl [] s.heap := hP
  have hl := lv_entry ([.int x, .int (nI n0)]) (n := 4) (Nat.le_of_ble_eq_true rfl)
  rw [lg_entry_eq]
  generalize (lg_sl ([.int x, .int (nI n0)]) ++ List.replicate (4 - (lg_sl ([.int x, .int (nI n0)])).length) Slot.unset).toArray = ls at hl ⊢
  have hl : lv_has ls 4 [(0, .int x), (1, .int (nI n0))] := hl
  have hb1 := cr_ba_lt x 1
  have hb2 := cr_ba_lt x 2
  have hb3 := cr_ba_lt x 3
  have hb4 := cr_ba_lt x 4
  rcases (show n0 = 1 ∨ n0 = 2 ∨ n0 = 3 ∨ n0 = 4 by omega) with rfl | rfl | rfl | rfl
  · refine lv_iload_n hx hb dX1_decode_0 rfl (lv_at hl 0 rfl) ?_
    refine lv_iconst (v := nI 1) hx hb dX1_decode_1 (by decide) ?_
    have hPc := hP.sub (ws' := []) [] rfl
    have hDc := hD.sub (ws' := []) [] (by decide) rfl
    have hFc := va_free (wc := []) hD hS hA [] rfl
    refine va_calli (va_runS (As := [.int x, .int (nI 1)]) (rest := []) ⟨hx, hb, hml, hown, hts⟩ (c_byteAt l dC dI _ x 1 (by decide) (by decide)) (va_cwS 2 hts gX1_decode_X1_byteAt rfl rfl rfl (by decide +kernel) ⟨Nat.le_of_ble_eq_true rfl, Nat.le_of_ble_eq_true rfl⟩) (cr_preS hPc hK hDc) rfl rfl hl.1 rfl (lv_room (Nat.le_of_ble_eq_true rfl)) dX1_decode_2 ⟨Nat.zero_le _, Nat.zero_le _⟩) hS (fun q _ h => hFc q h) hFc (fun r_2 u_2 t_2 H_2 locs ht_2 hvm_2 hw_2 hB_2 hz_2 hk_2 hS => ?_)
    obtain ⟨rfl, rfl⟩ := hw_2
    obtain ⟨hP, hD⟩ := cr_back (wr := []) (w1 := []) hP hD [] [] rfl rfl (by decide) (by decide) hk_2 hFc hB_2 ht_2
    clear hPc hDc hFc
    generalize H_2 = H at hP hS ⊢
    have hP := hP.sub (ws' := []) [] rfl
    have hD := hD.sub (ws' := []) [] (by decide) rfl
    refine lv_istore_n (lv' := [(2, .int (nI (cr_ba x 1))), (0, .int x), (1, .int (nI 1))]) hx hb dX1_decode_5 rfl hl (by decide) rfl (fun ls hl => ?_)
    refine lv_iload_n hx hb dX1_decode_6 rfl (lv_at hl 2 rfl) ?_
    refine lv_iconst (v := nI 1) hx hb dX1_decode_7 (by decide) ?_
    refine lv_icmp_le (tgt := 21) hx hb dX1_decode_8 (by decide) (fun c_8 => ?_) (fun c_8 => ?_)
    · refine lv_iconst (v := nI 2) hx hb dX1_decode_21 (by decide) ?_
      refine lv_istore_n (lv' := [(3, .int (nI 2)), (2, .int (nI (cr_ba x 1))), (0, .int x), (1, .int (nI 1))]) hx hb dX1_decode_22 rfl hl (by decide) rfl (fun ls hl => ?_)
      refine lv_iload_n hx hb dX1_decode_23 rfl (lv_at hl 0 rfl) ?_
      refine lv_iload_n hx hb dX1_decode_24 rfl (lv_at hl 3 rfl) ?_
      refine lv_icmp_gt (tgt := 48) hx hb dX1_decode_25 (by decide) (fun c_25 => ?_) (fun c_25 => ?_)
      · refine lv_iload_n hx hb dX1_decode_48 rfl (lv_at hl 1 rfl) ?_
        exact W.iret (v := nI (cr_ba x 1)) hx hb hr (fun t9 ht9 hW9 => ⟨⟨nI (cr_ba x 1), [], rfl, ⟨rfl, rfl⟩, by rw [ht9]; exact hP, va_K.moved hW9.alike hK, hD⟩, hS.F ht9⟩) hS.2.2 dX1_decode_49
      · exact absurd (by decide) c_25
    · exact absurd (by decide) c_8
  · refine lv_iload_n hx hb dX1_decode_0 rfl (lv_at hl 0 rfl) ?_
    refine lv_iconst (v := nI 1) hx hb dX1_decode_1 (by decide) ?_
    have hPc := hP.sub (ws' := []) [] rfl
    have hDc := hD.sub (ws' := []) [] (by decide) rfl
    have hFc := va_free (wc := []) hD hS hA [] rfl
    refine va_calli (va_runS (As := [.int x, .int (nI 1)]) (rest := []) ⟨hx, hb, hml, hown, hts⟩ (c_byteAt l dC dI _ x 1 (by decide) (by decide)) (va_cwS 2 hts gX1_decode_X1_byteAt rfl rfl rfl (by decide +kernel) ⟨Nat.le_of_ble_eq_true rfl, Nat.le_of_ble_eq_true rfl⟩) (cr_preS hPc hK hDc) rfl rfl hl.1 rfl (lv_room (Nat.le_of_ble_eq_true rfl)) dX1_decode_2 ⟨Nat.zero_le _, Nat.zero_le _⟩) hS (fun q _ h => hFc q h) hFc (fun r_2 u_2 t_2 H_2 locs ht_2 hvm_2 hw_2 hB_2 hz_2 hk_2 hS => ?_)
    obtain ⟨rfl, rfl⟩ := hw_2
    obtain ⟨hP, hD⟩ := cr_back (wr := []) (w1 := []) hP hD [] [] rfl rfl (by decide) (by decide) hk_2 hFc hB_2 ht_2
    clear hPc hDc hFc
    generalize H_2 = H at hP hS ⊢
    have hP := hP.sub (ws' := []) [] rfl
    have hD := hD.sub (ws' := []) [] (by decide) rfl
    refine lv_istore_n (lv' := [(2, .int (nI (cr_ba x 1))), (0, .int x), (1, .int (nI 2))]) hx hb dX1_decode_5 rfl hl (by decide) rfl (fun ls hl => ?_)
    refine lv_iload_n hx hb dX1_decode_6 rfl (lv_at hl 2 rfl) ?_
    refine lv_iconst (v := nI 1) hx hb dX1_decode_7 (by decide) ?_
    refine lv_icmp_le (tgt := 21) hx hb dX1_decode_8 (by decide) (fun c_8 => ?_) (fun c_8 => ?_)
    · exact absurd c_8 (by decide)
    · refine lv_iload_n hx hb dX1_decode_11 rfl (lv_at hl 0 rfl) ?_
      refine lv_sipush (v := nI 255) hx hb dX1_decode_12 (by decide) ?_
      refine lv_iload_n hx hb dX1_decode_15 rfl (lv_at hl 2 rfl) ?_
      refine lv_iconst (v := nI 1) hx hb dX1_decode_16 (by decide) ?_
      refine lv_iadd hx hb dX1_decode_17 ?_
      refine cr_top (y := nI 3) (by decide) ?_
      refine lv_ishr hx hb dX1_decode_18 ?_
      refine cr_top (y := nI 31) (by decide) ?_
      refine lv_iand hx hb dX1_decode_19 ?_
      refine cr_top (y := nI (cr_ba x 1 % 32)) (pk_andN (by omega) 5 (by decide)) ?_
      refine lv_istore_n (lv' := [(2, .int (nI (cr_ba x 1 % 32))), (0, .int x), (1, .int (nI 2))]) hx hb dX1_decode_20 rfl hl (by decide) rfl (fun ls hl => ?_)
      refine lv_iconst (v := nI 2) hx hb dX1_decode_21 (by decide) ?_
      refine lv_istore_n (lv' := [(3, .int (nI 2)), (2, .int (nI (cr_ba x 1 % 32))), (0, .int x), (1, .int (nI 2))]) hx hb dX1_decode_22 rfl hl (by decide) rfl (fun ls hl => ?_)
      refine lv_iload_n hx hb dX1_decode_23 rfl (lv_at hl 0 rfl) ?_
      refine lv_iload_n hx hb dX1_decode_24 rfl (lv_at hl 3 rfl) ?_
      refine lv_icmp_gt (tgt := 48) hx hb dX1_decode_25 (by decide) (fun c_25 => ?_) (fun c_25 => ?_)
      · exact absurd c_25 (by decide)
      · refine lv_iload_n hx hb dX1_decode_28 rfl (lv_at hl 1 rfl) ?_
        refine lv_bipush (v := nI 6) hx hb dX1_decode_29 (by decide) ?_
        refine lv_ishl hx hb dX1_decode_31 ?_
        refine cr_top (y := nI ((cr_ba x 1 % 32) * 64)) (pk_shlN _ 6 (by decide) (by omega)) ?_
        refine lv_iload_n hx hb dX1_decode_32 rfl (lv_at hl 2 rfl) ?_
        refine lv_iload_n hx hb dX1_decode_33 rfl (lv_at hl 0 rfl) ?_
        have hPc := hP.sub (ws' := []) [] rfl
        have hDc := hD.sub (ws' := []) [] (by decide) rfl
        have hFc := va_free (wc := []) hD hS hA [] rfl
        refine va_calli (va_runS (As := [.int x, .int (nI 2)]) (rest := [.int (nI ((cr_ba x 1 % 32) * 64))]) ⟨hx, hb, hml, hown, hts⟩ (c_byteAt l dC dI _ x 2 (by decide) (by decide)) (va_cwS 2 hts gX1_decode_X1_byteAt rfl rfl rfl (by decide +kernel) ⟨Nat.le_of_ble_eq_true rfl, Nat.le_of_ble_eq_true rfl⟩) (cr_preS hPc hK hDc) rfl rfl hl.1 rfl (lv_room (Nat.le_of_ble_eq_true rfl)) dX1_decode_34 ⟨Nat.zero_le _, Nat.zero_le _⟩) hS (fun q _ h => hFc q h) hFc (fun r_34 u_34 t_34 H_34 locs ht_34 hvm_34 hw_34 hB_34 hz_34 hk_34 hS => ?_)
        obtain ⟨rfl, rfl⟩ := hw_34
        obtain ⟨hP, hD⟩ := cr_back (wr := []) (w1 := []) hP hD [] [] rfl rfl (by decide) (by decide) hk_34 hFc hB_34 ht_34
        clear hPc hDc hFc
        generalize H_34 = H at hP hS ⊢
        have hP := hP.sub (ws' := []) [] rfl
        have hD := hD.sub (ws' := []) [] (by decide) rfl
        refine lv_bipush (v := nI 63) hx hb dX1_decode_37 (by decide) ?_
        refine lv_iand hx hb dX1_decode_39 ?_
        refine cr_top (y := nI (cr_ba x 2 % 64)) (cr_and63 (by omega)) ?_
        refine lv_ior hx hb dX1_decode_40 ?_
        refine cr_top (y := nI ((cr_ba x 1 % 32) * 64 + cr_ba x 2 % 64)) (cr_or6 (by omega)) ?_
        refine lv_istore_n (lv' := [(2, .int (nI ((cr_ba x 1 % 32) * 64 + cr_ba x 2 % 64))), (3, .int (nI 2)), (0, .int x), (1, .int (nI 2))]) hx hb dX1_decode_41 rfl hl (by decide) rfl (fun ls hl => ?_)
        refine lv_iinc (v := nI 3) (lv' := [(3, .int (nI 3)), (2, .int (nI ((cr_ba x 1 % 32) * 64 + cr_ba x 2 % 64))), (0, .int x), (1, .int (nI 2))]) hx hb dX1_decode_42 hl (k := 1) rfl (by decide) (by decide) rfl (fun ls hl => ?_)
        refine lv_goto (tgt := 23) hx hb dX1_decode_45 (by decide) ?_
        refine lv_iload_n hx hb dX1_decode_23 rfl (lv_at hl 0 rfl) ?_
        refine lv_iload_n hx hb dX1_decode_24 rfl (lv_at hl 3 rfl) ?_
        refine lv_icmp_gt (tgt := 48) hx hb dX1_decode_25 (by decide) (fun c_25 => ?_) (fun c_25 => ?_)
        · refine lv_iload_n hx hb dX1_decode_48 rfl (lv_at hl 1 rfl) ?_
          exact W.iret (v := nI ((cr_ba x 1 % 32) * 64 + cr_ba x 2 % 64)) hx hb hr (fun t9 ht9 hW9 => ⟨⟨nI ((cr_ba x 1 % 32) * 64 + cr_ba x 2 % 64), [], rfl, ⟨rfl, rfl⟩, by rw [ht9]; exact hP, va_K.moved hW9.alike hK, hD⟩, hS.F ht9⟩) hS.2.2 dX1_decode_49
        · exact absurd (by decide) c_25
  · refine lv_iload_n hx hb dX1_decode_0 rfl (lv_at hl 0 rfl) ?_
    refine lv_iconst (v := nI 1) hx hb dX1_decode_1 (by decide) ?_
    have hPc := hP.sub (ws' := []) [] rfl
    have hDc := hD.sub (ws' := []) [] (by decide) rfl
    have hFc := va_free (wc := []) hD hS hA [] rfl
    refine va_calli (va_runS (As := [.int x, .int (nI 1)]) (rest := []) ⟨hx, hb, hml, hown, hts⟩ (c_byteAt l dC dI _ x 1 (by decide) (by decide)) (va_cwS 2 hts gX1_decode_X1_byteAt rfl rfl rfl (by decide +kernel) ⟨Nat.le_of_ble_eq_true rfl, Nat.le_of_ble_eq_true rfl⟩) (cr_preS hPc hK hDc) rfl rfl hl.1 rfl (lv_room (Nat.le_of_ble_eq_true rfl)) dX1_decode_2 ⟨Nat.zero_le _, Nat.zero_le _⟩) hS (fun q _ h => hFc q h) hFc (fun r_2 u_2 t_2 H_2 locs ht_2 hvm_2 hw_2 hB_2 hz_2 hk_2 hS => ?_)
    obtain ⟨rfl, rfl⟩ := hw_2
    obtain ⟨hP, hD⟩ := cr_back (wr := []) (w1 := []) hP hD [] [] rfl rfl (by decide) (by decide) hk_2 hFc hB_2 ht_2
    clear hPc hDc hFc
    generalize H_2 = H at hP hS ⊢
    have hP := hP.sub (ws' := []) [] rfl
    have hD := hD.sub (ws' := []) [] (by decide) rfl
    refine lv_istore_n (lv' := [(2, .int (nI (cr_ba x 1))), (0, .int x), (1, .int (nI 3))]) hx hb dX1_decode_5 rfl hl (by decide) rfl (fun ls hl => ?_)
    refine lv_iload_n hx hb dX1_decode_6 rfl (lv_at hl 2 rfl) ?_
    refine lv_iconst (v := nI 1) hx hb dX1_decode_7 (by decide) ?_
    refine lv_icmp_le (tgt := 21) hx hb dX1_decode_8 (by decide) (fun c_8 => ?_) (fun c_8 => ?_)
    · exact absurd c_8 (by decide)
    · refine lv_iload_n hx hb dX1_decode_11 rfl (lv_at hl 0 rfl) ?_
      refine lv_sipush (v := nI 255) hx hb dX1_decode_12 (by decide) ?_
      refine lv_iload_n hx hb dX1_decode_15 rfl (lv_at hl 2 rfl) ?_
      refine lv_iconst (v := nI 1) hx hb dX1_decode_16 (by decide) ?_
      refine lv_iadd hx hb dX1_decode_17 ?_
      refine cr_top (y := nI 4) (by decide) ?_
      refine lv_ishr hx hb dX1_decode_18 ?_
      refine cr_top (y := nI 15) (by decide) ?_
      refine lv_iand hx hb dX1_decode_19 ?_
      refine cr_top (y := nI (cr_ba x 1 % 16)) (pk_andN (by omega) 4 (by decide)) ?_
      refine lv_istore_n (lv' := [(2, .int (nI (cr_ba x 1 % 16))), (0, .int x), (1, .int (nI 3))]) hx hb dX1_decode_20 rfl hl (by decide) rfl (fun ls hl => ?_)
      refine lv_iconst (v := nI 2) hx hb dX1_decode_21 (by decide) ?_
      refine lv_istore_n (lv' := [(3, .int (nI 2)), (2, .int (nI (cr_ba x 1 % 16))), (0, .int x), (1, .int (nI 3))]) hx hb dX1_decode_22 rfl hl (by decide) rfl (fun ls hl => ?_)
      refine lv_iload_n hx hb dX1_decode_23 rfl (lv_at hl 0 rfl) ?_
      refine lv_iload_n hx hb dX1_decode_24 rfl (lv_at hl 3 rfl) ?_
      refine lv_icmp_gt (tgt := 48) hx hb dX1_decode_25 (by decide) (fun c_25 => ?_) (fun c_25 => ?_)
      · exact absurd c_25 (by decide)
      · refine lv_iload_n hx hb dX1_decode_28 rfl (lv_at hl 1 rfl) ?_
        refine lv_bipush (v := nI 6) hx hb dX1_decode_29 (by decide) ?_
        refine lv_ishl hx hb dX1_decode_31 ?_
        refine cr_top (y := nI ((cr_ba x 1 % 16) * 64)) (pk_shlN _ 6 (by decide) (by omega)) ?_
        refine lv_iload_n hx hb dX1_decode_32 rfl (lv_at hl 2 rfl) ?_
        refine lv_iload_n hx hb dX1_decode_33 rfl (lv_at hl 0 rfl) ?_
        have hPc := hP.sub (ws' := []) [] rfl
        have hDc := hD.sub (ws' := []) [] (by decide) rfl
        have hFc := va_free (wc := []) hD hS hA [] rfl
        refine va_calli (va_runS (As := [.int x, .int (nI 2)]) (rest := [.int (nI ((cr_ba x 1 % 16) * 64))]) ⟨hx, hb, hml, hown, hts⟩ (c_byteAt l dC dI _ x 2 (by decide) (by decide)) (va_cwS 2 hts gX1_decode_X1_byteAt rfl rfl rfl (by decide +kernel) ⟨Nat.le_of_ble_eq_true rfl, Nat.le_of_ble_eq_true rfl⟩) (cr_preS hPc hK hDc) rfl rfl hl.1 rfl (lv_room (Nat.le_of_ble_eq_true rfl)) dX1_decode_34 ⟨Nat.zero_le _, Nat.zero_le _⟩) hS (fun q _ h => hFc q h) hFc (fun r_34 u_34 t_34 H_34 locs ht_34 hvm_34 hw_34 hB_34 hz_34 hk_34 hS => ?_)
        obtain ⟨rfl, rfl⟩ := hw_34
        obtain ⟨hP, hD⟩ := cr_back (wr := []) (w1 := []) hP hD [] [] rfl rfl (by decide) (by decide) hk_34 hFc hB_34 ht_34
        clear hPc hDc hFc
        generalize H_34 = H at hP hS ⊢
        have hP := hP.sub (ws' := []) [] rfl
        have hD := hD.sub (ws' := []) [] (by decide) rfl
        refine lv_bipush (v := nI 63) hx hb dX1_decode_37 (by decide) ?_
        refine lv_iand hx hb dX1_decode_39 ?_
        refine cr_top (y := nI (cr_ba x 2 % 64)) (cr_and63 (by omega)) ?_
        refine lv_ior hx hb dX1_decode_40 ?_
        refine cr_top (y := nI ((cr_ba x 1 % 16) * 64 + cr_ba x 2 % 64)) (cr_or6 (by omega)) ?_
        refine lv_istore_n (lv' := [(2, .int (nI ((cr_ba x 1 % 16) * 64 + cr_ba x 2 % 64))), (3, .int (nI 2)), (0, .int x), (1, .int (nI 3))]) hx hb dX1_decode_41 rfl hl (by decide) rfl (fun ls hl => ?_)
        refine lv_iinc (v := nI 3) (lv' := [(3, .int (nI 3)), (2, .int (nI ((cr_ba x 1 % 16) * 64 + cr_ba x 2 % 64))), (0, .int x), (1, .int (nI 3))]) hx hb dX1_decode_42 hl (k := 1) rfl (by decide) (by decide) rfl (fun ls hl => ?_)
        refine lv_goto (tgt := 23) hx hb dX1_decode_45 (by decide) ?_
        refine lv_iload_n hx hb dX1_decode_23 rfl (lv_at hl 0 rfl) ?_
        refine lv_iload_n hx hb dX1_decode_24 rfl (lv_at hl 3 rfl) ?_
        refine lv_icmp_gt (tgt := 48) hx hb dX1_decode_25 (by decide) (fun c_25 => ?_) (fun c_25 => ?_)
        · exact absurd c_25 (by decide)
        · refine lv_iload_n hx hb dX1_decode_28 rfl (lv_at hl 1 rfl) ?_
          refine lv_bipush (v := nI 6) hx hb dX1_decode_29 (by decide) ?_
          refine lv_ishl hx hb dX1_decode_31 ?_
          refine cr_top (y := nI (((cr_ba x 1 % 16) * 64 + cr_ba x 2 % 64) * 64)) (pk_shlN _ 6 (by decide) (by omega)) ?_
          refine lv_iload_n hx hb dX1_decode_32 rfl (lv_at hl 2 rfl) ?_
          refine lv_iload_n hx hb dX1_decode_33 rfl (lv_at hl 0 rfl) ?_
          have hPc := hP.sub (ws' := []) [] rfl
          have hDc := hD.sub (ws' := []) [] (by decide) rfl
          have hFc := va_free (wc := []) hD hS hA [] rfl
          refine va_calli (va_runS (As := [.int x, .int (nI 3)]) (rest := [.int (nI (((cr_ba x 1 % 16) * 64 + cr_ba x 2 % 64) * 64))]) ⟨hx, hb, hml, hown, hts⟩ (c_byteAt l dC dI _ x 3 (by decide) (by decide)) (va_cwS 2 hts gX1_decode_X1_byteAt rfl rfl rfl (by decide +kernel) ⟨Nat.le_of_ble_eq_true rfl, Nat.le_of_ble_eq_true rfl⟩) (cr_preS hPc hK hDc) rfl rfl hl.1 rfl (lv_room (Nat.le_of_ble_eq_true rfl)) dX1_decode_34 ⟨Nat.zero_le _, Nat.zero_le _⟩) hS (fun q _ h => hFc q h) hFc (fun r_34 u_34 t_34 H_34 locs ht_34 hvm_34 hw_34 hB_34 hz_34 hk_34 hS => ?_)
          obtain ⟨rfl, rfl⟩ := hw_34
          obtain ⟨hP, hD⟩ := cr_back (wr := []) (w1 := []) hP hD [] [] rfl rfl (by decide) (by decide) hk_34 hFc hB_34 ht_34
          clear hPc hDc hFc
          generalize H_34 = H at hP hS ⊢
          have hP := hP.sub (ws' := []) [] rfl
          have hD := hD.sub (ws' := []) [] (by decide) rfl
          refine lv_bipush (v := nI 63) hx hb dX1_decode_37 (by decide) ?_
          refine lv_iand hx hb dX1_decode_39 ?_
          refine cr_top (y := nI (cr_ba x 3 % 64)) (cr_and63 (by omega)) ?_
          refine lv_ior hx hb dX1_decode_40 ?_
          refine cr_top (y := nI (((cr_ba x 1 % 16) * 64 + cr_ba x 2 % 64) * 64 + cr_ba x 3 % 64)) (cr_or6 (by omega)) ?_
          refine lv_istore_n (lv' := [(2, .int (nI (((cr_ba x 1 % 16) * 64 + cr_ba x 2 % 64) * 64 + cr_ba x 3 % 64))), (3, .int (nI 3)), (0, .int x), (1, .int (nI 3))]) hx hb dX1_decode_41 rfl hl (by decide) rfl (fun ls hl => ?_)
          refine lv_iinc (v := nI 4) (lv' := [(3, .int (nI 4)), (2, .int (nI (((cr_ba x 1 % 16) * 64 + cr_ba x 2 % 64) * 64 + cr_ba x 3 % 64))), (0, .int x), (1, .int (nI 3))]) hx hb dX1_decode_42 hl (k := 1) rfl (by decide) (by decide) rfl (fun ls hl => ?_)
          refine lv_goto (tgt := 23) hx hb dX1_decode_45 (by decide) ?_
          refine lv_iload_n hx hb dX1_decode_23 rfl (lv_at hl 0 rfl) ?_
          refine lv_iload_n hx hb dX1_decode_24 rfl (lv_at hl 3 rfl) ?_
          refine lv_icmp_gt (tgt := 48) hx hb dX1_decode_25 (by decide) (fun c_25 => ?_) (fun c_25 => ?_)
          · refine lv_iload_n hx hb dX1_decode_48 rfl (lv_at hl 1 rfl) ?_
            exact W.iret (v := nI (((cr_ba x 1 % 16) * 64 + cr_ba x 2 % 64) * 64 + cr_ba x 3 % 64)) hx hb hr (fun t9 ht9 hW9 => ⟨⟨nI (((cr_ba x 1 % 16) * 64 + cr_ba x 2 % 64) * 64 + cr_ba x 3 % 64), [], rfl, ⟨rfl, rfl⟩, by rw [ht9]; exact hP, va_K.moved hW9.alike hK, hD⟩, hS.F ht9⟩) hS.2.2 dX1_decode_49
          · exact absurd (by decide) c_25
  · refine lv_iload_n hx hb dX1_decode_0 rfl (lv_at hl 0 rfl) ?_
    refine lv_iconst (v := nI 1) hx hb dX1_decode_1 (by decide) ?_
    have hPc := hP.sub (ws' := []) [] rfl
    have hDc := hD.sub (ws' := []) [] (by decide) rfl
    have hFc := va_free (wc := []) hD hS hA [] rfl
    refine va_calli (va_runS (As := [.int x, .int (nI 1)]) (rest := []) ⟨hx, hb, hml, hown, hts⟩ (c_byteAt l dC dI _ x 1 (by decide) (by decide)) (va_cwS 2 hts gX1_decode_X1_byteAt rfl rfl rfl (by decide +kernel) ⟨Nat.le_of_ble_eq_true rfl, Nat.le_of_ble_eq_true rfl⟩) (cr_preS hPc hK hDc) rfl rfl hl.1 rfl (lv_room (Nat.le_of_ble_eq_true rfl)) dX1_decode_2 ⟨Nat.zero_le _, Nat.zero_le _⟩) hS (fun q _ h => hFc q h) hFc (fun r_2 u_2 t_2 H_2 locs ht_2 hvm_2 hw_2 hB_2 hz_2 hk_2 hS => ?_)
    obtain ⟨rfl, rfl⟩ := hw_2
    obtain ⟨hP, hD⟩ := cr_back (wr := []) (w1 := []) hP hD [] [] rfl rfl (by decide) (by decide) hk_2 hFc hB_2 ht_2
    clear hPc hDc hFc
    generalize H_2 = H at hP hS ⊢
    have hP := hP.sub (ws' := []) [] rfl
    have hD := hD.sub (ws' := []) [] (by decide) rfl
    refine lv_istore_n (lv' := [(2, .int (nI (cr_ba x 1))), (0, .int x), (1, .int (nI 4))]) hx hb dX1_decode_5 rfl hl (by decide) rfl (fun ls hl => ?_)
    refine lv_iload_n hx hb dX1_decode_6 rfl (lv_at hl 2 rfl) ?_
    refine lv_iconst (v := nI 1) hx hb dX1_decode_7 (by decide) ?_
    refine lv_icmp_le (tgt := 21) hx hb dX1_decode_8 (by decide) (fun c_8 => ?_) (fun c_8 => ?_)
    · exact absurd c_8 (by decide)
    · refine lv_iload_n hx hb dX1_decode_11 rfl (lv_at hl 0 rfl) ?_
      refine lv_sipush (v := nI 255) hx hb dX1_decode_12 (by decide) ?_
      refine lv_iload_n hx hb dX1_decode_15 rfl (lv_at hl 2 rfl) ?_
      refine lv_iconst (v := nI 1) hx hb dX1_decode_16 (by decide) ?_
      refine lv_iadd hx hb dX1_decode_17 ?_
      refine cr_top (y := nI 5) (by decide) ?_
      refine lv_ishr hx hb dX1_decode_18 ?_
      refine cr_top (y := nI 7) (by decide) ?_
      refine lv_iand hx hb dX1_decode_19 ?_
      refine cr_top (y := nI (cr_ba x 1 % 8)) (pk_andN (by omega) 3 (by decide)) ?_
      refine lv_istore_n (lv' := [(2, .int (nI (cr_ba x 1 % 8))), (0, .int x), (1, .int (nI 4))]) hx hb dX1_decode_20 rfl hl (by decide) rfl (fun ls hl => ?_)
      refine lv_iconst (v := nI 2) hx hb dX1_decode_21 (by decide) ?_
      refine lv_istore_n (lv' := [(3, .int (nI 2)), (2, .int (nI (cr_ba x 1 % 8))), (0, .int x), (1, .int (nI 4))]) hx hb dX1_decode_22 rfl hl (by decide) rfl (fun ls hl => ?_)
      refine lv_iload_n hx hb dX1_decode_23 rfl (lv_at hl 0 rfl) ?_
      refine lv_iload_n hx hb dX1_decode_24 rfl (lv_at hl 3 rfl) ?_
      refine lv_icmp_gt (tgt := 48) hx hb dX1_decode_25 (by decide) (fun c_25 => ?_) (fun c_25 => ?_)
      · exact absurd c_25 (by decide)
      · refine lv_iload_n hx hb dX1_decode_28 rfl (lv_at hl 1 rfl) ?_
        refine lv_bipush (v := nI 6) hx hb dX1_decode_29 (by decide) ?_
        refine lv_ishl hx hb dX1_decode_31 ?_
        refine cr_top (y := nI ((cr_ba x 1 % 8) * 64)) (pk_shlN _ 6 (by decide) (by omega)) ?_
        refine lv_iload_n hx hb dX1_decode_32 rfl (lv_at hl 2 rfl) ?_
        refine lv_iload_n hx hb dX1_decode_33 rfl (lv_at hl 0 rfl) ?_
        have hPc := hP.sub (ws' := []) [] rfl
        have hDc := hD.sub (ws' := []) [] (by decide) rfl
        have hFc := va_free (wc := []) hD hS hA [] rfl
        refine va_calli (va_runS (As := [.int x, .int (nI 2)]) (rest := [.int (nI ((cr_ba x 1 % 8) * 64))]) ⟨hx, hb, hml, hown, hts⟩ (c_byteAt l dC dI _ x 2 (by decide) (by decide)) (va_cwS 2 hts gX1_decode_X1_byteAt rfl rfl rfl (by decide +kernel) ⟨Nat.le_of_ble_eq_true rfl, Nat.le_of_ble_eq_true rfl⟩) (cr_preS hPc hK hDc) rfl rfl hl.1 rfl (lv_room (Nat.le_of_ble_eq_true rfl)) dX1_decode_34 ⟨Nat.zero_le _, Nat.zero_le _⟩) hS (fun q _ h => hFc q h) hFc (fun r_34 u_34 t_34 H_34 locs ht_34 hvm_34 hw_34 hB_34 hz_34 hk_34 hS => ?_)
        obtain ⟨rfl, rfl⟩ := hw_34
        obtain ⟨hP, hD⟩ := cr_back (wr := []) (w1 := []) hP hD [] [] rfl rfl (by decide) (by decide) hk_34 hFc hB_34 ht_34
        clear hPc hDc hFc
        generalize H_34 = H at hP hS ⊢
        have hP := hP.sub (ws' := []) [] rfl
        have hD := hD.sub (ws' := []) [] (by decide) rfl
        refine lv_bipush (v := nI 63) hx hb dX1_decode_37 (by decide) ?_
        refine lv_iand hx hb dX1_decode_39 ?_
        refine cr_top (y := nI (cr_ba x 2 % 64)) (cr_and63 (by omega)) ?_
        refine lv_ior hx hb dX1_decode_40 ?_
        refine cr_top (y := nI ((cr_ba x 1 % 8) * 64 + cr_ba x 2 % 64)) (cr_or6 (by omega)) ?_
        refine lv_istore_n (lv' := [(2, .int (nI ((cr_ba x 1 % 8) * 64 + cr_ba x 2 % 64))), (3, .int (nI 2)), (0, .int x), (1, .int (nI 4))]) hx hb dX1_decode_41 rfl hl (by decide) rfl (fun ls hl => ?_)
        refine lv_iinc (v := nI 3) (lv' := [(3, .int (nI 3)), (2, .int (nI ((cr_ba x 1 % 8) * 64 + cr_ba x 2 % 64))), (0, .int x), (1, .int (nI 4))]) hx hb dX1_decode_42 hl (k := 1) rfl (by decide) (by decide) rfl (fun ls hl => ?_)
        refine lv_goto (tgt := 23) hx hb dX1_decode_45 (by decide) ?_
        refine lv_iload_n hx hb dX1_decode_23 rfl (lv_at hl 0 rfl) ?_
        refine lv_iload_n hx hb dX1_decode_24 rfl (lv_at hl 3 rfl) ?_
        refine lv_icmp_gt (tgt := 48) hx hb dX1_decode_25 (by decide) (fun c_25 => ?_) (fun c_25 => ?_)
        · exact absurd c_25 (by decide)
        · refine lv_iload_n hx hb dX1_decode_28 rfl (lv_at hl 1 rfl) ?_
          refine lv_bipush (v := nI 6) hx hb dX1_decode_29 (by decide) ?_
          refine lv_ishl hx hb dX1_decode_31 ?_
          refine cr_top (y := nI (((cr_ba x 1 % 8) * 64 + cr_ba x 2 % 64) * 64)) (pk_shlN _ 6 (by decide) (by omega)) ?_
          refine lv_iload_n hx hb dX1_decode_32 rfl (lv_at hl 2 rfl) ?_
          refine lv_iload_n hx hb dX1_decode_33 rfl (lv_at hl 0 rfl) ?_
          have hPc := hP.sub (ws' := []) [] rfl
          have hDc := hD.sub (ws' := []) [] (by decide) rfl
          have hFc := va_free (wc := []) hD hS hA [] rfl
          refine va_calli (va_runS (As := [.int x, .int (nI 3)]) (rest := [.int (nI (((cr_ba x 1 % 8) * 64 + cr_ba x 2 % 64) * 64))]) ⟨hx, hb, hml, hown, hts⟩ (c_byteAt l dC dI _ x 3 (by decide) (by decide)) (va_cwS 2 hts gX1_decode_X1_byteAt rfl rfl rfl (by decide +kernel) ⟨Nat.le_of_ble_eq_true rfl, Nat.le_of_ble_eq_true rfl⟩) (cr_preS hPc hK hDc) rfl rfl hl.1 rfl (lv_room (Nat.le_of_ble_eq_true rfl)) dX1_decode_34 ⟨Nat.zero_le _, Nat.zero_le _⟩) hS (fun q _ h => hFc q h) hFc (fun r_34 u_34 t_34 H_34 locs ht_34 hvm_34 hw_34 hB_34 hz_34 hk_34 hS => ?_)
          obtain ⟨rfl, rfl⟩ := hw_34
          obtain ⟨hP, hD⟩ := cr_back (wr := []) (w1 := []) hP hD [] [] rfl rfl (by decide) (by decide) hk_34 hFc hB_34 ht_34
          clear hPc hDc hFc
          generalize H_34 = H at hP hS ⊢
          have hP := hP.sub (ws' := []) [] rfl
          have hD := hD.sub (ws' := []) [] (by decide) rfl
          refine lv_bipush (v := nI 63) hx hb dX1_decode_37 (by decide) ?_
          refine lv_iand hx hb dX1_decode_39 ?_
          refine cr_top (y := nI (cr_ba x 3 % 64)) (cr_and63 (by omega)) ?_
          refine lv_ior hx hb dX1_decode_40 ?_
          refine cr_top (y := nI (((cr_ba x 1 % 8) * 64 + cr_ba x 2 % 64) * 64 + cr_ba x 3 % 64)) (cr_or6 (by omega)) ?_
          refine lv_istore_n (lv' := [(2, .int (nI (((cr_ba x 1 % 8) * 64 + cr_ba x 2 % 64) * 64 + cr_ba x 3 % 64))), (3, .int (nI 3)), (0, .int x), (1, .int (nI 4))]) hx hb dX1_decode_41 rfl hl (by decide) rfl (fun ls hl => ?_)
          refine lv_iinc (v := nI 4) (lv' := [(3, .int (nI 4)), (2, .int (nI (((cr_ba x 1 % 8) * 64 + cr_ba x 2 % 64) * 64 + cr_ba x 3 % 64))), (0, .int x), (1, .int (nI 4))]) hx hb dX1_decode_42 hl (k := 1) rfl (by decide) (by decide) rfl (fun ls hl => ?_)
          refine lv_goto (tgt := 23) hx hb dX1_decode_45 (by decide) ?_
          refine lv_iload_n hx hb dX1_decode_23 rfl (lv_at hl 0 rfl) ?_
          refine lv_iload_n hx hb dX1_decode_24 rfl (lv_at hl 3 rfl) ?_
          refine lv_icmp_gt (tgt := 48) hx hb dX1_decode_25 (by decide) (fun c_25 => ?_) (fun c_25 => ?_)
          · exact absurd c_25 (by decide)
          · refine lv_iload_n hx hb dX1_decode_28 rfl (lv_at hl 1 rfl) ?_
            refine lv_bipush (v := nI 6) hx hb dX1_decode_29 (by decide) ?_
            refine lv_ishl hx hb dX1_decode_31 ?_
            refine cr_top (y := nI ((((cr_ba x 1 % 8) * 64 + cr_ba x 2 % 64) * 64 + cr_ba x 3 % 64) * 64)) (pk_shlN _ 6 (by decide) (by omega)) ?_
            refine lv_iload_n hx hb dX1_decode_32 rfl (lv_at hl 2 rfl) ?_
            refine lv_iload_n hx hb dX1_decode_33 rfl (lv_at hl 0 rfl) ?_
            have hPc := hP.sub (ws' := []) [] rfl
            have hDc := hD.sub (ws' := []) [] (by decide) rfl
            have hFc := va_free (wc := []) hD hS hA [] rfl
            refine va_calli (va_runS (As := [.int x, .int (nI 4)]) (rest := [.int (nI ((((cr_ba x 1 % 8) * 64 + cr_ba x 2 % 64) * 64 + cr_ba x 3 % 64) * 64))]) ⟨hx, hb, hml, hown, hts⟩ (c_byteAt l dC dI _ x 4 (by decide) (by decide)) (va_cwS 2 hts gX1_decode_X1_byteAt rfl rfl rfl (by decide +kernel) ⟨Nat.le_of_ble_eq_true rfl, Nat.le_of_ble_eq_true rfl⟩) (cr_preS hPc hK hDc) rfl rfl hl.1 rfl (lv_room (Nat.le_of_ble_eq_true rfl)) dX1_decode_34 ⟨Nat.zero_le _, Nat.zero_le _⟩) hS (fun q _ h => hFc q h) hFc (fun r_34 u_34 t_34 H_34 locs ht_34 hvm_34 hw_34 hB_34 hz_34 hk_34 hS => ?_)
            obtain ⟨rfl, rfl⟩ := hw_34
            obtain ⟨hP, hD⟩ := cr_back (wr := []) (w1 := []) hP hD [] [] rfl rfl (by decide) (by decide) hk_34 hFc hB_34 ht_34
            clear hPc hDc hFc
            generalize H_34 = H at hP hS ⊢
            have hP := hP.sub (ws' := []) [] rfl
            have hD := hD.sub (ws' := []) [] (by decide) rfl
            refine lv_bipush (v := nI 63) hx hb dX1_decode_37 (by decide) ?_
            refine lv_iand hx hb dX1_decode_39 ?_
            refine cr_top (y := nI (cr_ba x 4 % 64)) (cr_and63 (by omega)) ?_
            refine lv_ior hx hb dX1_decode_40 ?_
            refine cr_top (y := nI ((((cr_ba x 1 % 8) * 64 + cr_ba x 2 % 64) * 64 + cr_ba x 3 % 64) * 64 + cr_ba x 4 % 64)) (cr_or6 (by omega)) ?_
            refine lv_istore_n (lv' := [(2, .int (nI ((((cr_ba x 1 % 8) * 64 + cr_ba x 2 % 64) * 64 + cr_ba x 3 % 64) * 64 + cr_ba x 4 % 64))), (3, .int (nI 4)), (0, .int x), (1, .int (nI 4))]) hx hb dX1_decode_41 rfl hl (by decide) rfl (fun ls hl => ?_)
            refine lv_iinc (v := nI 5) (lv' := [(3, .int (nI 5)), (2, .int (nI ((((cr_ba x 1 % 8) * 64 + cr_ba x 2 % 64) * 64 + cr_ba x 3 % 64) * 64 + cr_ba x 4 % 64))), (0, .int x), (1, .int (nI 4))]) hx hb dX1_decode_42 hl (k := 1) rfl (by decide) (by decide) rfl (fun ls hl => ?_)
            refine lv_goto (tgt := 23) hx hb dX1_decode_45 (by decide) ?_
            refine lv_iload_n hx hb dX1_decode_23 rfl (lv_at hl 0 rfl) ?_
            refine lv_iload_n hx hb dX1_decode_24 rfl (lv_at hl 3 rfl) ?_
            refine lv_icmp_gt (tgt := 48) hx hb dX1_decode_25 (by decide) (fun c_25 => ?_) (fun c_25 => ?_)
            · refine lv_iload_n hx hb dX1_decode_48 rfl (lv_at hl 1 rfl) ?_
              exact W.iret (v := nI ((((cr_ba x 1 % 8) * 64 + cr_ba x 2 % 64) * 64 + cr_ba x 3 % 64) * 64 + cr_ba x 4 % 64)) hx hb hr (fun t9 ht9 hW9 => ⟨⟨nI ((((cr_ba x 1 % 8) * 64 + cr_ba x 2 % 64) * 64 + cr_ba x 3 % 64) * 64 + cr_ba x 4 % 64), [], rfl, ⟨rfl, rfl⟩, by rw [ht9]; exact hP, va_K.moved hW9.alike hK, hD⟩, hS.F ht9⟩) hS.2.2 dX1_decode_49
            · exact absurd (by decide) c_25

set_option maxHeartbeats 4000000 in
set_option maxRecDepth 100000 in
theorem c_startsWithBytesOf (l : Launch) (dC : Nat → ClassId) (dI : Nat → Nat → Nat) (sz : Nat) (c0 : Nat) (x : Int32) (n0 : Nat) (hL : cr_len c0 = n0) (hc : c0 ≤ 1114111) : Met l yX1_startsWithBytesOf wsX1_startsWithBytesOf ({ frames := 3, cells := 0, slots := 0, locals := 100 }) (va_Pc [.int (nI c0), .int x, .int (nI n0)] (cr_pre dC dI [] [] sz)) (va_Qi (fun (rr : Int32) (u : va_W) => u = [] ∧ cr_zb rr (∀ i, i < n0 → cr_by c0 i = cr_ba x (i + 1))) (cr_at dC dI [] (va_A [] sz)) (va_A [] sz)) 0 0 (va_A [] sz) := by
  refine Met.ofW (cc := cX1_startsWithBytesOf) (maxL := 4) (ret := (some .boolean)) (by decide) rfl ?_
  intro p e s m args below meth c s₁ B hml hv
  obtain ⟨rfl, hsz, hP, hK, hD0⟩ := hv
  have hx := B.exec
  have hb := B.bytes
  have hr := B.returns
  have hts := atoms_spec (ws := wsX1_startsWithBytesOf) B.pre
  have hown : s.vm.findClass RX1 = some m.cls := findClass_of_methodNamed B.named
  have hlocks := B.notSynchronized
  subst hsz
  have hD := hD0.self (sz := s.heap.size)
  generalize hAe : va_A [] s.heap.size = A at hD ⊢
  have hA : ∀ q : Nat, s.heap.size ≤ q → A q := fun q h => by rw [← hAe]; exact Or.inr h
  have hS : va_S A s.heap s.heap [] := va_S.rf
  have hP : va_P (dC, dI) crCl [] s.heap := hP
  have hl := lv_entry ([.int (nI c0), .int x, .int (nI n0)]) (n := 4) (Nat.le_of_ble_eq_true rfl)
  rw [lg_entry_eq]
  generalize (lg_sl ([.int (nI c0), .int x, .int (nI n0)]) ++ List.replicate (4 - (lg_sl ([.int (nI c0), .int x, .int (nI n0)])).length) Slot.unset).toArray = ls at hl ⊢
  have hl : lv_has ls 4 [(0, .int (nI c0)), (1, .int x), (2, .int (nI n0))] := hl
  have hin := cr_len_in c0
  refine lv_iconst (v := nI 1) hx hb dX1_startsWithBytesOf_0 (by decide) ?_
  refine lv_istore_n (lv' := [(3, .int (nI 1)), (0, .int (nI c0)), (1, .int x), (2, .int (nI n0))]) hx hb dX1_startsWithBytesOf_1 rfl hl (by decide) rfl (fun ls hl => ?_)
  refine cr_lp1 (fun (i : Nat) => n0 + 1 - i) (fun (i : Nat) H locs ls => (1 ≤ i ∧ i ≤ n0 + 1 ∧ ∀ j, j + 1 < i → cr_by c0 j = cr_ba x (j + 1)) ∧ va_P (dC, dI) crCl [] H ∧ va_D A [] ∧ va_S A s.heap H locs ∧ lv_has ls 4 [(0, .int (nI c0)), (1, .int x), (2, .int (nI n0)), (3, .int (nI i))]) ?_ 1 ⟨⟨Nat.le_refl _, by omega, fun j hj => absurd hj (by omega)⟩, hP, hD, hS, lv_sub hl [1, 2, 3, 0] rfl⟩
  intro i H locs ls hI2 ih2
  obtain ⟨⟨h1, h2, h3⟩, hP, hD, hS, hl⟩ := hI2
  refine lv_iload_n hx hb dX1_startsWithBytesOf_2 rfl (lv_at hl 3 rfl) ?_
  refine lv_iload_n hx hb dX1_startsWithBytesOf_3 rfl (lv_at hl 2 rfl) ?_
  refine lv_icmp_gt (tgt := 29) hx hb dX1_startsWithBytesOf_4 (by decide) (fun c_4 => ?_) (fun c_4 => ?_)
  · rw [nI_ltI (by omega) (by omega)] at c_4
    refine lv_iconst (v := nI 1) hx hb dX1_startsWithBytesOf_29 (by decide) ?_
    exact W.zret (v := nI 1) (ty := .boolean) hx hb hr (by first | rfl | decide) (fun t9 ht9 hW9 => ⟨⟨nI 1, [], rfl, ⟨rfl, Or.inl ⟨rfl, fun j hj => h3 j (by omega)⟩⟩, by rw [ht9]; exact hP, va_K.moved hW9.alike hK, hD⟩, hS.F ht9⟩) hS.2.2 dX1_startsWithBytesOf_30
  · rw [nI_ltI (by omega) (by omega)] at c_4
    refine lv_iload_n hx hb dX1_startsWithBytesOf_7 rfl (lv_at hl 0 rfl) ?_
    refine lv_iload_n hx hb dX1_startsWithBytesOf_8 rfl (lv_at hl 2 rfl) ?_
    refine lv_iload_n hx hb dX1_startsWithBytesOf_9 rfl (lv_at hl 3 rfl) ?_
    have hPc := hP.sub (ws' := []) [] rfl
    have hDc := hD.sub (ws' := []) [] (by decide) rfl
    have hFc := va_free (wc := []) hD hS hA [] rfl
    refine va_calli (va_runS (As := [.int (nI c0), .int (nI n0), .int (nI i)]) (rest := []) ⟨hx, hb, hml, hown, hts⟩ (c_byteOf l dC dI _ c0 n0 i hL hc (by omega) (by omega)) (va_cwS 3 hts gX1_startsWithBytesOf_X1_byteOf rfl rfl rfl (by decide +kernel) ⟨Nat.le_of_ble_eq_true rfl, Nat.le_of_ble_eq_true rfl⟩) (cr_preS hPc hK hDc) rfl rfl hl.1 rfl (lv_room (Nat.le_of_ble_eq_true rfl)) dX1_startsWithBytesOf_10 ⟨Nat.zero_le _, Nat.zero_le _⟩) hS (fun q _ h => hFc q h) hFc (fun r_10 u_10 t_10 H_10 locs ht_10 hvm_10 hw_10 hB_10 hz_10 hk_10 hS => ?_)
    obtain ⟨rfl, rfl⟩ := hw_10
    obtain ⟨hP, hD⟩ := cr_back (wr := []) (w1 := []) hP hD [] [] rfl rfl (by decide) (by decide) hk_10 hFc hB_10 ht_10
    clear hPc hDc hFc
    generalize H_10 = H at hP hS ⊢
    have hP := hP.sub (ws' := []) [] rfl
    have hD := hD.sub (ws' := []) [] (by decide) rfl
    refine lv_iload_n hx hb dX1_startsWithBytesOf_13 rfl (lv_at hl 1 rfl) ?_
    refine lv_iload_n hx hb dX1_startsWithBytesOf_14 rfl (lv_at hl 3 rfl) ?_
    have hPc := hP.sub (ws' := []) [] rfl
    have hDc := hD.sub (ws' := []) [] (by decide) rfl
    have hFc := va_free (wc := []) hD hS hA [] rfl
    refine va_calli (va_runS (As := [.int x, .int (nI i)]) (rest := [.int (nI (cr_by c0 (i - 1)))]) ⟨hx, hb, hml, hown, hts⟩ (c_byteAt l dC dI _ x i (by omega) (by omega)) (va_cwS 2 hts gX1_startsWithBytesOf_X1_byteAt rfl rfl rfl (by decide +kernel) ⟨Nat.le_of_ble_eq_true rfl, Nat.le_of_ble_eq_true rfl⟩) (cr_preS hPc hK hDc) rfl rfl hl.1 rfl (lv_room (Nat.le_of_ble_eq_true rfl)) dX1_startsWithBytesOf_15 ⟨Nat.zero_le _, Nat.zero_le _⟩) hS (fun q _ h => hFc q h) hFc (fun r_15 u_15 t_15 H_15 locs ht_15 hvm_15 hw_15 hB_15 hz_15 hk_15 hS => ?_)
    obtain ⟨rfl, rfl⟩ := hw_15
    obtain ⟨hP, hD⟩ := cr_back (wr := []) (w1 := []) hP hD [] [] rfl rfl (by decide) (by decide) hk_15 hFc hB_15 ht_15
    clear hPc hDc hFc
    generalize H_15 = H at hP hS ⊢
    have hP := hP.sub (ws' := []) [] rfl
    have hD := hD.sub (ws' := []) [] (by decide) rfl
    refine lv_icmp_eq (tgt := 23) hx hb dX1_startsWithBytesOf_18 (by decide) (fun c_18 => ?_) (fun c_18 => ?_)
    · have hq1 := cr_ba_lt x i
      have hq2 := cr_by_lt c0 (i - 1) hc
      rw [nI_eq (by omega) (by omega)] at c_18
      refine lv_iinc (v := nI (i + 1)) (lv' := [(3, .int (nI (i + 1))), (0, .int (nI c0)), (1, .int x), (2, .int (nI n0))]) hx hb dX1_startsWithBytesOf_23 hl (k := 3) rfl (nI_add i 1) (by decide) rfl (fun ls hl => ?_)
      refine lv_goto (tgt := 2) hx hb dX1_startsWithBytesOf_26 (by decide) ?_
      exact ih2 (i + 1) _ _ _ ⟨⟨by omega, by omega, cr_starts h1 h3 c_18⟩, hP, hD, hS, lv_sub hl [1, 2, 3, 0] rfl⟩ (by omega)
    · have hq1 := cr_ba_lt x i
      have hq2 := cr_by_lt c0 (i - 1) hc
      rw [nI_eq (by omega) (by omega)] at c_18
      refine lv_iconst (v := nI 0) hx hb dX1_startsWithBytesOf_21 (by decide) ?_
      exact W.zret (v := nI 0) (ty := .boolean) hx hb hr (by first | rfl | decide) (fun t9 ht9 hW9 => ⟨⟨nI 0, [], rfl, ⟨rfl, Or.inr ⟨rfl, fun hall => c_18 (by have := hall (i - 1) (by omega); rw [show i - 1 + 1 = i from (by omega)] at this; exact this)⟩⟩, by rw [ht9]; exact hP, va_K.moved hW9.alike hK, hD⟩, hS.F ht9⟩) hS.2.2 dX1_startsWithBytesOf_22

