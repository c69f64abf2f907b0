set_option maxHeartbeats 4000000 in
set_option maxRecDepth 100000 in
theorem m_length (l : Launch) (dC : Nat → ClassId) (dI : Nat → Nat → Nat) (sz : Nat) (c0 : Nat) (hc : c0 < 2 ^ 31) : Met l yM_length wsM_length ({ frames := 1, cells := 0, slots := 0, locals := 20 }) (va_Pc [.int (nI c0)] (cr_pre dC dI [] [] sz)) (va_Qi (fun (rr : Int32) (u : va_W) => u = [] ∧ rr = nI (cr_len c0)) (cr_at dC dI [] (va_A [] sz)) (va_A [] sz)) 0 0 (va_A [] sz) := by
  refine Met.ofW (cc := cM_length) (maxL := 1) (ret := (some .int)) (by decide) rfl ?_
  intro p e s m args below meth c s₁ B hml hv
  obtain ⟨rfl, hsz, hP, hK, hD0⟩ := hv
  have hx := B.exec
  have hb := B.bytes
  have hr := B.returns
  have hts := atoms_spec (ws := wsM_length) B.pre
  have hown : s.vm.findClass RX2 = some m.cls := findClass_of_methodNamed B.named
  have hlocks := B.notSynchronized
  subst hsz
  have hD := hD0.self (sz := s.heap.size)
  generalize hAe : va_A [] s.heap.size = A at hD ⊢
  have hA : ∀ q : Nat, s.heap.size ≤ q → A q := fun q h => by rw [← hAe]; exact Or.inr h
  have hS : va_S A s.heap s.heap [] := va_S.rf
  have hP : va_P (dC, dI) crCl [] s.heap := hP
  have hl := lv_entry ([.int (nI c0)]) (n := 1) (Nat.le_of_ble_eq_true rfl)
  rw [lg_entry_eq]
  generalize (lg_sl ([.int (nI c0)]) ++ List.replicate (1 - (lg_sl ([.int (nI c0)])).length) Slot.unset).toArray = ls at hl ⊢
  have hl : lv_has ls 1 [(0, .int (nI c0))] := hl
  refine lv_iload_n hx hb dM_length_0 rfl (lv_at hl 0 rfl) ?_
  refine lv_sipush (v := nI 128) hx hb dM_length_1 (by decide) ?_
  refine lv_icmp_ge (tgt := 11) hx hb dM_length_4 (by decide) (fun c_4 => ?_) (fun c_4 => ?_)
  · rw [nI_leI (by omega) (by omega)] at c_4
    refine lv_iload_n hx hb dM_length_11 rfl (lv_at hl 0 rfl) ?_
    refine lv_sipush (v := nI 2048) hx hb dM_length_12 (by decide) ?_
    refine lv_icmp_ge (tgt := 22) hx hb dM_length_15 (by decide) (fun c_15 => ?_) (fun c_15 => ?_)
    · rw [nI_leI (by omega) (by omega)] at c_15
      refine lv_iload_n hx hb dM_length_22 rfl (lv_at hl 0 rfl) ?_
      refine lv_ldc (v := nI 65536) hx hb hown (hts (.constant RX2 74 (nI 65536)) (by decide +kernel)) dM_length_23 ?_
      refine lv_icmp_ge (tgt := 32) hx hb dM_length_25 (by decide) (fun c_25 => ?_) (fun c_25 => ?_)
      · rw [nI_leI (by omega) (by omega)] at c_25
        refine lv_iconst (v := nI 4) hx hb dM_length_32 (by decide) ?_
        exact W.iret (v := nI 4) hx hb hr (fun t9 ht9 hW9 => ⟨⟨nI 4, [], rfl, ⟨rfl, by rw [cr_len_eq4 (by omega)]⟩, by rw [ht9]; exact hP, va_K.moved hW9.alike hK, hD⟩, hS.F ht9⟩) hS.2.2 dM_length_33
      · rw [nI_leI (by omega) (by omega)] at c_25
        refine lv_iconst (v := nI 3) hx hb dM_length_28 (by decide) ?_
        refine lv_goto (tgt := 33) hx hb dM_length_29 (by decide) ?_
        exact W.iret (v := nI 3) hx hb hr (fun t9 ht9 hW9 => ⟨⟨nI 3, [], rfl, ⟨rfl, by rw [cr_len_eq3 (by omega) (by omega)]⟩, by rw [ht9]; exact hP, va_K.moved hW9.alike hK, hD⟩, hS.F ht9⟩) hS.2.2 dM_length_33
    · rw [nI_leI (by omega) (by omega)] at c_15
      refine lv_iconst (v := nI 2) hx hb dM_length_18 (by decide) ?_
      refine lv_goto (tgt := 33) hx hb dM_length_19 (by decide) ?_
      exact W.iret (v := nI 2) hx hb hr (fun t9 ht9 hW9 => ⟨⟨nI 2, [], rfl, ⟨rfl, by rw [cr_len_eq2 (by omega) (by omega)]⟩, by rw [ht9]; exact hP, va_K.moved hW9.alike hK, hD⟩, hS.F ht9⟩) hS.2.2 dM_length_33
  · rw [nI_leI (by omega) (by omega)] at c_4
    refine lv_iconst (v := nI 1) hx hb dM_length_7 (by decide) ?_
    refine lv_goto (tgt := 33) hx hb dM_length_8 (by decide) ?_
    exact W.iret (v := nI 1) hx hb hr (fun t9 ht9 hW9 => ⟨⟨nI 1, [], rfl, ⟨rfl, by rw [cr_len_eq1 (by omega)]⟩, by rw [ht9]; exact hP, va_K.moved hW9.alike hK, hD⟩, hS.F ht9⟩) hS.2.2 dM_length_33

set_option maxHeartbeats 4000000 in
set_option maxRecDepth 100000 in
theorem m_byteOf (l : Launch) (dC : Nat → ClassId) (dI : Nat → Nat → Nat) (sz : Nat) (c0 i : Nat) (hc : c0 ≤ 1114111) (h4 : i < cr_len c0) : Met l yM_byteOf wsM_byteOf ({ frames := 2, cells := 0, slots := 0, locals := 60 }) (va_Pc [.int (nI c0), .int (nI i)] (cr_pre dC dI [] [] sz)) (va_Qi (fun (rr : Int32) (u : va_W) => u = [] ∧ rr = nI (cr_by c0 i)) (cr_at dC dI [] (va_A [] sz)) (va_A [] sz)) 0 0 (va_A [] sz) := by
  refine Met.ofW (cc := cM_byteOf) (maxL := 4) (ret := (some .int)) (by decide) rfl ?_
  intro p e s m args below meth c s₁ B hml hv
  obtain ⟨rfl, hsz, hP, hK, hD0⟩ := hv
  have hx := B.exec
  have hb := B.bytes
  have hr := B.returns
  have hts := atoms_spec (ws := wsM_byteOf) B.pre
  have hown : s.vm.findClass RX2 = some m.cls := findClass_of_methodNamed B.named
  have hlocks := B.notSynchronized
  subst hsz
  have hD := hD0.self (sz := s.heap.size)
  generalize hAe : va_A [] s.heap.size = A at hD ⊢
  have hA : ∀ q : Nat, s.heap.size ≤ q → A q := fun q h => by rw [← hAe]; exact Or.inr h
  have hS : va_S A s.heap s.heap [] := va_S.rf
  have hP : va_P (dC, dI) crCl [] s.heap := hP
  have hl := lv_entry ([.int (nI c0), .int (nI i)]) (n := 4) (Nat.le_of_ble_eq_true rfl)
  rw [lg_entry_eq]
  generalize (lg_sl ([.int (nI c0), .int (nI i)]) ++ List.replicate (4 - (lg_sl ([.int (nI c0), .int (nI i)])).length) Slot.unset).toArray = ls at hl ⊢
  have hl : lv_has ls 4 [(0, .int (nI c0)), (1, .int (nI i))] := hl
  have hin := cr_len_in c0
  refine lv_iload_n hx hb dM_byteOf_0 rfl (lv_at hl 0 rfl) ?_
  have hPc := hP.sub (ws' := []) [] rfl
  have hDc := hD.sub (ws' := []) [] (by decide) rfl
  have hFc := va_free (wc := []) hD hS hA [] rfl
  refine va_calli (va_runS (As := [.int (nI c0)]) (rest := []) ⟨hx, hb, hml, hown, hts⟩ (m_length l dC dI _ c0 (by omega)) (va_cwS 1 hts gM_byteOf_M_length rfl rfl rfl (by decide +kernel) ⟨Nat.le_of_ble_eq_true rfl, Nat.le_of_ble_eq_true rfl⟩) (cr_preS hPc hK hDc) rfl rfl hl.1 rfl (lv_room (Nat.le_of_ble_eq_true rfl)) dM_byteOf_1 ⟨Nat.zero_le _, Nat.zero_le _⟩) hS (fun q _ h => hFc q h) hFc (fun r_1 u_1 t_1 H_1 locs ht_1 hvm_1 hw_1 hB_1 hz_1 hk_1 hS => ?_)
  obtain ⟨rfl, rfl⟩ := hw_1
  obtain ⟨hP, hD⟩ := cr_back (wr := []) (w1 := []) hP hD [] [] rfl rfl (by decide) (by decide) hk_1 hFc hB_1 ht_1
  clear hPc hDc hFc
  generalize H_1 = H at hP hS ⊢
  have hP := hP.sub (ws' := []) [] rfl
  have hD := hD.sub (ws' := []) [] (by decide) rfl
  refine lv_istore_n (lv' := [(2, .int (nI (cr_len c0))), (0, .int (nI c0)), (1, .int (nI i))]) hx hb dM_byteOf_4 rfl hl (by decide) rfl (fun ls hl => ?_)
  rcases (show (cr_len c0 = 1 ∧ i = 0) ∨ (cr_len c0 = 2 ∧ i = 0) ∨ (cr_len c0 = 2 ∧ i = 1) ∨ (cr_len c0 = 3 ∧ i = 0) ∨ (cr_len c0 = 3 ∧ i = 1) ∨ (cr_len c0 = 3 ∧ i = 2) ∨ (cr_len c0 = 4 ∧ i = 0) ∨ (cr_len c0 = 4 ∧ i = 1) ∨ (cr_len c0 = 4 ∧ i = 2) ∨ (cr_len c0 = 4 ∧ i = 3) by omega) with ⟨hL, rfl⟩ | ⟨hL, rfl⟩ | ⟨hL, rfl⟩ | ⟨hL, rfl⟩ | ⟨hL, rfl⟩ | ⟨hL, rfl⟩ | ⟨hL, rfl⟩ | ⟨hL, rfl⟩ | ⟨hL, rfl⟩ | ⟨hL, rfl⟩
  · rw [hL] at hl
    refine lv_iload_n hx hb dM_byteOf_5 rfl (lv_at hl 1 rfl) ?_
    refine lv_bipush (v := nI 6) hx hb dM_byteOf_6 (by decide) ?_
    refine lv_iload_n hx hb dM_byteOf_8 rfl (lv_at hl 0 rfl) ?_
    refine lv_iconst (v := nI 1) hx hb dM_byteOf_9 (by decide) ?_
    refine lv_isub hx hb dM_byteOf_10 ?_
    refine cr_top (y := nI 0) (by decide) ?_
    refine lv_iload_n hx hb dM_byteOf_11 rfl (lv_at hl 2 rfl) ?_
    refine lv_isub hx hb dM_byteOf_12 ?_
    refine cr_top (y := nI 0) (by decide) ?_
    refine lv_imul hx hb dM_byteOf_13 ?_
    refine cr_top (y := nI 0) (by decide) ?_
    refine lv_ishr hx hb dM_byteOf_14 ?_
    refine cr_top (y := nI c0) ((pk_shrN (by omega) _ 0 (by decide)).trans (by simp)) ?_
    refine lv_istore_n (lv' := [(3, .int (nI c0)), (2, .int (nI 1)), (0, .int (nI c0)), (1, .int (nI 0))]) hx hb dM_byteOf_15 rfl hl (by decide) rfl (fun ls hl => ?_)
    refine lv_iload_n hx hb dM_byteOf_16 rfl (lv_at hl 3 rfl) ?_
    refine lv_if_le (tgt := 29) hx hb dM_byteOf_17 (by decide) (fun c_17 => ?_) (fun c_17 => ?_)
    · refine lv_iload_n hx hb dM_byteOf_29 rfl (lv_at hl 1 rfl) ?_
      refine lv_iconst (v := nI 1) hx hb dM_byteOf_30 (by decide) ?_
      refine lv_icmp_ne (tgt := 38) hx hb dM_byteOf_31 (by decide) (fun c_31 => ?_) (fun c_31 => ?_)
      · exact absurd (by decide) c_31
      · refine lv_iload_n hx hb dM_byteOf_34 rfl (lv_at hl 2 rfl) ?_
        refine lv_goto (tgt := 69) hx hb dM_byteOf_35 (by decide) ?_
        exact W.iret (v := nI c0) hx hb hr (fun t9 ht9 hW9 => ⟨⟨nI c0, [], rfl, ⟨rfl, by rw [cr_by1 (by omega)]⟩, by rw [ht9]; exact hP, va_K.moved hW9.alike hK, hD⟩, hS.F ht9⟩) hS.2.2 dM_byteOf_69
    · exact absurd (by decide) c_17
  · rw [hL] at hl
    refine lv_iload_n hx hb dM_byteOf_5 rfl (lv_at hl 1 rfl) ?_
    refine lv_bipush (v := nI 6) hx hb dM_byteOf_6 (by decide) ?_
    refine lv_iload_n hx hb dM_byteOf_8 rfl (lv_at hl 0 rfl) ?_
    refine lv_iconst (v := nI 1) hx hb dM_byteOf_9 (by decide) ?_
    refine lv_isub hx hb dM_byteOf_10 ?_
    refine cr_top (y := nI 1) (by decide) ?_
    refine lv_iload_n hx hb dM_byteOf_11 rfl (lv_at hl 2 rfl) ?_
    refine lv_isub hx hb dM_byteOf_12 ?_
    refine cr_top (y := nI 1) (by decide) ?_
    refine lv_imul hx hb dM_byteOf_13 ?_
    refine cr_top (y := nI 6) (by decide) ?_
    refine lv_ishr hx hb dM_byteOf_14 ?_
    refine cr_top (y := nI (c0 / 64)) (pk_shrN (by omega) _ 6 (by decide)) ?_
    refine lv_istore_n (lv' := [(3, .int (nI (c0 / 64))), (2, .int (nI 2)), (0, .int (nI c0)), (1, .int (nI 0))]) hx hb dM_byteOf_15 rfl hl (by decide) rfl (fun ls hl => ?_)
    refine lv_iload_n hx hb dM_byteOf_16 rfl (lv_at hl 3 rfl) ?_
    refine lv_if_le (tgt := 29) hx hb dM_byteOf_17 (by decide) (fun c_17 => ?_) (fun c_17 => ?_)
    · refine lv_iload_n hx hb dM_byteOf_29 rfl (lv_at hl 1 rfl) ?_
      refine lv_iconst (v := nI 1) hx hb dM_byteOf_30 (by decide) ?_
      refine lv_icmp_ne (tgt := 38) hx hb dM_byteOf_31 (by decide) (fun c_31 => ?_) (fun c_31 => ?_)
      · refine lv_iload_n hx hb dM_byteOf_38 rfl (lv_at hl 1 rfl) ?_
        refine lv_iconst (v := nI 2) hx hb dM_byteOf_39 (by decide) ?_
        refine lv_icmp_ne (tgt := 51) hx hb dM_byteOf_40 (by decide) (fun c_40 => ?_) (fun c_40 => ?_)
        · exact absurd (by decide) c_40
        · refine lv_sipush (v := nI 192) hx hb dM_byteOf_43 (by decide) ?_
          refine lv_iload_n hx hb dM_byteOf_46 rfl (lv_at hl 0 rfl) ?_
          refine lv_ior hx hb dM_byteOf_47 ?_
          refine cr_top (y := nI (192 + c0 / 64)) (cr_orlead2 (by omega)) ?_
          refine lv_goto (tgt := 69) hx hb dM_byteOf_48 (by decide) ?_
          exact W.iret (v := nI (192 + c0 / 64)) hx hb hr (fun t9 ht9 hW9 => ⟨⟨nI (192 + c0 / 64), [], rfl, ⟨rfl, by rw [(cr_by2 (by omega) (by omega)).1]⟩, by rw [ht9]; exact hP, va_K.moved hW9.alike hK, hD⟩, hS.F ht9⟩) hS.2.2 dM_byteOf_69
      · exact absurd c_31 (by decide)
    · exact absurd (by decide) c_17
  · rw [hL] at hl
    refine lv_iload_n hx hb dM_byteOf_5 rfl (lv_at hl 1 rfl) ?_
    refine lv_bipush (v := nI 6) hx hb dM_byteOf_6 (by decide) ?_
    refine lv_iload_n hx hb dM_byteOf_8 rfl (lv_at hl 0 rfl) ?_
    refine lv_iconst (v := nI 1) hx hb dM_byteOf_9 (by decide) ?_
    refine lv_isub hx hb dM_byteOf_10 ?_
    refine cr_top (y := nI 1) (by decide) ?_
    refine lv_iload_n hx hb dM_byteOf_11 rfl (lv_at hl 2 rfl) ?_
    refine lv_isub hx hb dM_byteOf_12 ?_
    refine cr_top (y := nI 0) (by decide) ?_
    refine lv_imul hx hb dM_byteOf_13 ?_
    refine cr_top (y := nI 0) (by decide) ?_
    refine lv_ishr hx hb dM_byteOf_14 ?_
    refine cr_top (y := nI c0) ((pk_shrN (by omega) _ 0 (by decide)).trans (by simp)) ?_
    refine lv_istore_n (lv' := [(3, .int (nI c0)), (2, .int (nI 2)), (0, .int (nI c0)), (1, .int (nI 1))]) hx hb dM_byteOf_15 rfl hl (by decide) rfl (fun ls hl => ?_)
    refine lv_iload_n hx hb dM_byteOf_16 rfl (lv_at hl 3 rfl) ?_
    refine lv_if_le (tgt := 29) hx hb dM_byteOf_17 (by decide) (fun c_17 => ?_) (fun c_17 => ?_)
    · exact absurd c_17 (by decide)
    · refine lv_sipush (v := nI 128) hx hb dM_byteOf_20 (by decide) ?_
      refine lv_iload_n hx hb dM_byteOf_23 rfl (lv_at hl 0 rfl) ?_
      refine lv_bipush (v := nI 63) hx hb dM_byteOf_24 (by decide) ?_
      refine lv_iand hx hb dM_byteOf_26 ?_
      refine cr_top (y := nI (c0 % 64)) (cr_and63 (by omega)) ?_
      refine lv_ior hx hb dM_byteOf_27 ?_
      refine cr_top (y := nI (128 + c0 % 64)) (cr_or128 (by omega)) ?_
      exact W.iret (v := nI (128 + c0 % 64)) hx hb hr (fun t9 ht9 hW9 => ⟨⟨nI (128 + c0 % 64), [], rfl, ⟨rfl, by rw [(cr_by2 (by omega) (by omega)).2]⟩, by rw [ht9]; exact hP, va_K.moved hW9.alike hK, hD⟩, hS.F ht9⟩) hS.2.2 dM_byteOf_28
  · rw [hL] at hl
    refine lv_iload_n hx hb dM_byteOf_5 rfl (lv_at hl 1 rfl) ?_
    refine lv_bipush (v := nI 6) hx hb dM_byteOf_6 (by decide) ?_
    refine lv_iload_n hx hb dM_byteOf_8 rfl (lv_at hl 0 rfl) ?_
    refine lv_iconst (v := nI 1) hx hb dM_byteOf_9 (by decide) ?_
    refine lv_isub hx hb dM_byteOf_10 ?_
    refine cr_top (y := nI 2) (by decide) ?_
    refine lv_iload_n hx hb dM_byteOf_11 rfl (lv_at hl 2 rfl) ?_
    refine lv_isub hx hb dM_byteOf_12 ?_
    refine cr_top (y := nI 2) (by decide) ?_
    refine lv_imul hx hb dM_byteOf_13 ?_
    refine cr_top (y := nI 12) (by decide) ?_
    refine lv_ishr hx hb dM_byteOf_14 ?_
    refine cr_top (y := nI (c0 / 4096)) (pk_shrN (by omega) _ 12 (by decide)) ?_
    refine lv_istore_n (lv' := [(3, .int (nI (c0 / 4096))), (2, .int (nI 3)), (0, .int (nI c0)), (1, .int (nI 0))]) hx hb dM_byteOf_15 rfl hl (by decide) rfl (fun ls hl => ?_)
    refine lv_iload_n hx hb dM_byteOf_16 rfl (lv_at hl 3 rfl) ?_
    refine lv_if_le (tgt := 29) hx hb dM_byteOf_17 (by decide) (fun c_17 => ?_) (fun c_17 => ?_)
    · refine lv_iload_n hx hb dM_byteOf_29 rfl (lv_at hl 1 rfl) ?_
      refine lv_iconst (v := nI 1) hx hb dM_byteOf_30 (by decide) ?_
      refine lv_icmp_ne (tgt := 38) hx hb dM_byteOf_31 (by decide) (fun c_31 => ?_) (fun c_31 => ?_)
      · refine lv_iload_n hx hb dM_byteOf_38 rfl (lv_at hl 1 rfl) ?_
        refine lv_iconst (v := nI 2) hx hb dM_byteOf_39 (by decide) ?_
        refine lv_icmp_ne (tgt := 51) hx hb dM_byteOf_40 (by decide) (fun c_40 => ?_) (fun c_40 => ?_)
        · refine lv_iload_n hx hb dM_byteOf_51 rfl (lv_at hl 1 rfl) ?_
          refine lv_iconst (v := nI 3) hx hb dM_byteOf_52 (by decide) ?_
          refine lv_icmp_ne (tgt := 64) hx hb dM_byteOf_53 (by decide) (fun c_53 => ?_) (fun c_53 => ?_)
          · exact absurd (by decide) c_53
          · refine lv_sipush (v := nI 224) hx hb dM_byteOf_56 (by decide) ?_
            refine lv_iload_n hx hb dM_byteOf_59 rfl (lv_at hl 0 rfl) ?_
            refine lv_ior hx hb dM_byteOf_60 ?_
            refine cr_top (y := nI (224 + c0 / 4096)) (cr_orlead3 (by omega)) ?_
            refine lv_goto (tgt := 69) hx hb dM_byteOf_61 (by decide) ?_
            exact W.iret (v := nI (224 + c0 / 4096)) hx hb hr (fun t9 ht9 hW9 => ⟨⟨nI (224 + c0 / 4096), [], rfl, ⟨rfl, by rw [(cr_by3 (by omega) (by omega)).1]⟩, by rw [ht9]; exact hP, va_K.moved hW9.alike hK, hD⟩, hS.F ht9⟩) hS.2.2 dM_byteOf_69
        · exact absurd c_40 (by decide)
      · exact absurd c_31 (by decide)
    · exact absurd (by decide) c_17
  · rw [hL] at hl
    refine lv_iload_n hx hb dM_byteOf_5 rfl (lv_at hl 1 rfl) ?_
    refine lv_bipush (v := nI 6) hx hb dM_byteOf_6 (by decide) ?_
    refine lv_iload_n hx hb dM_byteOf_8 rfl (lv_at hl 0 rfl) ?_
    refine lv_iconst (v := nI 1) hx hb dM_byteOf_9 (by decide) ?_
    refine lv_isub hx hb dM_byteOf_10 ?_
    refine cr_top (y := nI 2) (by decide) ?_
    refine lv_iload_n hx hb dM_byteOf_11 rfl (lv_at hl 2 rfl) ?_
    refine lv_isub hx hb dM_byteOf_12 ?_
    refine cr_top (y := nI 1) (by decide) ?_
    refine lv_imul hx hb dM_byteOf_13 ?_
    refine cr_top (y := nI 6) (by decide) ?_
    refine lv_ishr hx hb dM_byteOf_14 ?_
    refine cr_top (y := nI (c0 / 64)) (pk_shrN (by omega) _ 6 (by decide)) ?_
    refine lv_istore_n (lv' := [(3, .int (nI (c0 / 64))), (2, .int (nI 3)), (0, .int (nI c0)), (1, .int (nI 1))]) hx hb dM_byteOf_15 rfl hl (by decide) rfl (fun ls hl => ?_)
    refine lv_iload_n hx hb dM_byteOf_16 rfl (lv_at hl 3 rfl) ?_
    refine lv_if_le (tgt := 29) hx hb dM_byteOf_17 (by decide) (fun c_17 => ?_) (fun c_17 => ?_)
    · exact absurd c_17 (by decide)
    · refine lv_sipush (v := nI 128) hx hb dM_byteOf_20 (by decide) ?_
      refine lv_iload_n hx hb dM_byteOf_23 rfl (lv_at hl 0 rfl) ?_
      refine lv_bipush (v := nI 63) hx hb dM_byteOf_24 (by decide) ?_
      refine lv_iand hx hb dM_byteOf_26 ?_
      refine cr_top (y := nI (c0 / 64 % 64)) (cr_and63 (by omega)) ?_
      refine lv_ior hx hb dM_byteOf_27 ?_
      refine cr_top (y := nI (128 + c0 / 64 % 64)) (cr_or128 (by omega)) ?_
      exact W.iret (v := nI (128 + c0 / 64 % 64)) hx hb hr (fun t9 ht9 hW9 => ⟨⟨nI (128 + c0 / 64 % 64), [], rfl, ⟨rfl, by rw [(cr_by3 (by omega) (by omega)).2.1]⟩, by rw [ht9]; exact hP, va_K.moved hW9.alike hK, hD⟩, hS.F ht9⟩) hS.2.2 dM_byteOf_28
  · rw [hL] at hl
    refine lv_iload_n hx hb dM_byteOf_5 rfl (lv_at hl 1 rfl) ?_
    refine lv_bipush (v := nI 6) hx hb dM_byteOf_6 (by decide) ?_
    refine lv_iload_n hx hb dM_byteOf_8 rfl (lv_at hl 0 rfl) ?_
    refine lv_iconst (v := nI 1) hx hb dM_byteOf_9 (by decide) ?_
    refine lv_isub hx hb dM_byteOf_10 ?_
    refine cr_top (y := nI 2) (by decide) ?_
    refine lv_iload_n hx hb dM_byteOf_11 rfl (lv_at hl 2 rfl) ?_
    refine lv_isub hx hb dM_byteOf_12 ?_
    refine cr_top (y := nI 0) (by decide) ?_
    refine lv_imul hx hb dM_byteOf_13 ?_
    refine cr_top (y := nI 0) (by decide) ?_
    refine lv_ishr hx hb dM_byteOf_14 ?_
    refine cr_top (y := nI c0) ((pk_shrN (by omega) _ 0 (by decide)).trans (by simp)) ?_
    refine lv_istore_n (lv' := [(3, .int (nI c0)), (2, .int (nI 3)), (0, .int (nI c0)), (1, .int (nI 2))]) hx hb dM_byteOf_15 rfl hl (by decide) rfl (fun ls hl => ?_)
    refine lv_iload_n hx hb dM_byteOf_16 rfl (lv_at hl 3 rfl) ?_
    refine lv_if_le (tgt := 29) hx hb dM_byteOf_17 (by decide) (fun c_17 => ?_) (fun c_17 => ?_)
    · exact absurd c_17 (by decide)
    · refine lv_sipush (v := nI 128) hx hb dM_byteOf_20 (by decide) ?_
      refine lv_iload_n hx hb dM_byteOf_23 rfl (lv_at hl 0 rfl) ?_
      refine lv_bipush (v := nI 63) hx hb dM_byteOf_24 (by decide) ?_
      refine lv_iand hx hb dM_byteOf_26 ?_
      refine cr_top (y := nI (c0 % 64)) (cr_and63 (by omega)) ?_
      refine lv_ior hx hb dM_byteOf_27 ?_
      refine cr_top (y := nI (128 + c0 % 64)) (cr_or128 (by omega)) ?_
      exact W.iret (v := nI (128 + c0 % 64)) hx hb hr (fun t9 ht9 hW9 => ⟨⟨nI (128 + c0 % 64), [], rfl, ⟨rfl, by rw [(cr_by3 (by omega) (by omega)).2.2]⟩, by rw [ht9]; exact hP, va_K.moved hW9.alike hK, hD⟩, hS.F ht9⟩) hS.2.2 dM_byteOf_28
  · rw [hL] at hl
    refine lv_iload_n hx hb dM_byteOf_5 rfl (lv_at hl 1 rfl) ?_
    refine lv_bipush (v := nI 6) hx hb dM_byteOf_6 (by decide) ?_
    refine lv_iload_n hx hb dM_byteOf_8 rfl (lv_at hl 0 rfl) ?_
    refine lv_iconst (v := nI 1) hx hb dM_byteOf_9 (by decide) ?_
    refine lv_isub hx hb dM_byteOf_10 ?_
    refine cr_top (y := nI 3) (by decide) ?_
    refine lv_iload_n hx hb dM_byteOf_11 rfl (lv_at hl 2 rfl) ?_
    refine lv_isub hx hb dM_byteOf_12 ?_
    refine cr_top (y := nI 3) (by decide) ?_
    refine lv_imul hx hb dM_byteOf_13 ?_
    refine cr_top (y := nI 18) (by decide) ?_
    refine lv_ishr hx hb dM_byteOf_14 ?_
    refine cr_top (y := nI (c0 / 262144)) (pk_shrN (by omega) _ 18 (by decide)) ?_
    refine lv_istore_n (lv' := [(3, .int (nI (c0 / 262144))), (2, .int (nI 4)), (0, .int (nI c0)), (1, .int (nI 0))]) hx hb dM_byteOf_15 rfl hl (by decide) rfl (fun ls hl => ?_)
    refine lv_iload_n hx hb dM_byteOf_16 rfl (lv_at hl 3 rfl) ?_
    refine lv_if_le (tgt := 29) hx hb dM_byteOf_17 (by decide) (fun c_17 => ?_) (fun c_17 => ?_)
    · refine lv_iload_n hx hb dM_byteOf_29 rfl (lv_at hl 1 rfl) ?_
      refine lv_iconst (v := nI 1) hx hb dM_byteOf_30 (by decide) ?_
      refine lv_icmp_ne (tgt := 38) hx hb dM_byteOf_31 (by decide) (fun c_31 => ?_) (fun c_31 => ?_)
      · refine lv_iload_n hx hb dM_byteOf_38 rfl (lv_at hl 1 rfl) ?_
        refine lv_iconst (v := nI 2) hx hb dM_byteOf_39 (by decide) ?_
        refine lv_icmp_ne (tgt := 51) hx hb dM_byteOf_40 (by decide) (fun c_40 => ?_) (fun c_40 => ?_)
        · refine lv_iload_n hx hb dM_byteOf_51 rfl (lv_at hl 1 rfl) ?_
          refine lv_iconst (v := nI 3) hx hb dM_byteOf_52 (by decide) ?_
          refine lv_icmp_ne (tgt := 64) hx hb dM_byteOf_53 (by decide) (fun c_53 => ?_) (fun c_53 => ?_)
          · refine lv_sipush (v := nI 240) hx hb dM_byteOf_64 (by decide) ?_
            refine lv_iload_n hx hb dM_byteOf_67 rfl (lv_at hl 0 rfl) ?_
            refine lv_ior hx hb dM_byteOf_68 ?_
            refine cr_top (y := nI (240 + c0 / 262144)) (cr_orlead4 (by omega)) ?_
            exact W.iret (v := nI (240 + c0 / 262144)) hx hb hr (fun t9 ht9 hW9 => ⟨⟨nI (240 + c0 / 262144), [], rfl, ⟨rfl, by rw [(cr_by4 (by omega)).1]⟩, by rw [ht9]; exact hP, va_K.moved hW9.alike hK, hD⟩, hS.F ht9⟩) hS.2.2 dM_byteOf_69
          · exact absurd c_53 (by decide)
        · exact absurd c_40 (by decide)
      · exact absurd c_31 (by decide)
    · exact absurd (by decide) c_17
  · rw [hL] at hl
    refine lv_iload_n hx hb dM_byteOf_5 rfl (lv_at hl 1 rfl) ?_
    refine lv_bipush (v := nI 6) hx hb dM_byteOf_6 (by decide) ?_
    refine lv_iload_n hx hb dM_byteOf_8 rfl (lv_at hl 0 rfl) ?_
    refine lv_iconst (v := nI 1) hx hb dM_byteOf_9 (by decide) ?_
    refine lv_isub hx hb dM_byteOf_10 ?_
    refine cr_top (y := nI 3) (by decide) ?_
    refine lv_iload_n hx hb dM_byteOf_11 rfl (lv_at hl 2 rfl) ?_
    refine lv_isub hx hb dM_byteOf_12 ?_
    refine cr_top (y := nI 2) (by decide) ?_
    refine lv_imul hx hb dM_byteOf_13 ?_
    refine cr_top (y := nI 12) (by decide) ?_
    refine lv_ishr hx hb dM_byteOf_14 ?_
    refine cr_top (y := nI (c0 / 4096)) (pk_shrN (by omega) _ 12 (by decide)) ?_
    refine lv_istore_n (lv' := [(3, .int (nI (c0 / 4096))), (2, .int (nI 4)), (0, .int (nI c0)), (1, .int (nI 1))]) hx hb dM_byteOf_15 rfl hl (by decide) rfl (fun ls hl => ?_)
    refine lv_iload_n hx hb dM_byteOf_16 rfl (lv_at hl 3 rfl) ?_
    refine lv_if_le (tgt := 29) hx hb dM_byteOf_17 (by decide) (fun c_17 => ?_) (fun c_17 => ?_)
    · exact absurd c_17 (by decide)
    · refine lv_sipush (v := nI 128) hx hb dM_byteOf_20 (by decide) ?_
      refine lv_iload_n hx hb dM_byteOf_23 rfl (lv_at hl 0 rfl) ?_
      refine lv_bipush (v := nI 63) hx hb dM_byteOf_24 (by decide) ?_
      refine lv_iand hx hb dM_byteOf_26 ?_
      refine cr_top (y := nI (c0 / 4096 % 64)) (cr_and63 (by omega)) ?_
      refine lv_ior hx hb dM_byteOf_27 ?_
      refine cr_top (y := nI (128 + c0 / 4096 % 64)) (cr_or128 (by omega)) ?_
      exact W.iret (v := nI (128 + c0 / 4096 % 64)) hx hb hr (fun t9 ht9 hW9 => ⟨⟨nI (128 + c0 / 4096 % 64), [], rfl, ⟨rfl, by rw [(cr_by4 (by omega)).2.1]⟩, by rw [ht9]; exact hP, va_K.moved hW9.alike hK, hD⟩, hS.F ht9⟩) hS.2.2 dM_byteOf_28
  · rw [hL] at hl
    refine lv_iload_n hx hb dM_byteOf_5 rfl (lv_at hl 1 rfl) ?_
    refine lv_bipush (v := nI 6) hx hb dM_byteOf_6 (by decide) ?_
    refine lv_iload_n hx hb dM_byteOf_8 rfl (lv_at hl 0 rfl) ?_
    refine lv_iconst (v := nI 1) hx hb dM_byteOf_9 (by decide) ?_
    refine lv_isub hx hb dM_byteOf_10 ?_
    refine cr_top (y := nI 3) (by decide) ?_
    refine lv_iload_n hx hb dM_byteOf_11 rfl (lv_at hl 2 rfl) ?_
    refine lv_isub hx hb dM_byteOf_12 ?_
    refine cr_top (y := nI 1) (by decide) ?_
    refine lv_imul hx hb dM_byteOf_13 ?_
    refine cr_top (y := nI 6) (by decide) ?_
    refine lv_ishr hx hb dM_byteOf_14 ?_
    refine cr_top (y := nI (c0 / 64)) (pk_shrN (by omega) _ 6 (by decide)) ?_
    refine lv_istore_n (lv' := [(3, .int (nI (c0 / 64))), (2, .int (nI 4)), (0, .int (nI c0)), (1, .int (nI 2))]) hx hb dM_byteOf_15 rfl hl (by decide) rfl (fun ls hl => ?_)
    refine lv_iload_n hx hb dM_byteOf_16 rfl (lv_at hl 3 rfl) ?_
    refine lv_if_le (tgt := 29) hx hb dM_byteOf_17 (by decide) (fun c_17 => ?_) (fun c_17 => ?_)
    · exact absurd c_17 (by decide)
    · refine lv_sipush (v := nI 128) hx hb dM_byteOf_20 (by decide) ?_
      refine lv_iload_n hx hb dM_byteOf_23 rfl (lv_at hl 0 rfl) ?_
      refine lv_bipush (v := nI 63) hx hb dM_byteOf_24 (by decide) ?_
      refine lv_iand hx hb dM_byteOf_26 ?_
      refine cr_top (y := nI (c0 / 64 % 64)) (cr_and63 (by omega)) ?_
      refine lv_ior hx hb dM_byteOf_27 ?_
      refine cr_top (y := nI (128 + c0 / 64 % 64)) (cr_or128 (by omega)) ?_
      exact W.iret (v := nI (128 + c0 / 64 % 64)) hx hb hr (fun t9 ht9 hW9 => ⟨⟨nI (128 + c0 / 64 % 64), [], rfl, ⟨rfl, by rw [(cr_by4 (by omega)).2.2.1]⟩, by rw [ht9]; exact hP, va_K.moved hW9.alike hK, hD⟩, hS.F ht9⟩) hS.2.2 dM_byteOf_28
  · rw [hL] at hl
    refine lv_iload_n hx hb dM_byteOf_5 rfl (lv_at hl 1 rfl) ?_
    refine lv_bipush (v := nI 6) hx hb dM_byteOf_6 (by decide) ?_
    refine lv_iload_n hx hb dM_byteOf_8 rfl (lv_at hl 0 rfl) ?_
    refine lv_iconst (v := nI 1) hx hb dM_byteOf_9 (by decide) ?_
    refine lv_isub hx hb dM_byteOf_10 ?_
    refine cr_top (y := nI 3) (by decide) ?_
    refine lv_iload_n hx hb dM_byteOf_11 rfl (lv_at hl 2 rfl) ?_
    refine lv_isub hx hb dM_byteOf_12 ?_
    refine cr_top (y := nI 0) (by decide) ?_
    refine lv_imul hx hb dM_byteOf_13 ?_
    refine cr_top (y := nI 0) (by decide) ?_
    refine lv_ishr hx hb dM_byteOf_14 ?_
    refine cr_top (y := nI c0) ((pk_shrN (by omega) _ 0 (by decide)).trans (by simp)) ?_
    refine lv_istore_n (lv' := [(3, .int (nI c0)), (2, .int (nI 4)), (0, .int (nI c0)), (1, .int (nI 3))]) hx hb dM_byteOf_15 rfl hl (by decide) rfl (fun ls hl => ?_)
    refine lv_iload_n hx hb dM_byteOf_16 rfl (lv_at hl 3 rfl) ?_
    refine lv_if_le (tgt := 29) hx hb dM_byteOf_17 (by decide) (fun c_17 => ?_) (fun c_17 => ?_)
    · exact absurd c_17 (by decide)
    · refine lv_sipush (v := nI 128) hx hb dM_byteOf_20 (by decide) ?_
      refine lv_iload_n hx hb dM_byteOf_23 rfl (lv_at hl 0 rfl) ?_
      refine lv_bipush (v := nI 63) hx hb dM_byteOf_24 (by decide) ?_
      refine lv_iand hx hb dM_byteOf_26 ?_
      refine cr_top (y := nI (c0 % 64)) (cr_and63 (by omega)) ?_
      refine lv_ior hx hb dM_byteOf_27 ?_
      refine cr_top (y := nI (128 + c0 % 64)) (cr_or128 (by omega)) ?_
      exact W.iret (v := nI (128 + c0 % 64)) hx hb hr (fun t9 ht9 hW9 => ⟨⟨nI (128 + c0 % 64), [], rfl, ⟨rfl, by rw [(cr_by4 (by omega)).2.2.2]⟩, by rw [ht9]; exact hP, va_K.moved hW9.alike hK, hD⟩, hS.F ht9⟩) hS.2.2 dM_byteOf_28

set_option maxHeartbeats 4000000 in
set_option maxRecDepth 100000 in
theorem m_isRow (l : Launch) (dC : Nat → ClassId) (dI : Nat → Nat → Nat) (sz : Nat) (mo l1 l2 l3 l4 l5 l6 l7 l8 l9 : Nat) (cI cZ : ClassId) (th by0 fd : Int32) (n nk mn : Nat) (f g kf kg ef eg mt fr tt : Nat → Int32) (c0 d0 : Nat) (hcd : c0 ≤ d0) (hd : d0 ≤ 1114111) : Met l yM_isRow wsM_isRow ({ frames := 3, cells := 0, slots := 0, locals := 100 }) (va_Pc [.ref mo, .int (nI c0), .int (nI d0)] (cr_pre dC dI [(cI, .int), (cZ, .boolean)] [(mo, .inr (2, [.int th, .ref l1, .ref l2, .int (nI n), .ref l3, .ref l4, .int (nI nk), .ref l5, .ref l6, .int (nI mn), .ref l7, .ref l8, .ref l9, .int by0, .int fd])), (l1, .inl (cI, 2400, .inl f)), (l2, .inl (cI, 2400, .inl g)), (l3, .inl (cI, 2400, .inl kf)), (l4, .inl (cI, 2400, .inl kg)), (l5, .inl (cI, 4800, .inl ef)), (l6, .inl (cI, 4800, .inl eg)), (l7, .inl (cZ, 1120, .inl mt)), (l8, .inl (cI, 4, .inl fr)), (l9, .inl (cI, 4, .inl tt))] sz)) (va_Qi (fun (rr : Int32) (u : va_W) => ∃ fr' tt' : Nat → Int32, u = [(mo, .inr (2, [.int th, .ref l1, .ref l2, .int (nI n), .ref l3, .ref l4, .int (nI nk), .ref l5, .ref l6, .int (nI mn), .ref l7, .ref l8, .ref l9, .int (nI (cr_len c0)), .int fd])), (l1, .inl (cI, 2400, .inl f)), (l2, .inl (cI, 2400, .inl g)), (l3, .inl (cI, 2400, .inl kf)), (l4, .inl (cI, 2400, .inl kg)), (l5, .inl (cI, 4800, .inl ef)), (l6, .inl (cI, 4800, .inl eg)), (l7, .inl (cZ, 1120, .inl mt)), (l8, .inl (cI, 4, .inl fr')), (l9, .inl (cI, 4, .inl tt'))] ∧ cr_zb rr (cr_row c0 d0) ∧ (cr_row c0 d0 → ∀ i, i < cr_len c0 → fr' i = nI (cr_by c0 i) ∧ tt' i = nI (cr_by d0 i))) (cr_at dC dI [(cI, .int), (cZ, .boolean)] (va_A [(mo, .inr (2, [.int th, .ref l1, .ref l2, .int (nI n), .ref l3, .ref l4, .int (nI nk), .ref l5, .ref l6, .int (nI mn), .ref l7, .ref l8, .ref l9, .int by0, .int fd])), (l1, .inl (cI, 2400, .inl f)), (l2, .inl (cI, 2400, .inl g)), (l3, .inl (cI, 2400, .inl kf)), (l4, .inl (cI, 2400, .inl kg)), (l5, .inl (cI, 4800, .inl ef)), (l6, .inl (cI, 4800, .inl eg)), (l7, .inl (cZ, 1120, .inl mt)), (l8, .inl (cI, 4, .inl fr)), (l9, .inl (cI, 4, .inl tt))] sz)) (va_A [(mo, .inr (2, [.int th, .ref l1, .ref l2, .int (nI n), .ref l3, .ref l4, .int (nI nk), .ref l5, .ref l6, .int (nI mn), .ref l7, .ref l8, .ref l9, .int by0, .int fd])), (l1, .inl (cI, 2400, .inl f)), (l2, .inl (cI, 2400, .inl g)), (l3, .inl (cI, 2400, .inl kf)), (l4, .inl (cI, 2400, .inl kg)), (l5, .inl (cI, 4800, .inl ef)), (l6, .inl (cI, 4800, .inl eg)), (l7, .inl (cZ, 1120, .inl mt)), (l8, .inl (cI, 4, .inl fr)), (l9, .inl (cI, 4, .inl tt))] sz)) 0 0 (va_A [(mo, .inr (2, [.int th, .ref l1, .ref l2, .int (nI n), .ref l3, .ref l4, .int (nI nk), .ref l5, .ref l6, .int (nI mn), .ref l7, .ref l8, .ref l9, .int by0, .int fd])), (l1, .inl (cI, 2400, .inl f)), (l2, .inl (cI, 2400, .inl g)), (l3, .inl (cI, 2400, .inl kf)), (l4, .inl (cI, 2400, .inl kg)), (l5, .inl (cI, 4800, .inl ef)), (l6, .inl (cI, 4800, .inl eg)), (l7, .inl (cZ, 1120, .inl mt)), (l8, .inl (cI, 4, .inl fr)), (l9, .inl (cI, 4, .inl tt))] sz) := by
  refine Met.ofW (cc := cM_isRow) (maxL := 6) (ret := (some .boolean)) (by decide) rfl ?_
  intro p e s m args below meth c s₁ B hml hv
  obtain ⟨rfl, hsz, hP, hK, hD0⟩ := hv
  have hx := B.exec
  have hb := B.bytes
  have hr := B.returns
  have hts := atoms_spec (ws := wsM_isRow) B.pre
  have hown : s.vm.findClass RX2 = some m.cls := findClass_of_methodNamed B.named
  have hlocks := B.notSynchronized
  subst hsz
  have hD := hD0.self (sz := s.heap.size)
  generalize hAe : va_A [(mo, .inr (2, [.int th, .ref l1, .ref l2, .int (nI n), .ref l3, .ref l4, .int (nI nk), .ref l5, .ref l6, .int (nI mn), .ref l7, .ref l8, .ref l9, .int by0, .int fd])), (l1, .inl (cI, 2400, .inl f)), (l2, .inl (cI, 2400, .inl g)), (l3, .inl (cI, 2400, .inl kf)), (l4, .inl (cI, 2400, .inl kg)), (l5, .inl (cI, 4800, .inl ef)), (l6, .inl (cI, 4800, .inl eg)), (l7, .inl (cZ, 1120, .inl mt)), (l8, .inl (cI, 4, .inl fr)), (l9, .inl (cI, 4, .inl tt))] s.heap.size = A at hD ⊢
  have hA : ∀ q : Nat, s.heap.size ≤ q → A q := fun q h => by rw [← hAe]; exact Or.inr h
  have hS : va_S A s.heap s.heap [] := va_S.rf
  have hP : va_P (dC, dI) crCl [(mo, .inr (2, [.int th, .ref l1, .ref l2, .int (nI n), .ref l3, .ref l4, .int (nI nk), .ref l5, .ref l6, .int (nI mn), .ref l7, .ref l8, .ref l9, .int by0, .int fd])), (l1, .inl (cI, 2400, .inl f)), (l2, .inl (cI, 2400, .inl g)), (l3, .inl (cI, 2400, .inl kf)), (l4, .inl (cI, 2400, .inl kg)), (l5, .inl (cI, 4800, .inl ef)), (l6, .inl (cI, 4800, .inl eg)), (l7, .inl (cZ, 1120, .inl mt)), (l8, .inl (cI, 4, .inl fr)), (l9, .inl (cI, 4, .inl tt))] s.heap := hP
  have hl := lv_entry ([.ref mo, .int (nI c0), .int (nI d0)]) (n := 6) (Nat.le_of_ble_eq_true rfl)
  rw [lg_entry_eq]
  generalize (lg_sl ([.ref mo, .int (nI c0), .int (nI d0)]) ++ List.replicate (6 - (lg_sl ([.ref mo, .int (nI c0), .int (nI d0)])).length) Slot.unset).toArray = ls at hl ⊢
  have hl : lv_has ls 6 [(0, .ref mo), (1, .int (nI c0)), (2, .int (nI d0))] := hl
  have hlc := cr_len_le c0
  have hld := cr_len_le d0
  refine lv_aload_n hx hb dM_isRow_0 rfl (lv_at hl 0 rfl) ?_
  refine lv_iload_n hx hb dM_isRow_1 rfl (lv_at hl 1 rfl) ?_
  have hPc := hP.sub (ws' := []) [] rfl
  have hDc := hD.sub (ws' := []) [] (by decide) rfl
  have hFc := va_free (wc := []) hD hS hA [] rfl
  refine va_calli (va_runS (As := [.int (nI c0)]) (rest := [.ref mo]) ⟨hx, hb, hml, hown, hts⟩ (m_length l dC dI _ c0 (by omega)) (va_cwS 1 hts gM_isRow_M_length rfl rfl rfl (by decide +kernel) ⟨Nat.le_of_ble_eq_true rfl, Nat.le_of_ble_eq_true rfl⟩) (cr_preS hPc (hK.sub (tys' := []) [] rfl) hDc) rfl rfl hl.1 rfl (lv_room (Nat.le_of_ble_eq_true rfl)) dM_isRow_2 ⟨Nat.zero_le _, Nat.zero_le _⟩) hS (fun q _ h => hFc q h) hFc (fun r_2 u_2 t_2 H_2 locs ht_2 hvm_2 hw_2 hB_2 hz_2 hk_2 hS => ?_)
  obtain ⟨rfl, rfl⟩ := hw_2
  obtain ⟨hP, hD⟩ := cr_back (wr := [(mo, .inr (2, [.int th, .ref l1, .ref l2, .int (nI n), .ref l3, .ref l4, .int (nI nk), .ref l5, .ref l6, .int (nI mn), .ref l7, .ref l8, .ref l9, .int by0, .int fd])), (l1, .inl (cI, 2400, .inl f)), (l2, .inl (cI, 2400, .inl g)), (l3, .inl (cI, 2400, .inl kf)), (l4, .inl (cI, 2400, .inl kg)), (l5, .inl (cI, 4800, .inl ef)), (l6, .inl (cI, 4800, .inl eg)), (l7, .inl (cZ, 1120, .inl mt)), (l8, .inl (cI, 4, .inl fr)), (l9, .inl (cI, 4, .inl tt))]) (w1 := []) hP hD [] [0, 1, 2, 3, 4, 5, 6, 7, 8, 9] rfl rfl (by decide) (by decide) hk_2 hFc hB_2 ht_2
  clear hPc hDc hFc
  generalize H_2 = H at hP hS ⊢
  have hP := hP.sub (ws' := [(mo, .inr (2, [.int th, .ref l1, .ref l2, .int (nI n), .ref l3, .ref l4, .int (nI nk), .ref l5, .ref l6, .int (nI mn), .ref l7, .ref l8, .ref l9, .int by0, .int fd])), (l1, .inl (cI, 2400, .inl f)), (l2, .inl (cI, 2400, .inl g)), (l3, .inl (cI, 2400, .inl kf)), (l4, .inl (cI, 2400, .inl kg)), (l5, .inl (cI, 4800, .inl ef)), (l6, .inl (cI, 4800, .inl eg)), (l7, .inl (cZ, 1120, .inl mt)), (l8, .inl (cI, 4, .inl fr)), (l9, .inl (cI, 4, .inl tt))]) [0, 1, 2, 3, 4, 5, 6, 7, 8, 9] rfl
  have hD := hD.sub (ws' := [(mo, .inr (2, [.int th, .ref l1, .ref l2, .int (nI n), .ref l3, .ref l4, .int (nI nk), .ref l5, .ref l6, .int (nI mn), .ref l7, .ref l8, .ref l9, .int by0, .int fd])), (l1, .inl (cI, 2400, .inl f)), (l2, .inl (cI, 2400, .inl g)), (l3, .inl (cI, 2400, .inl kf)), (l4, .inl (cI, 2400, .inl kg)), (l5, .inl (cI, 4800, .inl ef)), (l6, .inl (cI, 4800, .inl eg)), (l7, .inl (cZ, 1120, .inl mt)), (l8, .inl (cI, 4, .inl fr)), (l9, .inl (cI, 4, .inl tt))]) [0, 1, 2, 3, 4, 5, 6, 7, 8, 9] (by decide) rfl
  refine va_put (D := (dC, dI)) (ci := 2) (v := .int (nI (cr_len c0))) (ty := .int) (C := RX2) (T := TM) (N := 15) hx hb hts (wsM00_in _) tyM tyM_ok nmM hown hK hP hD hS 0 rfl rfl 13 (by decide) (hts (.fieldLink RX2 78 "CharRowsModel" "bytes" "I") (by decide +kernel)) (fun _ h9 => h9) rfl (by decide +kernel) rfl rfl (Nat.le_of_ble_eq_true rfl) dM_isRow_5 (fun H locs hP hD hS => ?_)
  have hP : va_P (dC, dI) crCl [(mo, .inr (2, [.int th, .ref l1, .ref l2, .int (nI n), .ref l3, .ref l4, .int (nI nk), .ref l5, .ref l6, .int (nI mn), .ref l7, .ref l8, .ref l9, .int (nI (cr_len c0)), .int fd])), (l1, .inl (cI, 2400, .inl f)), (l2, .inl (cI, 2400, .inl g)), (l3, .inl (cI, 2400, .inl kf)), (l4, .inl (cI, 2400, .inl kg)), (l5, .inl (cI, 4800, .inl ef)), (l6, .inl (cI, 4800, .inl eg)), (l7, .inl (cZ, 1120, .inl mt)), (l8, .inl (cI, 4, .inl fr)), (l9, .inl (cI, 4, .inl tt))] H := hP
  have hD : va_D A [(mo, .inr (2, [.int th, .ref l1, .ref l2, .int (nI n), .ref l3, .ref l4, .int (nI nk), .ref l5, .ref l6, .int (nI mn), .ref l7, .ref l8, .ref l9, .int (nI (cr_len c0)), .int fd])), (l1, .inl (cI, 2400, .inl f)), (l2, .inl (cI, 2400, .inl g)), (l3, .inl (cI, 2400, .inl kf)), (l4, .inl (cI, 2400, .inl kg)), (l5, .inl (cI, 4800, .inl ef)), (l6, .inl (cI, 4800, .inl eg)), (l7, .inl (cZ, 1120, .inl mt)), (l8, .inl (cI, 4, .inl fr)), (l9, .inl (cI, 4, .inl tt))] := hD
  refine lv_iload_n hx hb dM_isRow_8 rfl (lv_at hl 2 rfl) ?_
  have hPc := hP.sub (ws' := []) [] rfl
  have hDc := hD.sub (ws' := []) [] (by decide) rfl
  have hFc := va_free (wc := []) hD hS hA [] rfl
  refine va_calli (va_runS (As := [.int (nI d0)]) (rest := []) ⟨hx, hb, hml, hown, hts⟩ (m_length l dC dI _ d0 (by omega)) (va_cwS 1 hts gM_isRow_M_length rfl rfl rfl (by decide +kernel) ⟨Nat.le_of_ble_eq_true rfl, Nat.le_of_ble_eq_true rfl⟩) (cr_preS hPc (hK.sub (tys' := []) [] rfl) hDc) rfl rfl hl.1 rfl (lv_room (Nat.le_of_ble_eq_true rfl)) dM_isRow_9 ⟨Nat.zero_le _, Nat.zero_le _⟩) hS (fun q _ h => hFc q h) hFc (fun r_9 u_9 t_9 H_9 locs ht_9 hvm_9 hw_9 hB_9 hz_9 hk_9 hS => ?_)
  obtain ⟨rfl, rfl⟩ := hw_9
  obtain ⟨hP, hD⟩ := cr_back (wr := [(mo, .inr (2, [.int th, .ref l1, .ref l2, .int (nI n), .ref l3, .ref l4, .int (nI nk), .ref l5, .ref l6, .int (nI mn), .ref l7, .ref l8, .ref l9, .int (nI (cr_len c0)), .int fd])), (l1, .inl (cI, 2400, .inl f)), (l2, .inl (cI, 2400, .inl g)), (l3, .inl (cI, 2400, .inl kf)), (l4, .inl (cI, 2400, .inl kg)), (l5, .inl (cI, 4800, .inl ef)), (l6, .inl (cI, 4800, .inl eg)), (l7, .inl (cZ, 1120, .inl mt)), (l8, .inl (cI, 4, .inl fr)), (l9, .inl (cI, 4, .inl tt))]) (w1 := []) hP hD [] [0, 1, 2, 3, 4, 5, 6, 7, 8, 9] rfl rfl (by decide) (by decide) hk_9 hFc hB_9 ht_9
  clear hPc hDc hFc
  generalize H_9 = H at hP hS ⊢
  have hP := hP.sub (ws' := [(mo, .inr (2, [.int th, .ref l1, .ref l2, .int (nI n), .ref l3, .ref l4, .int (nI nk), .ref l5, .ref l6, .int (nI mn), .ref l7, .ref l8, .ref l9, .int (nI (cr_len c0)), .int fd])), (l1, .inl (cI, 2400, .inl f)), (l2, .inl (cI, 2400, .inl g)), (l3, .inl (cI, 2400, .inl kf)), (l4, .inl (cI, 2400, .inl kg)), (l5, .inl (cI, 4800, .inl ef)), (l6, .inl (cI, 4800, .inl eg)), (l7, .inl (cZ, 1120, .inl mt)), (l8, .inl (cI, 4, .inl fr)), (l9, .inl (cI, 4, .inl tt))]) [0, 1, 2, 3, 4, 5, 6, 7, 8, 9] rfl
  have hD := hD.sub (ws' := [(mo, .inr (2, [.int th, .ref l1, .ref l2, .int (nI n), .ref l3, .ref l4, .int (nI nk), .ref l5, .ref l6, .int (nI mn), .ref l7, .ref l8, .ref l9, .int (nI (cr_len c0)), .int fd])), (l1, .inl (cI, 2400, .inl f)), (l2, .inl (cI, 2400, .inl g)), (l3, .inl (cI, 2400, .inl kf)), (l4, .inl (cI, 2400, .inl kg)), (l5, .inl (cI, 4800, .inl ef)), (l6, .inl (cI, 4800, .inl eg)), (l7, .inl (cZ, 1120, .inl mt)), (l8, .inl (cI, 4, .inl fr)), (l9, .inl (cI, 4, .inl tt))]) [0, 1, 2, 3, 4, 5, 6, 7, 8, 9] (by decide) rfl
  refine lv_aload_n hx hb dM_isRow_12 rfl (lv_at hl 0 rfl) ?_
  refine va_get (D := (dC, dI)) (ci := 2) (v := .int (nI (cr_len c0))) (C := RX2) (T := TM) (N := 15) hx hb hts (wsM00_in _) hown hK hP 0 rfl rfl 13 (by decide) (hts (.fieldLink RX2 78 "CharRowsModel" "bytes" "I") (by decide +kernel)) (fun _ h9 => h9) rfl dM_isRow_13 ?_
  refine lv_icmp_eq (tgt := 21) hx hb dM_isRow_16 (by decide) (fun c_16 => ?_) (fun c_16 => ?_)
  · rw [nI_eq (by omega) (by omega)] at c_16
    have hg := cr_good_of hcd hd c_16.symm
    have hall := cr_all_lt c_16.symm (by omega) hd
    refine lv_iconst (v := nI 1) hx hb dM_isRow_21 (by decide) ?_
    refine lv_istore_n (lv' := [(3, .int (nI 1)), (0, .ref mo), (1, .int (nI c0)), (2, .int (nI d0))]) hx hb dM_isRow_22 rfl hl (by decide) rfl (fun ls hl => ?_)
    refine lv_iconst (v := nI 1) hx hb dM_isRow_23 (by decide) ?_
    refine lv_istore (lv' := [(4, .int (nI 1)), (3, .int (nI 1)), (0, .ref mo), (1, .int (nI c0)), (2, .int (nI d0))]) hx hb dM_isRow_24 hl (by decide) rfl (fun ls hl => ?_)
    refine lv_iconst (v := nI 0) hx hb dM_isRow_26 (by decide) ?_
    refine lv_istore (lv' := [(5, .int (nI 0)), (4, .int (nI 1)), (3, .int (nI 1)), (0, .ref mo), (1, .int (nI c0)), (2, .int (nI d0))]) hx hb dM_isRow_27 hl (by decide) rfl (fun ls hl => ?_)
    refine cr_lp4 (fun (i : Nat) (z : Int32) (fr1 : Nat → Int32) (tt1 : Nat → Int32) => cr_len c0 - i) (fun (i : Nat) (z : Int32) (fr1 : Nat → Int32) (tt1 : Nat → Int32) H locs ls => (i ≤ cr_len c0 ∧ ((z = nI 1 ∧ cr_sm c0 d0 i = true) ∨ (z = nI 0 ∧ cr_sm c0 d0 i = false)) ∧ ∀ j, j < i → fr1 j = nI (cr_fr c0 d0 j) ∧ tt1 j = nI (cr_to c0 d0 j)) ∧ va_P (dC, dI) crCl [(mo, .inr (2, [.int th, .ref l1, .ref l2, .int (nI n), .ref l3, .ref l4, .int (nI nk), .ref l5, .ref l6, .int (nI mn), .ref l7, .ref l8, .ref l9, .int (nI (cr_len c0)), .int fd])), (l1, .inl (cI, 2400, .inl f)), (l2, .inl (cI, 2400, .inl g)), (l3, .inl (cI, 2400, .inl kf)), (l4, .inl (cI, 2400, .inl kg)), (l5, .inl (cI, 4800, .inl ef)), (l6, .inl (cI, 4800, .inl eg)), (l7, .inl (cZ, 1120, .inl mt)), (l8, .inl (cI, 4, .inl fr1)), (l9, .inl (cI, 4, .inl tt1))] H ∧ va_D A [(mo, .inr (2, [.int th, .ref l1, .ref l2, .int (nI n), .ref l3, .ref l4, .int (nI nk), .ref l5, .ref l6, .int (nI mn), .ref l7, .ref l8, .ref l9, .int (nI (cr_len c0)), .int fd])), (l1, .inl (cI, 2400, .inl f)), (l2, .inl (cI, 2400, .inl g)), (l3, .inl (cI, 2400, .inl kf)), (l4, .inl (cI, 2400, .inl kg)), (l5, .inl (cI, 4800, .inl ef)), (l6, .inl (cI, 4800, .inl eg)), (l7, .inl (cZ, 1120, .inl mt)), (l8, .inl (cI, 4, .inl fr1)), (l9, .inl (cI, 4, .inl tt1))] ∧ va_S A s.heap H locs ∧ lv_has ls 6 [(0, .ref mo), (1, .int (nI c0)), (2, .int (nI d0)), (3, .int z), (4, .int (nI (cr_all c0 d0 i))), (5, .int (nI i))]) ?_ 0 (nI 1) fr tt ⟨⟨Nat.zero_le _, Or.inl ⟨rfl, rfl⟩, fun j hj => absurd hj (Nat.not_lt_zero j)⟩, hP, hD, hS, lv_sub hl [3, 4, 5, 2, 1, 0] rfl⟩
    intro i z fr1 tt1 H locs ls hI29 ih29
    obtain ⟨⟨h1, hz, h3⟩, hP, hD, hS, hl⟩ := hI29
    rcases hz with ⟨rfl, hsm⟩ | ⟨rfl, hsm⟩
    · refine lv_iload hx hb dM_isRow_29 (lv_at hl 5 rfl) ?_
      refine lv_aload_n hx hb dM_isRow_31 rfl (lv_at hl 0 rfl) ?_
      refine va_get (D := (dC, dI)) (ci := 2) (v := .int (nI (cr_len c0))) (C := RX2) (T := TM) (N := 15) hx hb hts (wsM00_in _) hown hK hP 0 rfl rfl 13 (by decide) (hts (.fieldLink RX2 78 "CharRowsModel" "bytes" "I") (by decide +kernel)) (fun _ h9 => h9) rfl dM_isRow_32 ?_
      refine lv_icmp_ge (tgt := 139) hx hb dM_isRow_35 (by decide) (fun c_35 => ?_) (fun c_35 => ?_)
      · rw [nI_leI (by omega) (by omega)] at c_35
        have hil : i = cr_len c0 := by omega
        rw [← hil] at hall hg
        refine lv_iload hx hb dM_isRow_139 (lv_at hl 4 rfl) ?_
        refine lv_iload_n hx hb dM_isRow_141 rfl (lv_at hl 2 rfl) ?_
        refine lv_iload_n hx hb dM_isRow_142 rfl (lv_at hl 1 rfl) ?_
        refine lv_isub hx hb dM_isRow_143 ?_
        refine cr_top (y := nI (d0 - c0)) (pk_sub (by omega)) ?_
        refine lv_iconst (v := nI 1) hx hb dM_isRow_144 (by decide) ?_
        refine lv_iadd hx hb dM_isRow_145 ?_
        refine cr_top (y := nI ((d0 - c0) + 1)) (nI_add (d0 - c0) 1) ?_
        refine lv_icmp_ne (tgt := 153) hx hb dM_isRow_146 (by decide) (fun c_146 => ?_) (fun c_146 => ?_)
        · rw [nI_eq (by omega) (by omega)] at c_146
          refine lv_iconst (v := nI 0) hx hb dM_isRow_153 (by decide) ?_
          exact W.zret (v := nI 0) (ty := .boolean) hx hb hr (by first | rfl | decide) (fun t9 ht9 hW9 => ⟨⟨nI 0, [(mo, .inr (2, [.int th, .ref l1, .ref l2, .int (nI n), .ref l3, .ref l4, .int (nI nk), .ref l5, .ref l6, .int (nI mn), .ref l7, .ref l8, .ref l9, .int (nI (cr_len c0)), .int fd])), (l1, .inl (cI, 2400, .inl f)), (l2, .inl (cI, 2400, .inl g)), (l3, .inl (cI, 2400, .inl kf)), (l4, .inl (cI, 2400, .inl kg)), (l5, .inl (cI, 4800, .inl ef)), (l6, .inl (cI, 4800, .inl eg)), (l7, .inl (cZ, 1120, .inl mt)), (l8, .inl (cI, 4, .inl fr1)), (l9, .inl (cI, 4, .inl tt1))], rfl, ⟨fr1, tt1, rfl, Or.inr ⟨rfl, fun h => c_146 (hg.2.1.2 h)⟩, fun h j hj => by have a := hg.2.2 h j (by omega); have q := h3 j (by omega); rw [a.1, a.2] at q; exact q⟩, by rw [ht9]; exact hP, va_K.moved hW9.alike hK, hD⟩, hS.F ht9⟩) hS.2.2 dM_isRow_154
        · rw [nI_eq (by omega) (by omega)] at c_146
          refine lv_iconst (v := nI 1) hx hb dM_isRow_149 (by decide) ?_
          refine lv_goto (tgt := 154) hx hb dM_isRow_150 (by decide) ?_
          exact W.zret (v := nI 1) (ty := .boolean) hx hb hr (by first | rfl | decide) (fun t9 ht9 hW9 => ⟨⟨nI 1, [(mo, .inr (2, [.int th, .ref l1, .ref l2, .int (nI n), .ref l3, .ref l4, .int (nI nk), .ref l5, .ref l6, .int (nI mn), .ref l7, .ref l8, .ref l9, .int (nI (cr_len c0)), .int fd])), (l1, .inl (cI, 2400, .inl f)), (l2, .inl (cI, 2400, .inl g)), (l3, .inl (cI, 2400, .inl kf)), (l4, .inl (cI, 2400, .inl kg)), (l5, .inl (cI, 4800, .inl ef)), (l6, .inl (cI, 4800, .inl eg)), (l7, .inl (cZ, 1120, .inl mt)), (l8, .inl (cI, 4, .inl fr1)), (l9, .inl (cI, 4, .inl tt1))], rfl, ⟨fr1, tt1, rfl, Or.inl ⟨rfl, hg.2.1.1 c_146⟩, fun h j hj => by have a := hg.2.2 h j (by omega); have q := h3 j (by omega); rw [a.1, a.2] at q; exact q⟩, by rw [ht9]; exact hP, va_K.moved hW9.alike hK, hD⟩, hS.F ht9⟩) hS.2.2 dM_isRow_154
      · rw [nI_leI (by omega) (by omega)] at c_35
        have hft := hg.1 i (by omega)
        refine lv_aload_n hx hb dM_isRow_38 rfl (lv_at hl 0 rfl) ?_
        refine va_get (D := (dC, dI)) (ci := 2) (v := .ref l8) (C := RX2) (T := TM) (N := 15) hx hb hts (wsM00_in _) hown hK hP 0 rfl rfl 11 (by decide) (hts (.fieldLink RX2 32 "CharRowsModel" "from" "[I") (by decide +kernel)) (fun _ h9 => h9) rfl dM_isRow_39 ?_
        refine lv_iload hx hb dM_isRow_42 (lv_at hl 5 rfl) ?_
        refine lv_iload_n hx hb dM_isRow_44 rfl (lv_at hl 3 rfl) ?_
        refine lv_if_eq (tgt := 57) hx hb dM_isRow_45 (by decide) (fun c_45 => ?_) (fun c_45 => ?_)
        · exact absurd c_45 (by decide)
        · refine lv_iload_n hx hb dM_isRow_48 rfl (lv_at hl 1 rfl) ?_
          refine lv_iload hx hb dM_isRow_49 (lv_at hl 5 rfl) ?_
          have hPc := hP.sub (ws' := []) [] rfl
          have hDc := hD.sub (ws' := []) [] (by decide) rfl
          have hFc := va_free (wc := []) hD hS hA [] rfl
          refine va_calli (va_runS (As := [.int (nI c0), .int (nI i)]) (rest := [.int (nI i), .ref l8]) ⟨hx, hb, hml, hown, hts⟩ (m_byteOf l dC dI _ c0 i (by omega) (by omega)) (va_cwS 2 hts gM_isRow_M_byteOf rfl rfl rfl (by decide +kernel) ⟨Nat.le_of_ble_eq_true rfl, Nat.le_of_ble_eq_true rfl⟩) (cr_preS hPc (hK.sub (tys' := []) [] rfl) hDc) rfl rfl hl.1 rfl (lv_room (Nat.le_of_ble_eq_true rfl)) dM_isRow_51 ⟨Nat.zero_le _, Nat.zero_le _⟩) hS (fun q _ h => hFc q h) hFc (fun r_51 u_51 t_51 H_51 locs ht_51 hvm_51 hw_51 hB_51 hz_51 hk_51 hS => ?_)
          obtain ⟨rfl, rfl⟩ := hw_51
          obtain ⟨hP, hD⟩ := cr_back (wr := [(mo, .inr (2, [.int th, .ref l1, .ref l2, .int (nI n), .ref l3, .ref l4, .int (nI nk), .ref l5, .ref l6, .int (nI mn), .ref l7, .ref l8, .ref l9, .int (nI (cr_len c0)), .int fd])), (l1, .inl (cI, 2400, .inl f)), (l2, .inl (cI, 2400, .inl g)), (l3, .inl (cI, 2400, .inl kf)), (l4, .inl (cI, 2400, .inl kg)), (l5, .inl (cI, 4800, .inl ef)), (l6, .inl (cI, 4800, .inl eg)), (l7, .inl (cZ, 1120, .inl mt)), (l8, .inl (cI, 4, .inl fr1)), (l9, .inl (cI, 4, .inl tt1))]) (w1 := []) hP hD [] [0, 1, 2, 3, 4, 5, 6, 7, 8, 9] rfl rfl (by decide) (by decide) hk_51 hFc hB_51 ht_51
          clear hPc hDc hFc
          generalize H_51 = H at hP hS ⊢
          have hP := hP.sub (ws' := [(mo, .inr (2, [.int th, .ref l1, .ref l2, .int (nI n), .ref l3, .ref l4, .int (nI nk), .ref l5, .ref l6, .int (nI mn), .ref l7, .ref l8, .ref l9, .int (nI (cr_len c0)), .int fd])), (l1, .inl (cI, 2400, .inl f)), (l2, .inl (cI, 2400, .inl g)), (l3, .inl (cI, 2400, .inl kf)), (l4, .inl (cI, 2400, .inl kg)), (l5, .inl (cI, 4800, .inl ef)), (l6, .inl (cI, 4800, .inl eg)), (l7, .inl (cZ, 1120, .inl mt)), (l8, .inl (cI, 4, .inl fr1)), (l9, .inl (cI, 4, .inl tt1))]) [0, 1, 2, 3, 4, 5, 6, 7, 8, 9] rfl
          have hD := hD.sub (ws' := [(mo, .inr (2, [.int th, .ref l1, .ref l2, .int (nI n), .ref l3, .ref l4, .int (nI nk), .ref l5, .ref l6, .int (nI mn), .ref l7, .ref l8, .ref l9, .int (nI (cr_len c0)), .int fd])), (l1, .inl (cI, 2400, .inl f)), (l2, .inl (cI, 2400, .inl g)), (l3, .inl (cI, 2400, .inl kf)), (l4, .inl (cI, 2400, .inl kg)), (l5, .inl (cI, 4800, .inl ef)), (l6, .inl (cI, 4800, .inl eg)), (l7, .inl (cZ, 1120, .inl mt)), (l8, .inl (cI, 4, .inl fr1)), (l9, .inl (cI, 4, .inl tt1))]) [0, 1, 2, 3, 4, 5, 6, 7, 8, 9] (by decide) rfl
          refine lv_goto (tgt := 60) hx hb dM_isRow_54 (by decide) ?_
          refine cr_top (y := nI (cr_fr c0 d0 i)) (congrArg nI (cr_fr_t hsm).1.symm) ?_
          refine va_iast hx hb hK hP hD hS 8 0 rfl rfl (vp_in_nI (by omega) (by omega)) dM_isRow_60 (fun H locs hP hD hS => ?_)
          have hP : va_P (dC, dI) crCl [(mo, .inr (2, [.int th, .ref l1, .ref l2, .int (nI n), .ref l3, .ref l4, .int (nI nk), .ref l5, .ref l6, .int (nI mn), .ref l7, .ref l8, .ref l9, .int (nI (cr_len c0)), .int fd])), (l1, .inl (cI, 2400, .inl f)), (l2, .inl (cI, 2400, .inl g)), (l3, .inl (cI, 2400, .inl kf)), (l4, .inl (cI, 2400, .inl kg)), (l5, .inl (cI, 4800, .inl ef)), (l6, .inl (cI, 4800, .inl eg)), (l7, .inl (cZ, 1120, .inl mt)), (l8, .inl (cI, 4, .inl (upd fr1 (nI i).toNatClampNeg (nI (cr_fr c0 d0 i))))), (l9, .inl (cI, 4, .inl tt1))] H := hP
          have hD : va_D A [(mo, .inr (2, [.int th, .ref l1, .ref l2, .int (nI n), .ref l3, .ref l4, .int (nI nk), .ref l5, .ref l6, .int (nI mn), .ref l7, .ref l8, .ref l9, .int (nI (cr_len c0)), .int fd])), (l1, .inl (cI, 2400, .inl f)), (l2, .inl (cI, 2400, .inl g)), (l3, .inl (cI, 2400, .inl kf)), (l4, .inl (cI, 2400, .inl kg)), (l5, .inl (cI, 4800, .inl ef)), (l6, .inl (cI, 4800, .inl eg)), (l7, .inl (cZ, 1120, .inl mt)), (l8, .inl (cI, 4, .inl (upd fr1 (nI i).toNatClampNeg (nI (cr_fr c0 d0 i))))), (l9, .inl (cI, 4, .inl tt1))] := hD
          rw [nI_clamp (show i < 2 ^ 31 by omega)] at hP hD
          refine lv_aload_n hx hb dM_isRow_61 rfl (lv_at hl 0 rfl) ?_
          refine va_get (D := (dC, dI)) (ci := 2) (v := .ref l9) (C := RX2) (T := TM) (N := 15) hx hb hts (wsM00_in _) hown hK hP 0 rfl rfl 12 (by decide) (hts (.fieldLink RX2 35 "CharRowsModel" "to" "[I") (by decide +kernel)) (fun _ h9 => h9) rfl dM_isRow_62 ?_
          refine lv_iload hx hb dM_isRow_65 (lv_at hl 5 rfl) ?_
          refine lv_iload_n hx hb dM_isRow_67 rfl (lv_at hl 3 rfl) ?_
          refine lv_if_eq (tgt := 80) hx hb dM_isRow_68 (by decide) (fun c_68 => ?_) (fun c_68 => ?_)
          · exact absurd c_68 (by decide)
          · refine lv_iload_n hx hb dM_isRow_71 rfl (lv_at hl 2 rfl) ?_
            refine lv_iload hx hb dM_isRow_72 (lv_at hl 5 rfl) ?_
            have hPc := hP.sub (ws' := []) [] rfl
            have hDc := hD.sub (ws' := []) [] (by decide) rfl
            have hFc := va_free (wc := []) hD hS hA [] rfl
            refine va_calli (va_runS (As := [.int (nI d0), .int (nI i)]) (rest := [.int (nI i), .ref l9]) ⟨hx, hb, hml, hown, hts⟩ (m_byteOf l dC dI _ d0 i (by omega) (by omega)) (va_cwS 2 hts gM_isRow_M_byteOf rfl rfl rfl (by decide +kernel) ⟨Nat.le_of_ble_eq_true rfl, Nat.le_of_ble_eq_true rfl⟩) (cr_preS hPc (hK.sub (tys' := []) [] rfl) hDc) rfl rfl hl.1 rfl (lv_room (Nat.le_of_ble_eq_true rfl)) dM_isRow_74 ⟨Nat.zero_le _, Nat.zero_le _⟩) hS (fun q _ h => hFc q h) hFc (fun r_74 u_74 t_74 H_74 locs ht_74 hvm_74 hw_74 hB_74 hz_74 hk_74 hS => ?_)
            obtain ⟨rfl, rfl⟩ := hw_74
            obtain ⟨hP, hD⟩ := cr_back (wr := [(mo, .inr (2, [.int th, .ref l1, .ref l2, .int (nI n), .ref l3, .ref l4, .int (nI nk), .ref l5, .ref l6, .int (nI mn), .ref l7, .ref l8, .ref l9, .int (nI (cr_len c0)), .int fd])), (l1, .inl (cI, 2400, .inl f)), (l2, .inl (cI, 2400, .inl g)), (l3, .inl (cI, 2400, .inl kf)), (l4, .inl (cI, 2400, .inl kg)), (l5, .inl (cI, 4800, .inl ef)), (l6, .inl (cI, 4800, .inl eg)), (l7, .inl (cZ, 1120, .inl mt)), (l8, .inl (cI, 4, .inl (upd fr1 i (nI (cr_fr c0 d0 i))))), (l9, .inl (cI, 4, .inl tt1))]) (w1 := []) hP hD [] [0, 1, 2, 3, 4, 5, 6, 7, 8, 9] rfl rfl (by decide) (by decide) hk_74 hFc hB_74 ht_74
            clear hPc hDc hFc
            generalize H_74 = H at hP hS ⊢
            have hP := hP.sub (ws' := [(mo, .inr (2, [.int th, .ref l1, .ref l2, .int (nI n), .ref l3, .ref l4, .int (nI nk), .ref l5, .ref l6, .int (nI mn), .ref l7, .ref l8, .ref l9, .int (nI (cr_len c0)), .int fd])), (l1, .inl (cI, 2400, .inl f)), (l2, .inl (cI, 2400, .inl g)), (l3, .inl (cI, 2400, .inl kf)), (l4, .inl (cI, 2400, .inl kg)), (l5, .inl (cI, 4800, .inl ef)), (l6, .inl (cI, 4800, .inl eg)), (l7, .inl (cZ, 1120, .inl mt)), (l8, .inl (cI, 4, .inl (upd fr1 i (nI (cr_fr c0 d0 i))))), (l9, .inl (cI, 4, .inl tt1))]) [0, 1, 2, 3, 4, 5, 6, 7, 8, 9] rfl
            have hD := hD.sub (ws' := [(mo, .inr (2, [.int th, .ref l1, .ref l2, .int (nI n), .ref l3, .ref l4, .int (nI nk), .ref l5, .ref l6, .int (nI mn), .ref l7, .ref l8, .ref l9, .int (nI (cr_len c0)), .int fd])), (l1, .inl (cI, 2400, .inl f)), (l2, .inl (cI, 2400, .inl g)), (l3, .inl (cI, 2400, .inl kf)), (l4, .inl (cI, 2400, .inl kg)), (l5, .inl (cI, 4800, .inl ef)), (l6, .inl (cI, 4800, .inl eg)), (l7, .inl (cZ, 1120, .inl mt)), (l8, .inl (cI, 4, .inl (upd fr1 i (nI (cr_fr c0 d0 i))))), (l9, .inl (cI, 4, .inl tt1))]) [0, 1, 2, 3, 4, 5, 6, 7, 8, 9] (by decide) rfl
            refine lv_goto (tgt := 83) hx hb dM_isRow_77 (by decide) ?_
            refine cr_top (y := nI (cr_to c0 d0 i)) (congrArg nI (cr_fr_t hsm).2.symm) ?_
            refine va_iast hx hb hK hP hD hS 9 0 rfl rfl (vp_in_nI (by omega) (by omega)) dM_isRow_83 (fun H locs hP hD hS => ?_)
            have hP : va_P (dC, dI) crCl [(mo, .inr (2, [.int th, .ref l1, .ref l2, .int (nI n), .ref l3, .ref l4, .int (nI nk), .ref l5, .ref l6, .int (nI mn), .ref l7, .ref l8, .ref l9, .int (nI (cr_len c0)), .int fd])), (l1, .inl (cI, 2400, .inl f)), (l2, .inl (cI, 2400, .inl g)), (l3, .inl (cI, 2400, .inl kf)), (l4, .inl (cI, 2400, .inl kg)), (l5, .inl (cI, 4800, .inl ef)), (l6, .inl (cI, 4800, .inl eg)), (l7, .inl (cZ, 1120, .inl mt)), (l8, .inl (cI, 4, .inl (upd fr1 i (nI (cr_fr c0 d0 i))))), (l9, .inl (cI, 4, .inl (upd tt1 (nI i).toNatClampNeg (nI (cr_to c0 d0 i)))))] H := hP
            have hD : va_D A [(mo, .inr (2, [.int th, .ref l1, .ref l2, .int (nI n), .ref l3, .ref l4, .int (nI nk), .ref l5, .ref l6, .int (nI mn), .ref l7, .ref l8, .ref l9, .int (nI (cr_len c0)), .int fd])), (l1, .inl (cI, 2400, .inl f)), (l2, .inl (cI, 2400, .inl g)), (l3, .inl (cI, 2400, .inl kf)), (l4, .inl (cI, 2400, .inl kg)), (l5, .inl (cI, 4800, .inl ef)), (l6, .inl (cI, 4800, .inl eg)), (l7, .inl (cZ, 1120, .inl mt)), (l8, .inl (cI, 4, .inl (upd fr1 i (nI (cr_fr c0 d0 i))))), (l9, .inl (cI, 4, .inl (upd tt1 (nI i).toNatClampNeg (nI (cr_to c0 d0 i)))))] := hD
            rw [nI_clamp (show i < 2 ^ 31 by omega)] at hP hD
            refine lv_iload hx hb dM_isRow_84 (lv_at hl 4 rfl) ?_
            refine lv_aload_n hx hb dM_isRow_86 rfl (lv_at hl 0 rfl) ?_
            refine va_get (D := (dC, dI)) (ci := 2) (v := .ref l9) (C := RX2) (T := TM) (N := 15) hx hb hts (wsM00_in _) hown hK hP 0 rfl rfl 12 (by decide) (hts (.fieldLink RX2 35 "CharRowsModel" "to" "[I") (by decide +kernel)) (fun _ h9 => h9) rfl dM_isRow_87 ?_
            refine lv_iload hx hb dM_isRow_90 (lv_at hl 5 rfl) ?_
            refine va_iald hx hb hK hP 9 0 rfl rfl (vp_in_nI (by omega) (by omega)) dM_isRow_92 ?_
            refine cr_top (y := nI (cr_to c0 d0 i)) (by rw [nI_clamp (by omega), pk_us]) ?_
            refine lv_aload_n hx hb dM_isRow_93 rfl (lv_at hl 0 rfl) ?_
            refine va_get (D := (dC, dI)) (ci := 2) (v := .ref l8) (C := RX2) (T := TM) (N := 15) hx hb hts (wsM00_in _) hown hK hP 0 rfl rfl 11 (by decide) (hts (.fieldLink RX2 32 "CharRowsModel" "from" "[I") (by decide +kernel)) (fun _ h9 => h9) rfl dM_isRow_94 ?_
            refine lv_iload hx hb dM_isRow_97 (lv_at hl 5 rfl) ?_
            refine va_iald hx hb hK hP 8 0 rfl rfl (vp_in_nI (by omega) (by omega)) dM_isRow_99 ?_
            refine cr_top (y := nI (cr_fr c0 d0 i)) (by rw [nI_clamp (by omega), pk_us]) ?_
            refine lv_isub hx hb dM_isRow_100 ?_
            refine cr_top (y := nI ((cr_to c0 d0 i) - (cr_fr c0 d0 i))) (pk_sub (by omega)) ?_
            refine lv_iconst (v := nI 1) hx hb dM_isRow_101 (by decide) ?_
            refine lv_iadd hx hb dM_isRow_102 ?_
            refine cr_top (y := nI (((cr_to c0 d0 i) - (cr_fr c0 d0 i)) + 1)) (nI_add ((cr_to c0 d0 i) - (cr_fr c0 d0 i)) 1) ?_
            refine lv_imul hx hb dM_isRow_103 ?_
            refine cr_top (y := nI ((cr_all c0 d0 i) * (((cr_to c0 d0 i) - (cr_fr c0 d0 i)) + 1))) (pk_mul (cr_all c0 d0 i) (((cr_to c0 d0 i) - (cr_fr c0 d0 i)) + 1)) ?_
            refine cr_top (y := nI (cr_all c0 d0 (i + 1))) (rfl) ?_
            refine lv_istore (lv' := [(4, .int (nI (cr_all c0 d0 (i + 1)))), (0, .ref mo), (1, .int (nI c0)), (2, .int (nI d0)), (3, .int (nI 1)), (5, .int (nI i))]) hx hb dM_isRow_104 hl (by decide) rfl (fun ls hl => ?_)
            refine lv_iload_n hx hb dM_isRow_106 rfl (lv_at hl 4 rfl) ?_
            refine lv_if_eq (tgt := 131) hx hb dM_isRow_107 (by decide) (fun c_107 => ?_) (fun c_107 => ?_)
            · exact absurd c_107 (by decide)
            · refine lv_aload_n hx hb dM_isRow_110 rfl (lv_at hl 1 rfl) ?_
              refine va_get (D := (dC, dI)) (ci := 2) (v := .ref l8) (C := RX2) (T := TM) (N := 15) hx hb hts (wsM00_in _) hown hK hP 0 rfl rfl 11 (by decide) (hts (.fieldLink RX2 32 "CharRowsModel" "from" "[I") (by decide +kernel)) (fun _ h9 => h9) rfl dM_isRow_111 ?_
              refine lv_iload hx hb dM_isRow_114 (lv_at hl 5 rfl) ?_
              refine va_iald hx hb hK hP 8 0 rfl rfl (vp_in_nI (by omega) (by omega)) dM_isRow_116 ?_
              refine cr_top (y := nI (cr_fr c0 d0 i)) (by rw [nI_clamp (by omega), pk_us]) ?_
              refine lv_aload_n hx hb dM_isRow_117 rfl (lv_at hl 1 rfl) ?_
              refine va_get (D := (dC, dI)) (ci := 2) (v := .ref l9) (C := RX2) (T := TM) (N := 15) hx hb hts (wsM00_in _) hown hK hP 0 rfl rfl 12 (by decide) (hts (.fieldLink RX2 35 "CharRowsModel" "to" "[I") (by decide +kernel)) (fun _ h9 => h9) rfl dM_isRow_118 ?_
              refine lv_iload hx hb dM_isRow_121 (lv_at hl 5 rfl) ?_
              refine va_iald hx hb hK hP 9 0 rfl rfl (vp_in_nI (by omega) (by omega)) dM_isRow_123 ?_
              refine cr_top (y := nI (cr_to c0 d0 i)) (by rw [nI_clamp (by omega), pk_us]) ?_
              refine lv_icmp_ne (tgt := 131) hx hb dM_isRow_124 (by decide) (fun c_124 => ?_) (fun c_124 => ?_)
              · rw [nI_eq (by omega) (by omega)] at c_124
                refine lv_iconst (v := nI 0) hx hb dM_isRow_131 (by decide) ?_
                refine lv_istore_n (lv' := [(3, .int (nI 0)), (4, .int (nI (cr_all c0 d0 (i + 1)))), (0, .ref mo), (1, .int (nI c0)), (2, .int (nI d0)), (5, .int (nI i))]) hx hb dM_isRow_132 rfl hl (by decide) rfl (fun ls hl => ?_)
                refine lv_iinc (v := nI (i + 1)) (lv' := [(5, .int (nI (i + 1))), (3, .int (nI 0)), (4, .int (nI (cr_all c0 d0 (i + 1)))), (0, .ref mo), (1, .int (nI c0)), (2, .int (nI d0))]) hx hb dM_isRow_133 hl (k := 5) rfl (nI_add i 1) (by decide) rfl (fun ls hl => ?_)
                refine lv_goto (tgt := 29) hx hb dM_isRow_136 (by decide) ?_
                exact ih29 (i + 1) (nI 0) (upd fr1 i (nI (cr_fr c0 d0 i))) (upd tt1 i (nI (cr_to c0 d0 i))) _ _ _ ⟨⟨by omega, Or.inr ⟨rfl, cr_sm_f1 hsm c_124⟩, cr_isrow_s h3⟩, hP, hD, hS, lv_sub hl [3, 4, 5, 1, 2, 0] rfl⟩ (by omega)
              · rw [nI_eq (by omega) (by omega)] at c_124
                refine lv_iconst (v := nI 1) hx hb dM_isRow_127 (by decide) ?_
                refine lv_goto (tgt := 132) hx hb dM_isRow_128 (by decide) ?_
                refine lv_istore_n (lv' := [(3, .int (nI 1)), (4, .int (nI (cr_all c0 d0 (i + 1)))), (0, .ref mo), (1, .int (nI c0)), (2, .int (nI d0)), (5, .int (nI i))]) hx hb dM_isRow_132 rfl hl (by decide) rfl (fun ls hl => ?_)
                refine lv_iinc (v := nI (i + 1)) (lv' := [(5, .int (nI (i + 1))), (3, .int (nI 1)), (4, .int (nI (cr_all c0 d0 (i + 1)))), (0, .ref mo), (1, .int (nI c0)), (2, .int (nI d0))]) hx hb dM_isRow_133 hl (k := 5) rfl (nI_add i 1) (by decide) rfl (fun ls hl => ?_)
                refine lv_goto (tgt := 29) hx hb dM_isRow_136 (by decide) ?_
                exact ih29 (i + 1) (nI 1) (upd fr1 i (nI (cr_fr c0 d0 i))) (upd tt1 i (nI (cr_to c0 d0 i))) _ _ _ ⟨⟨by omega, Or.inl ⟨rfl, cr_sm_t hsm c_124⟩, cr_isrow_s h3⟩, hP, hD, hS, lv_sub hl [3, 4, 5, 1, 2, 0] rfl⟩ (by omega)
    · refine lv_iload hx hb dM_isRow_29 (lv_at hl 5 rfl) ?_
      refine lv_aload_n hx hb dM_isRow_31 rfl (lv_at hl 0 rfl) ?_
      refine va_get (D := (dC, dI)) (ci := 2) (v := .int (nI (cr_len c0))) (C := RX2) (T := TM) (N := 15) hx hb hts (wsM00_in _) hown hK hP 0 rfl rfl 13 (by decide) (hts (.fieldLink RX2 78 "CharRowsModel" "bytes" "I") (by decide +kernel)) (fun _ h9 => h9) rfl dM_isRow_32 ?_
      refine lv_icmp_ge (tgt := 139) hx hb dM_isRow_35 (by decide) (fun c_35 => ?_) (fun c_35 => ?_)
      · rw [nI_leI (by omega) (by omega)] at c_35
        have hil : i = cr_len c0 := by omega
        rw [← hil] at hall hg
        refine lv_iload hx hb dM_isRow_139 (lv_at hl 4 rfl) ?_
        refine lv_iload_n hx hb dM_isRow_141 rfl (lv_at hl 2 rfl) ?_
        refine lv_iload_n hx hb dM_isRow_142 rfl (lv_at hl 1 rfl) ?_
        refine lv_isub hx hb dM_isRow_143 ?_
        refine cr_top (y := nI (d0 - c0)) (pk_sub (by omega)) ?_
        refine lv_iconst (v := nI 1) hx hb dM_isRow_144 (by decide) ?_
        refine lv_iadd hx hb dM_isRow_145 ?_
        refine cr_top (y := nI ((d0 - c0) + 1)) (nI_add (d0 - c0) 1) ?_
        refine lv_icmp_ne (tgt := 153) hx hb dM_isRow_146 (by decide) (fun c_146 => ?_) (fun c_146 => ?_)
        · rw [nI_eq (by omega) (by omega)] at c_146
          refine lv_iconst (v := nI 0) hx hb dM_isRow_153 (by decide) ?_
          exact W.zret (v := nI 0) (ty := .boolean) hx hb hr (by first | rfl | decide) (fun t9 ht9 hW9 => ⟨⟨nI 0, [(mo, .inr (2, [.int th, .ref l1, .ref l2, .int (nI n), .ref l3, .ref l4, .int (nI nk), .ref l5, .ref l6, .int (nI mn), .ref l7, .ref l8, .ref l9, .int (nI (cr_len c0)), .int fd])), (l1, .inl (cI, 2400, .inl f)), (l2, .inl (cI, 2400, .inl g)), (l3, .inl (cI, 2400, .inl kf)), (l4, .inl (cI, 2400, .inl kg)), (l5, .inl (cI, 4800, .inl ef)), (l6, .inl (cI, 4800, .inl eg)), (l7, .inl (cZ, 1120, .inl mt)), (l8, .inl (cI, 4, .inl fr1)), (l9, .inl (cI, 4, .inl tt1))], rfl, ⟨fr1, tt1, rfl, Or.inr ⟨rfl, fun h => c_146 (hg.2.1.2 h)⟩, fun h j hj => by have a := hg.2.2 h j (by omega); have q := h3 j (by omega); rw [a.1, a.2] at q; exact q⟩, by rw [ht9]; exact hP, va_K.moved hW9.alike hK, hD⟩, hS.F ht9⟩) hS.2.2 dM_isRow_154
        · rw [nI_eq (by omega) (by omega)] at c_146
          refine lv_iconst (v := nI 1) hx hb dM_isRow_149 (by decide) ?_
          refine lv_goto (tgt := 154) hx hb dM_isRow_150 (by decide) ?_
          exact W.zret (v := nI 1) (ty := .boolean) hx hb hr (by first | rfl | decide) (fun t9 ht9 hW9 => ⟨⟨nI 1, [(mo, .inr (2, [.int th, .ref l1, .ref l2, .int (nI n), .ref l3, .ref l4, .int (nI nk), .ref l5, .ref l6, .int (nI mn), .ref l7, .ref l8, .ref l9, .int (nI (cr_len c0)), .int fd])), (l1, .inl (cI, 2400, .inl f)), (l2, .inl (cI, 2400, .inl g)), (l3, .inl (cI, 2400, .inl kf)), (l4, .inl (cI, 2400, .inl kg)), (l5, .inl (cI, 4800, .inl ef)), (l6, .inl (cI, 4800, .inl eg)), (l7, .inl (cZ, 1120, .inl mt)), (l8, .inl (cI, 4, .inl fr1)), (l9, .inl (cI, 4, .inl tt1))], rfl, ⟨fr1, tt1, rfl, Or.inl ⟨rfl, hg.2.1.1 c_146⟩, fun h j hj => by have a := hg.2.2 h j (by omega); have q := h3 j (by omega); rw [a.1, a.2] at q; exact q⟩, by rw [ht9]; exact hP, va_K.moved hW9.alike hK, hD⟩, hS.F ht9⟩) hS.2.2 dM_isRow_154
      · rw [nI_leI (by omega) (by omega)] at c_35
        have hft := hg.1 i (by omega)
        refine lv_aload_n hx hb dM_isRow_38 rfl (lv_at hl 0 rfl) ?_
        refine va_get (D := (dC, dI)) (ci := 2) (v := .ref l8) (C := RX2) (T := TM) (N := 15) hx hb hts (wsM00_in _) hown hK hP 0 rfl rfl 11 (by decide) (hts (.fieldLink RX2 32 "CharRowsModel" "from" "[I") (by decide +kernel)) (fun _ h9 => h9) rfl dM_isRow_39 ?_
        refine lv_iload hx hb dM_isRow_42 (lv_at hl 5 rfl) ?_
        refine lv_iload_n hx hb dM_isRow_44 rfl (lv_at hl 3 rfl) ?_
        refine lv_if_eq (tgt := 57) hx hb dM_isRow_45 (by decide) (fun c_45 => ?_) (fun c_45 => ?_)
        · refine lv_sipush (v := nI 128) hx hb dM_isRow_57 (by decide) ?_
          refine cr_top (y := nI (cr_fr c0 d0 i)) (congrArg nI (cr_fr_f hsm).1.symm) ?_
          refine va_iast hx hb hK hP hD hS 8 0 rfl rfl (vp_in_nI (by omega) (by omega)) dM_isRow_60 (fun H locs hP hD hS => ?_)
          have hP : va_P (dC, dI) crCl [(mo, .inr (2, [.int th, .ref l1, .ref l2, .int (nI n), .ref l3, .ref l4, .int (nI nk), .ref l5, .ref l6, .int (nI mn), .ref l7, .ref l8, .ref l9, .int (nI (cr_len c0)), .int fd])), (l1, .inl (cI, 2400, .inl f)), (l2, .inl (cI, 2400, .inl g)), (l3, .inl (cI, 2400, .inl kf)), (l4, .inl (cI, 2400, .inl kg)), (l5, .inl (cI, 4800, .inl ef)), (l6, .inl (cI, 4800, .inl eg)), (l7, .inl (cZ, 1120, .inl mt)), (l8, .inl (cI, 4, .inl (upd fr1 (nI i).toNatClampNeg (nI (cr_fr c0 d0 i))))), (l9, .inl (cI, 4, .inl tt1))] H := hP
          have hD : va_D A [(mo, .inr (2, [.int th, .ref l1, .ref l2, .int (nI n), .ref l3, .ref l4, .int (nI nk), .ref l5, .ref l6, .int (nI mn), .ref l7, .ref l8, .ref l9, .int (nI (cr_len c0)), .int fd])), (l1, .inl (cI, 2400, .inl f)), (l2, .inl (cI, 2400, .inl g)), (l3, .inl (cI, 2400, .inl kf)), (l4, .inl (cI, 2400, .inl kg)), (l5, .inl (cI, 4800, .inl ef)), (l6, .inl (cI, 4800, .inl eg)), (l7, .inl (cZ, 1120, .inl mt)), (l8, .inl (cI, 4, .inl (upd fr1 (nI i).toNatClampNeg (nI (cr_fr c0 d0 i))))), (l9, .inl (cI, 4, .inl tt1))] := hD
          rw [nI_clamp (show i < 2 ^ 31 by omega)] at hP hD
          refine lv_aload_n hx hb dM_isRow_61 rfl (lv_at hl 0 rfl) ?_
          refine va_get (D := (dC, dI)) (ci := 2) (v := .ref l9) (C := RX2) (T := TM) (N := 15) hx hb hts (wsM00_in _) hown hK hP 0 rfl rfl 12 (by decide) (hts (.fieldLink RX2 35 "CharRowsModel" "to" "[I") (by decide +kernel)) (fun _ h9 => h9) rfl dM_isRow_62 ?_
          refine lv_iload hx hb dM_isRow_65 (lv_at hl 5 rfl) ?_
          refine lv_iload_n hx hb dM_isRow_67 rfl (lv_at hl 3 rfl) ?_
          refine lv_if_eq (tgt := 80) hx hb dM_isRow_68 (by decide) (fun c_68 => ?_) (fun c_68 => ?_)
          · refine lv_sipush (v := nI 191) hx hb dM_isRow_80 (by decide) ?_
            refine cr_top (y := nI (cr_to c0 d0 i)) (congrArg nI (cr_fr_f hsm).2.symm) ?_
            refine va_iast hx hb hK hP hD hS 9 0 rfl rfl (vp_in_nI (by omega) (by omega)) dM_isRow_83 (fun H locs hP hD hS => ?_)
            have hP : va_P (dC, dI) crCl [(mo, .inr (2, [.int th, .ref l1, .ref l2, .int (nI n), .ref l3, .ref l4, .int (nI nk), .ref l5, .ref l6, .int (nI mn), .ref l7, .ref l8, .ref l9, .int (nI (cr_len c0)), .int fd])), (l1, .inl (cI, 2400, .inl f)), (l2, .inl (cI, 2400, .inl g)), (l3, .inl (cI, 2400, .inl kf)), (l4, .inl (cI, 2400, .inl kg)), (l5, .inl (cI, 4800, .inl ef)), (l6, .inl (cI, 4800, .inl eg)), (l7, .inl (cZ, 1120, .inl mt)), (l8, .inl (cI, 4, .inl (upd fr1 i (nI (cr_fr c0 d0 i))))), (l9, .inl (cI, 4, .inl (upd tt1 (nI i).toNatClampNeg (nI (cr_to c0 d0 i)))))] H := hP
            have hD : va_D A [(mo, .inr (2, [.int th, .ref l1, .ref l2, .int (nI n), .ref l3, .ref l4, .int (nI nk), .ref l5, .ref l6, .int (nI mn), .ref l7, .ref l8, .ref l9, .int (nI (cr_len c0)), .int fd])), (l1, .inl (cI, 2400, .inl f)), (l2, .inl (cI, 2400, .inl g)), (l3, .inl (cI, 2400, .inl kf)), (l4, .inl (cI, 2400, .inl kg)), (l5, .inl (cI, 4800, .inl ef)), (l6, .inl (cI, 4800, .inl eg)), (l7, .inl (cZ, 1120, .inl mt)), (l8, .inl (cI, 4, .inl (upd fr1 i (nI (cr_fr c0 d0 i))))), (l9, .inl (cI, 4, .inl (upd tt1 (nI i).toNatClampNeg (nI (cr_to c0 d0 i)))))] := hD
            rw [nI_clamp (show i < 2 ^ 31 by omega)] at hP hD
            refine lv_iload hx hb dM_isRow_84 (lv_at hl 4 rfl) ?_
            refine lv_aload_n hx hb dM_isRow_86 rfl (lv_at hl 0 rfl) ?_
            refine va_get (D := (dC, dI)) (ci := 2) (v := .ref l9) (C := RX2) (T := TM) (N := 15) hx hb hts (wsM00_in _) hown hK hP 0 rfl rfl 12 (by decide) (hts (.fieldLink RX2 35 "CharRowsModel" "to" "[I") (by decide +kernel)) (fun _ h9 => h9) rfl dM_isRow_87 ?_
            refine lv_iload hx hb dM_isRow_90 (lv_at hl 5 rfl) ?_
            refine va_iald hx hb hK hP 9 0 rfl rfl (vp_in_nI (by omega) (by omega)) dM_isRow_92 ?_
            refine cr_top (y := nI (cr_to c0 d0 i)) (by rw [nI_clamp (by omega), pk_us]) ?_
            refine lv_aload_n hx hb dM_isRow_93 rfl (lv_at hl 0 rfl) ?_
            refine va_get (D := (dC, dI)) (ci := 2) (v := .ref l8) (C := RX2) (T := TM) (N := 15) hx hb hts (wsM00_in _) hown hK hP 0 rfl rfl 11 (by decide) (hts (.fieldLink RX2 32 "CharRowsModel" "from" "[I") (by decide +kernel)) (fun _ h9 => h9) rfl dM_isRow_94 ?_
            refine lv_iload hx hb dM_isRow_97 (lv_at hl 5 rfl) ?_
            refine va_iald hx hb hK hP 8 0 rfl rfl (vp_in_nI (by omega) (by omega)) dM_isRow_99 ?_
            refine cr_top (y := nI (cr_fr c0 d0 i)) (by rw [nI_clamp (by omega), pk_us]) ?_
            refine lv_isub hx hb dM_isRow_100 ?_
            refine cr_top (y := nI ((cr_to c0 d0 i) - (cr_fr c0 d0 i))) (pk_sub (by omega)) ?_
            refine lv_iconst (v := nI 1) hx hb dM_isRow_101 (by decide) ?_
            refine lv_iadd hx hb dM_isRow_102 ?_
            refine cr_top (y := nI (((cr_to c0 d0 i) - (cr_fr c0 d0 i)) + 1)) (nI_add ((cr_to c0 d0 i) - (cr_fr c0 d0 i)) 1) ?_
            refine lv_imul hx hb dM_isRow_103 ?_
            refine cr_top (y := nI ((cr_all c0 d0 i) * (((cr_to c0 d0 i) - (cr_fr c0 d0 i)) + 1))) (pk_mul (cr_all c0 d0 i) (((cr_to c0 d0 i) - (cr_fr c0 d0 i)) + 1)) ?_
            refine cr_top (y := nI (cr_all c0 d0 (i + 1))) (rfl) ?_
            refine lv_istore (lv' := [(4, .int (nI (cr_all c0 d0 (i + 1)))), (0, .ref mo), (1, .int (nI c0)), (2, .int (nI d0)), (3, .int (nI 0)), (5, .int (nI i))]) hx hb dM_isRow_104 hl (by decide) rfl (fun ls hl => ?_)
            refine lv_iload_n hx hb dM_isRow_106 rfl (lv_at hl 4 rfl) ?_
            refine lv_if_eq (tgt := 131) hx hb dM_isRow_107 (by decide) (fun c_107 => ?_) (fun c_107 => ?_)
            · refine lv_iconst (v := nI 0) hx hb dM_isRow_131 (by decide) ?_
              refine lv_istore_n (lv' := [(3, .int (nI 0)), (4, .int (nI (cr_all c0 d0 (i + 1)))), (0, .ref mo), (1, .int (nI c0)), (2, .int (nI d0)), (5, .int (nI i))]) hx hb dM_isRow_132 rfl hl (by decide) rfl (fun ls hl => ?_)
              refine lv_iinc (v := nI (i + 1)) (lv' := [(5, .int (nI (i + 1))), (3, .int (nI 0)), (4, .int (nI (cr_all c0 d0 (i + 1)))), (0, .ref mo), (1, .int (nI c0)), (2, .int (nI d0))]) hx hb dM_isRow_133 hl (k := 5) rfl (nI_add i 1) (by decide) rfl (fun ls hl => ?_)
              refine lv_goto (tgt := 29) hx hb dM_isRow_136 (by decide) ?_
              exact ih29 (i + 1) (nI 0) (upd fr1 i (nI (cr_fr c0 d0 i))) (upd tt1 i (nI (cr_to c0 d0 i))) _ _ _ ⟨⟨by omega, Or.inr ⟨rfl, cr_sm_f0 hsm⟩, cr_isrow_s h3⟩, hP, hD, hS, lv_sub hl [3, 4, 5, 1, 2, 0] rfl⟩ (by omega)
            · exact absurd (by decide) c_107
          · exact absurd (by decide) c_68
        · exact absurd (by decide) c_45
  · rw [nI_eq (by omega) (by omega)] at c_16
    refine lv_iconst (v := nI 0) hx hb dM_isRow_19 (by decide) ?_
    exact W.zret (v := nI 0) (ty := .boolean) hx hb hr (by first | rfl | decide) (fun t9 ht9 hW9 => ⟨⟨nI 0, [(mo, .inr (2, [.int th, .ref l1, .ref l2, .int (nI n), .ref l3, .ref l4, .int (nI nk), .ref l5, .ref l6, .int (nI mn), .ref l7, .ref l8, .ref l9, .int (nI (cr_len c0)), .int fd])), (l1, .inl (cI, 2400, .inl f)), (l2, .inl (cI, 2400, .inl g)), (l3, .inl (cI, 2400, .inl kf)), (l4, .inl (cI, 2400, .inl kg)), (l5, .inl (cI, 4800, .inl ef)), (l6, .inl (cI, 4800, .inl eg)), (l7, .inl (cZ, 1120, .inl mt)), (l8, .inl (cI, 4, .inl fr)), (l9, .inl (cI, 4, .inl tt))], rfl, ⟨fr, tt, rfl, Or.inr ⟨rfl, fun h => c_16 h.1.symm⟩, fun h => absurd h.1.symm c_16⟩, by rw [ht9]; exact hP, va_K.moved hW9.alike hK, hD⟩, hS.F ht9⟩) hS.2.2 dM_isRow_20

