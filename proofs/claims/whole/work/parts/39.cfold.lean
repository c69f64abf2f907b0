set_option maxHeartbeats 4000000 in
set_option maxRecDepth 100000 in
theorem c_foldLetters (l : Launch) (dC : Nat → ClassId) (dI : Nat → Nat → Nat) (sz : Nat) (tL tP : Nat) (x r r2 r3 a b : Nat) (cI : ClassId) (n : Nat) (f g : Nat → Int32) (S : Nat → Prop) (hSet : cr_Set n f g S) (P : List Nat) (hB : cr_Bd P S) (hF : ∀ c, c ∈ cr_F → c ∈ P) (hPl : P.length ≤ 1400) : Met l yX1_foldLetters wsX1_foldLetters ({ frames := 6, cells := 0, slots := 0, locals := 220 }) (va_Pc [.ref x] (cr_preT tL tP dC dI [(cI, .int)] [(x, .inr (1, [.ref r, .ref r2, .ref r3])), (r, .inr (0, [.ref a, .ref b, .int (nI n)])), (a, .inl (cI, 768, .inl f)), (b, .inl (cI, 768, .inl g))] sz)) (va_Qv (fun (u : va_W) => ∃ (n' : Nat) (f' g' : Nat → Int32), u = [(x, .inr (1, [.ref r, .ref r2, .ref r3])), (r, .inr (0, [.ref a, .ref b, .int (nI n')])), (a, .inl (cI, 768, .inl f')), (b, .inl (cI, 768, .inl g'))] ∧ n' ≤ 768 ∧ cr_Set n' f' g' (fun c => cr_L S c)) (cr_at dC dI [(cI, .int)] (va_A [(x, .inr (1, [.ref r, .ref r2, .ref r3])), (r, .inr (0, [.ref a, .ref b, .int (nI n)])), (a, .inl (cI, 768, .inl f)), (b, .inl (cI, 768, .inl g))] sz)) (va_A [(x, .inr (1, [.ref r, .ref r2, .ref r3])), (r, .inr (0, [.ref a, .ref b, .int (nI n)])), (a, .inl (cI, 768, .inl f)), (b, .inl (cI, 768, .inl g))] sz)) 0 0 (va_A [(x, .inr (1, [.ref r, .ref r2, .ref r3])), (r, .inr (0, [.ref a, .ref b, .int (nI n)])), (a, .inl (cI, 768, .inl f)), (b, .inl (cI, 768, .inl g))] sz) := by
  refine Met.ofW (cc := cX1_foldLetters) (maxL := 4) (ret := none) (by decide) rfl ?_
  intro p e s m args below meth c s₁ B hml hv
  obtain ⟨rfl, ⟨⟨hsz, hP, hK, hD0⟩, hN⟩, hT⟩ := hv
  have hx := B.exec
  have hb := B.bytes
  have hr := B.returns
  have hts := atoms_spec (ws := wsX1_foldLetters) B.pre
  have hown : s.vm.findClass RX1 = some m.cls := findClass_of_methodNamed B.named
  have hlocks := B.notSynchronized
  subst hsz
  have hD := hD0.self (sz := s.heap.size)
  generalize hAe : va_A [(x, .inr (1, [.ref r, .ref r2, .ref r3])), (r, .inr (0, [.ref a, .ref b, .int (nI n)])), (a, .inl (cI, 768, .inl f)), (b, .inl (cI, 768, .inl g))] s.heap.size = A at hD hT ⊢
  have hA : ∀ q : Nat, s.heap.size ≤ q → A q := fun q h => by rw [← hAe]; exact Or.inr h
  have hS : va_S A s.heap s.heap [] := va_S.rf
  have hP : va_P (dC, dI) crCl [(x, .inr (1, [.ref r, .ref r2, .ref r3])), (r, .inr (0, [.ref a, .ref b, .int (nI n)])), (a, .inl (cI, 768, .inl f)), (b, .inl (cI, 768, .inl g))] s.heap := hP
  have hl := lv_entry ([.ref x]) (n := 4) (Nat.le_of_ble_eq_true rfl)
  rw [lg_entry_eq]
  generalize (lg_sl ([.ref x]) ++ List.replicate (4 - (lg_sl ([.ref x])).length) Slot.unset).toArray = ls at hl ⊢
  have hl : lv_has ls 4 [(0, .ref x)] := hl
  refine lv_iconst (v := nI 0) hx hb dX1_foldLetters_0 (by decide) ?_
  refine lv_istore_n (lv' := [(1, .int (nI 0)), (0, .ref x)]) hx hb dX1_foldLetters_1 rfl hl (by decide) rfl (fun ls hl => ?_)
  refine lv_iload_n hx hb dX1_foldLetters_2 rfl (lv_at hl 0 rfl) ?_
  refine lv_iconst (v := nI 2) hx hb dX1_foldLetters_3 (by decide) ?_
  refine lv_iadd hx hb dX1_foldLetters_4 ?_
  refine cr_top (y := nI 2) (by decide) ?_
  refine va_gets hx hb hT.1 hS hown (hts (.fieldLink RX1 104 "CharRows" "LETTERS" "[I") (by decide +kernel)) (fun _ h9 => h9) dX1_foldLetters_5 ?_
  refine va_tlen (v := nI 18) hx hb hT.2.1 hS rfl dX1_foldLetters_8 ?_
  refine lv_icmp_ge (tgt := 57) hx hb dX1_foldLetters_9 (by decide) (fun c_9 => ?_) (fun c_9 => ?_)
  · exact absurd c_9 (by decide)
  · refine va_gets hx hb hT.1 hS hown (hts (.fieldLink RX1 104 "CharRows" "LETTERS" "[I") (by decide +kernel)) (fun _ h9 => h9) dX1_foldLetters_12 ?_
    refine lv_iload_n hx hb dX1_foldLetters_15 rfl (lv_at hl 0 rfl) ?_
    refine lv_iconst (v := nI 2) hx hb dX1_foldLetters_16 (by decide) ?_
    refine lv_iadd hx hb dX1_foldLetters_17 ?_
    refine cr_top (y := nI 2) (by decide) ?_
    refine va_ti (v := .int (nI 32)) hx hb hT.2.1 hS (vp_in_nI (by omega) (by omega)) (by rw [nI_clamp (by omega)]; rfl) dX1_foldLetters_18 ?_
    refine lv_istore_n (lv' := [(2, .int (nI 32)), (1, .int (nI 0)), (0, .ref x)]) hx hb dX1_foldLetters_19 rfl hl (by decide) rfl (fun ls hl => ?_)
    refine va_gets hx hb hT.1 hS hown (hts (.fieldLink RX1 104 "CharRows" "LETTERS" "[I") (by decide +kernel)) (fun _ h9 => h9) dX1_foldLetters_20 ?_
    refine lv_iload_n hx hb dX1_foldLetters_23 rfl (lv_at hl 1 rfl) ?_
    refine va_ti (v := .int (nI 97)) hx hb hT.2.1 hS (vp_in_nI (by omega) (by omega)) (by rw [nI_clamp (by omega)]; rfl) dX1_foldLetters_24 ?_
    refine lv_istore_n (lv' := [(3, .int (nI 97)), (2, .int (nI 32)), (1, .int (nI 0)), (0, .ref x)]) hx hb dX1_foldLetters_25 rfl hl (by decide) rfl (fun ls hl => ?_)
    refine cr_lp4 (fun (c9 : Nat) (n1 : Nat) (f1 : Nat → Int32) (g1 : Nat → Int32) => 123 - c9) (fun (c9 : Nat) (n1 : Nat) (f1 : Nat → Int32) (g1 : Nat → Int32) H locs ls => (97 ≤ c9 ∧ c9 ≤ 123 ∧ cr_Set n1 f1 g1 (fun x => S x ∨ (cr_sl x < c9 ∧ S (cr_lp x)))) ∧ va_P (dC, dI) crCl [(x, .inr (1, [.ref r, .ref r2, .ref r3])), (r, .inr (0, [.ref a, .ref b, .int (nI n1)])), (a, .inl (cI, 768, .inl f1)), (b, .inl (cI, 768, .inl g1))] H ∧ va_D A [(x, .inr (1, [.ref r, .ref r2, .ref r3])), (r, .inr (0, [.ref a, .ref b, .int (nI n1)])), (a, .inl (cI, 768, .inl f1)), (b, .inl (cI, 768, .inl g1))] ∧ va_S A s.heap H locs ∧ lv_has ls 4 [(0, .ref x), (1, .int (nI 0)), (2, .int (nI 32)), (3, .int (nI c9))]) ?_ 97 n f g ⟨⟨by omega, by omega, hSet.iff cr_L_zero⟩, hP, hD, hS, lv_sub hl [3, 2, 1, 0] rfl⟩
    intro c9 n1 f1 g1 H locs ls hI26 ih26
    obtain ⟨⟨h1, h2, h3⟩, hP, hD, hS, hl⟩ := hI26
    have hct := h3.count (cr_Bd_L hB hF c9)
    refine lv_iload_n hx hb dX1_foldLetters_26 rfl (lv_at hl 3 rfl) ?_
    refine va_gets hx hb hT.1 hS hown (hts (.fieldLink RX1 104 "CharRows" "LETTERS" "[I") (by decide +kernel)) (fun _ h9 => h9) dX1_foldLetters_27 ?_
    refine lv_iload_n hx hb dX1_foldLetters_30 rfl (lv_at hl 1 rfl) ?_
    refine lv_iconst (v := nI 1) hx hb dX1_foldLetters_31 (by decide) ?_
    refine lv_iadd hx hb dX1_foldLetters_32 ?_
    refine cr_top (y := nI 1) (by decide) ?_
    refine va_ti (v := .int (nI 122)) hx hb hT.2.1 hS (vp_in_nI (by omega) (by omega)) (by rw [nI_clamp (by omega)]; rfl) dX1_foldLetters_33 ?_
    refine lv_icmp_gt (tgt := 51) hx hb dX1_foldLetters_34 (by decide) (fun c_34 => ?_) (fun c_34 => ?_)
    · rw [nI_ltI (by omega) (by omega)] at c_34
      obtain ⟨nq0, rfl⟩ : ∃ z, z = n1 := ⟨_, rfl⟩
      obtain ⟨fq0, rfl⟩ : ∃ z, z = f1 := ⟨_, rfl⟩
      obtain ⟨gq0, rfl⟩ : ∃ z, z = g1 := ⟨_, rfl⟩
      have hSq : cr_Set nq0 fq0 gq0 (fun x => S x ∨ (cr_sl x < 123 ∧ S (cr_lp x))) := by rw [show (123 : Nat) = c9 from (by omega)]; exact h3
      refine lv_iinc (v := nI 3) (lv' := [(1, .int (nI 3)), (0, .ref x), (2, .int (nI 32)), (3, .int (nI c9))]) hx hb dX1_foldLetters_51 hl (k := 1) rfl (by decide) (by decide) rfl (fun ls hl => ?_)
      refine lv_goto (tgt := 2) hx hb dX1_foldLetters_54 (by decide) ?_
      refine lv_iload_n hx hb dX1_foldLetters_2 rfl (lv_at hl 0 rfl) ?_
      refine lv_iconst (v := nI 2) hx hb dX1_foldLetters_3 (by decide) ?_
      refine lv_iadd hx hb dX1_foldLetters_4 ?_
      refine cr_top (y := nI 5) (by decide) ?_
      refine va_gets hx hb hT.1 hS hown (hts (.fieldLink RX1 104 "CharRows" "LETTERS" "[I") (by decide +kernel)) (fun _ h9 => h9) dX1_foldLetters_5 ?_
      refine va_tlen (v := nI 18) hx hb hT.2.1 hS rfl dX1_foldLetters_8 ?_
      refine lv_icmp_ge (tgt := 57) hx hb dX1_foldLetters_9 (by decide) (fun c_9 => ?_) (fun c_9 => ?_)
      · exact absurd c_9 (by decide)
      · refine va_gets hx hb hT.1 hS hown (hts (.fieldLink RX1 104 "CharRows" "LETTERS" "[I") (by decide +kernel)) (fun _ h9 => h9) dX1_foldLetters_12 ?_
        refine lv_iload_n hx hb dX1_foldLetters_15 rfl (lv_at hl 0 rfl) ?_
        refine lv_iconst (v := nI 2) hx hb dX1_foldLetters_16 (by decide) ?_
        refine lv_iadd hx hb dX1_foldLetters_17 ?_
        refine cr_top (y := nI 5) (by decide) ?_
        refine va_ti (v := .int (nI 32)) hx hb hT.2.1 hS (vp_in_nI (by omega) (by omega)) (by rw [nI_clamp (by omega)]; rfl) dX1_foldLetters_18 ?_
        refine lv_istore_n (lv' := [(2, .int (nI 32)), (1, .int (nI 3)), (0, .ref x), (3, .int (nI c9))]) hx hb dX1_foldLetters_19 rfl hl (by decide) rfl (fun ls hl => ?_)
        refine va_gets hx hb hT.1 hS hown (hts (.fieldLink RX1 104 "CharRows" "LETTERS" "[I") (by decide +kernel)) (fun _ h9 => h9) dX1_foldLetters_20 ?_
        refine lv_iload_n hx hb dX1_foldLetters_23 rfl (lv_at hl 1 rfl) ?_
        refine va_ti (v := .int (nI 224)) hx hb hT.2.1 hS (vp_in_nI (by omega) (by omega)) (by rw [nI_clamp (by omega)]; rfl) dX1_foldLetters_24 ?_
        refine lv_istore_n (lv' := [(3, .int (nI 224)), (2, .int (nI 32)), (1, .int (nI 3)), (0, .ref x)]) hx hb dX1_foldLetters_25 rfl hl (by decide) rfl (fun ls hl => ?_)
        refine cr_lp4 (fun (c9 : Nat) (n1 : Nat) (f1 : Nat → Int32) (g1 : Nat → Int32) => 247 - c9) (fun (c9 : Nat) (n1 : Nat) (f1 : Nat → Int32) (g1 : Nat → Int32) H locs ls => (224 ≤ c9 ∧ c9 ≤ 247 ∧ cr_Set n1 f1 g1 (fun x => S x ∨ (cr_sl x < c9 ∧ S (cr_lp x)))) ∧ va_P (dC, dI) crCl [(x, .inr (1, [.ref r, .ref r2, .ref r3])), (r, .inr (0, [.ref a, .ref b, .int (nI n1)])), (a, .inl (cI, 768, .inl f1)), (b, .inl (cI, 768, .inl g1))] H ∧ va_D A [(x, .inr (1, [.ref r, .ref r2, .ref r3])), (r, .inr (0, [.ref a, .ref b, .int (nI n1)])), (a, .inl (cI, 768, .inl f1)), (b, .inl (cI, 768, .inl g1))] ∧ va_S A s.heap H locs ∧ lv_has ls 4 [(0, .ref x), (1, .int (nI 3)), (2, .int (nI 32)), (3, .int (nI c9))]) ?_ 224 nq0 fq0 gq0 ⟨⟨by omega, by omega, hSq.iff (cr_L_hole (by omega) (fun x => Iff.rfl) (fun x h1 h2 => cr_hole (by omega)))⟩, hP, hD, hS, lv_sub hl [3, 2, 1, 0] rfl⟩
        intro c9 n1 f1 g1 H locs ls hI26 ih26
        obtain ⟨⟨h1, h2, h3⟩, hP, hD, hS, hl⟩ := hI26
        have hct := h3.count (cr_Bd_L hB hF c9)
        refine lv_iload_n hx hb dX1_foldLetters_26 rfl (lv_at hl 3 rfl) ?_
        refine va_gets hx hb hT.1 hS hown (hts (.fieldLink RX1 104 "CharRows" "LETTERS" "[I") (by decide +kernel)) (fun _ h9 => h9) dX1_foldLetters_27 ?_
        refine lv_iload_n hx hb dX1_foldLetters_30 rfl (lv_at hl 1 rfl) ?_
        refine lv_iconst (v := nI 1) hx hb dX1_foldLetters_31 (by decide) ?_
        refine lv_iadd hx hb dX1_foldLetters_32 ?_
        refine cr_top (y := nI 4) (by decide) ?_
        refine va_ti (v := .int (nI 246)) hx hb hT.2.1 hS (vp_in_nI (by omega) (by omega)) (by rw [nI_clamp (by omega)]; rfl) dX1_foldLetters_33 ?_
        refine lv_icmp_gt (tgt := 51) hx hb dX1_foldLetters_34 (by decide) (fun c_34 => ?_) (fun c_34 => ?_)
        · rw [nI_ltI (by omega) (by omega)] at c_34
          obtain ⟨nq1, rfl⟩ : ∃ z, z = n1 := ⟨_, rfl⟩
          obtain ⟨fq1, rfl⟩ : ∃ z, z = f1 := ⟨_, rfl⟩
          obtain ⟨gq1, rfl⟩ : ∃ z, z = g1 := ⟨_, rfl⟩
          have hSq : cr_Set nq1 fq1 gq1 (fun x => S x ∨ (cr_sl x < 247 ∧ S (cr_lp x))) := by rw [show (247 : Nat) = c9 from (by omega)]; exact h3
          refine lv_iinc (v := nI 6) (lv' := [(1, .int (nI 6)), (0, .ref x), (2, .int (nI 32)), (3, .int (nI c9))]) hx hb dX1_foldLetters_51 hl (k := 1) rfl (by decide) (by decide) rfl (fun ls hl => ?_)
          refine lv_goto (tgt := 2) hx hb dX1_foldLetters_54 (by decide) ?_
          refine lv_iload_n hx hb dX1_foldLetters_2 rfl (lv_at hl 0 rfl) ?_
          refine lv_iconst (v := nI 2) hx hb dX1_foldLetters_3 (by decide) ?_
          refine lv_iadd hx hb dX1_foldLetters_4 ?_
          refine cr_top (y := nI 8) (by decide) ?_
          refine va_gets hx hb hT.1 hS hown (hts (.fieldLink RX1 104 "CharRows" "LETTERS" "[I") (by decide +kernel)) (fun _ h9 => h9) dX1_foldLetters_5 ?_
          refine va_tlen (v := nI 18) hx hb hT.2.1 hS rfl dX1_foldLetters_8 ?_
          refine lv_icmp_ge (tgt := 57) hx hb dX1_foldLetters_9 (by decide) (fun c_9 => ?_) (fun c_9 => ?_)
          · exact absurd c_9 (by decide)
          · refine va_gets hx hb hT.1 hS hown (hts (.fieldLink RX1 104 "CharRows" "LETTERS" "[I") (by decide +kernel)) (fun _ h9 => h9) dX1_foldLetters_12 ?_
            refine lv_iload_n hx hb dX1_foldLetters_15 rfl (lv_at hl 0 rfl) ?_
            refine lv_iconst (v := nI 2) hx hb dX1_foldLetters_16 (by decide) ?_
            refine lv_iadd hx hb dX1_foldLetters_17 ?_
            refine cr_top (y := nI 8) (by decide) ?_
            refine va_ti (v := .int (nI 32)) hx hb hT.2.1 hS (vp_in_nI (by omega) (by omega)) (by rw [nI_clamp (by omega)]; rfl) dX1_foldLetters_18 ?_
            refine lv_istore_n (lv' := [(2, .int (nI 32)), (1, .int (nI 6)), (0, .ref x), (3, .int (nI c9))]) hx hb dX1_foldLetters_19 rfl hl (by decide) rfl (fun ls hl => ?_)
            refine va_gets hx hb hT.1 hS hown (hts (.fieldLink RX1 104 "CharRows" "LETTERS" "[I") (by decide +kernel)) (fun _ h9 => h9) dX1_foldLetters_20 ?_
            refine lv_iload_n hx hb dX1_foldLetters_23 rfl (lv_at hl 1 rfl) ?_
            refine va_ti (v := .int (nI 248)) hx hb hT.2.1 hS (vp_in_nI (by omega) (by omega)) (by rw [nI_clamp (by omega)]; rfl) dX1_foldLetters_24 ?_
            refine lv_istore_n (lv' := [(3, .int (nI 248)), (2, .int (nI 32)), (1, .int (nI 6)), (0, .ref x)]) hx hb dX1_foldLetters_25 rfl hl (by decide) rfl (fun ls hl => ?_)
            refine cr_lp4 (fun (c9 : Nat) (n1 : Nat) (f1 : Nat → Int32) (g1 : Nat → Int32) => 255 - c9) (fun (c9 : Nat) (n1 : Nat) (f1 : Nat → Int32) (g1 : Nat → Int32) H locs ls => (248 ≤ c9 ∧ c9 ≤ 255 ∧ cr_Set n1 f1 g1 (fun x => S x ∨ (cr_sl x < c9 ∧ S (cr_lp x)))) ∧ va_P (dC, dI) crCl [(x, .inr (1, [.ref r, .ref r2, .ref r3])), (r, .inr (0, [.ref a, .ref b, .int (nI n1)])), (a, .inl (cI, 768, .inl f1)), (b, .inl (cI, 768, .inl g1))] H ∧ va_D A [(x, .inr (1, [.ref r, .ref r2, .ref r3])), (r, .inr (0, [.ref a, .ref b, .int (nI n1)])), (a, .inl (cI, 768, .inl f1)), (b, .inl (cI, 768, .inl g1))] ∧ va_S A s.heap H locs ∧ lv_has ls 4 [(0, .ref x), (1, .int (nI 6)), (2, .int (nI 32)), (3, .int (nI c9))]) ?_ 248 nq1 fq1 gq1 ⟨⟨by omega, by omega, hSq.iff (cr_L_hole (by omega) (fun x => Iff.rfl) (fun x h1 h2 => cr_hole (by omega)))⟩, hP, hD, hS, lv_sub hl [3, 2, 1, 0] rfl⟩
            intro c9 n1 f1 g1 H locs ls hI26 ih26
            obtain ⟨⟨h1, h2, h3⟩, hP, hD, hS, hl⟩ := hI26
            have hct := h3.count (cr_Bd_L hB hF c9)
            refine lv_iload_n hx hb dX1_foldLetters_26 rfl (lv_at hl 3 rfl) ?_
            refine va_gets hx hb hT.1 hS hown (hts (.fieldLink RX1 104 "CharRows" "LETTERS" "[I") (by decide +kernel)) (fun _ h9 => h9) dX1_foldLetters_27 ?_
            refine lv_iload_n hx hb dX1_foldLetters_30 rfl (lv_at hl 1 rfl) ?_
            refine lv_iconst (v := nI 1) hx hb dX1_foldLetters_31 (by decide) ?_
            refine lv_iadd hx hb dX1_foldLetters_32 ?_
            refine cr_top (y := nI 7) (by decide) ?_
            refine va_ti (v := .int (nI 254)) hx hb hT.2.1 hS (vp_in_nI (by omega) (by omega)) (by rw [nI_clamp (by omega)]; rfl) dX1_foldLetters_33 ?_
            refine lv_icmp_gt (tgt := 51) hx hb dX1_foldLetters_34 (by decide) (fun c_34 => ?_) (fun c_34 => ?_)
            · rw [nI_ltI (by omega) (by omega)] at c_34
              obtain ⟨nq2, rfl⟩ : ∃ z, z = n1 := ⟨_, rfl⟩
              obtain ⟨fq2, rfl⟩ : ∃ z, z = f1 := ⟨_, rfl⟩
              obtain ⟨gq2, rfl⟩ : ∃ z, z = g1 := ⟨_, rfl⟩
              have hSq : cr_Set nq2 fq2 gq2 (fun x => S x ∨ (cr_sl x < 255 ∧ S (cr_lp x))) := by rw [show (255 : Nat) = c9 from (by omega)]; exact h3
              refine lv_iinc (v := nI 9) (lv' := [(1, .int (nI 9)), (0, .ref x), (2, .int (nI 32)), (3, .int (nI c9))]) hx hb dX1_foldLetters_51 hl (k := 1) rfl (by decide) (by decide) rfl (fun ls hl => ?_)
              refine lv_goto (tgt := 2) hx hb dX1_foldLetters_54 (by decide) ?_
              refine lv_iload_n hx hb dX1_foldLetters_2 rfl (lv_at hl 0 rfl) ?_
              refine lv_iconst (v := nI 2) hx hb dX1_foldLetters_3 (by decide) ?_
              refine lv_iadd hx hb dX1_foldLetters_4 ?_
              refine cr_top (y := nI 11) (by decide) ?_
              refine va_gets hx hb hT.1 hS hown (hts (.fieldLink RX1 104 "CharRows" "LETTERS" "[I") (by decide +kernel)) (fun _ h9 => h9) dX1_foldLetters_5 ?_
              refine va_tlen (v := nI 18) hx hb hT.2.1 hS rfl dX1_foldLetters_8 ?_
              refine lv_icmp_ge (tgt := 57) hx hb dX1_foldLetters_9 (by decide) (fun c_9 => ?_) (fun c_9 => ?_)
              · exact absurd c_9 (by decide)
              · refine va_gets hx hb hT.1 hS hown (hts (.fieldLink RX1 104 "CharRows" "LETTERS" "[I") (by decide +kernel)) (fun _ h9 => h9) dX1_foldLetters_12 ?_
                refine lv_iload_n hx hb dX1_foldLetters_15 rfl (lv_at hl 0 rfl) ?_
                refine lv_iconst (v := nI 2) hx hb dX1_foldLetters_16 (by decide) ?_
                refine lv_iadd hx hb dX1_foldLetters_17 ?_
                refine cr_top (y := nI 11) (by decide) ?_
                refine va_ti (v := .int (nI 32)) hx hb hT.2.1 hS (vp_in_nI (by omega) (by omega)) (by rw [nI_clamp (by omega)]; rfl) dX1_foldLetters_18 ?_
                refine lv_istore_n (lv' := [(2, .int (nI 32)), (1, .int (nI 9)), (0, .ref x), (3, .int (nI c9))]) hx hb dX1_foldLetters_19 rfl hl (by decide) rfl (fun ls hl => ?_)
                refine va_gets hx hb hT.1 hS hown (hts (.fieldLink RX1 104 "CharRows" "LETTERS" "[I") (by decide +kernel)) (fun _ h9 => h9) dX1_foldLetters_20 ?_
                refine lv_iload_n hx hb dX1_foldLetters_23 rfl (lv_at hl 1 rfl) ?_
                refine va_ti (v := .int (nI 945)) hx hb hT.2.1 hS (vp_in_nI (by omega) (by omega)) (by rw [nI_clamp (by omega)]; rfl) dX1_foldLetters_24 ?_
                refine lv_istore_n (lv' := [(3, .int (nI 945)), (2, .int (nI 32)), (1, .int (nI 9)), (0, .ref x)]) hx hb dX1_foldLetters_25 rfl hl (by decide) rfl (fun ls hl => ?_)
                refine cr_lp4 (fun (c9 : Nat) (n1 : Nat) (f1 : Nat → Int32) (g1 : Nat → Int32) => 970 - c9) (fun (c9 : Nat) (n1 : Nat) (f1 : Nat → Int32) (g1 : Nat → Int32) H locs ls => (945 ≤ c9 ∧ c9 ≤ 970 ∧ cr_Set n1 f1 g1 (fun x => S x ∨ (cr_sl x < c9 ∧ S (cr_lp x)))) ∧ va_P (dC, dI) crCl [(x, .inr (1, [.ref r, .ref r2, .ref r3])), (r, .inr (0, [.ref a, .ref b, .int (nI n1)])), (a, .inl (cI, 768, .inl f1)), (b, .inl (cI, 768, .inl g1))] H ∧ va_D A [(x, .inr (1, [.ref r, .ref r2, .ref r3])), (r, .inr (0, [.ref a, .ref b, .int (nI n1)])), (a, .inl (cI, 768, .inl f1)), (b, .inl (cI, 768, .inl g1))] ∧ va_S A s.heap H locs ∧ lv_has ls 4 [(0, .ref x), (1, .int (nI 9)), (2, .int (nI 32)), (3, .int (nI c9))]) ?_ 945 nq2 fq2 gq2 ⟨⟨by omega, by omega, hSq.iff (cr_L_hole (by omega) (fun x => Iff.rfl) (fun x h1 h2 => cr_hole (by omega)))⟩, hP, hD, hS, lv_sub hl [3, 2, 1, 0] rfl⟩
                intro c9 n1 f1 g1 H locs ls hI26 ih26
                obtain ⟨⟨h1, h2, h3⟩, hP, hD, hS, hl⟩ := hI26
                have hct := h3.count (cr_Bd_L hB hF c9)
                refine lv_iload_n hx hb dX1_foldLetters_26 rfl (lv_at hl 3 rfl) ?_
                refine va_gets hx hb hT.1 hS hown (hts (.fieldLink RX1 104 "CharRows" "LETTERS" "[I") (by decide +kernel)) (fun _ h9 => h9) dX1_foldLetters_27 ?_
                refine lv_iload_n hx hb dX1_foldLetters_30 rfl (lv_at hl 1 rfl) ?_
                refine lv_iconst (v := nI 1) hx hb dX1_foldLetters_31 (by decide) ?_
                refine lv_iadd hx hb dX1_foldLetters_32 ?_
                refine cr_top (y := nI 10) (by decide) ?_
                refine va_ti (v := .int (nI 969)) hx hb hT.2.1 hS (vp_in_nI (by omega) (by omega)) (by rw [nI_clamp (by omega)]; rfl) dX1_foldLetters_33 ?_
                refine lv_icmp_gt (tgt := 51) hx hb dX1_foldLetters_34 (by decide) (fun c_34 => ?_) (fun c_34 => ?_)
                · rw [nI_ltI (by omega) (by omega)] at c_34
                  obtain ⟨nq3, rfl⟩ : ∃ z, z = n1 := ⟨_, rfl⟩
                  obtain ⟨fq3, rfl⟩ : ∃ z, z = f1 := ⟨_, rfl⟩
                  obtain ⟨gq3, rfl⟩ : ∃ z, z = g1 := ⟨_, rfl⟩
                  have hSq : cr_Set nq3 fq3 gq3 (fun x => S x ∨ (cr_sl x < 970 ∧ S (cr_lp x))) := by rw [show (970 : Nat) = c9 from (by omega)]; exact h3
                  refine lv_iinc (v := nI 12) (lv' := [(1, .int (nI 12)), (0, .ref x), (2, .int (nI 32)), (3, .int (nI c9))]) hx hb dX1_foldLetters_51 hl (k := 1) rfl (by decide) (by decide) rfl (fun ls hl => ?_)
                  refine lv_goto (tgt := 2) hx hb dX1_foldLetters_54 (by decide) ?_
                  refine lv_iload_n hx hb dX1_foldLetters_2 rfl (lv_at hl 0 rfl) ?_
                  refine lv_iconst (v := nI 2) hx hb dX1_foldLetters_3 (by decide) ?_
                  refine lv_iadd hx hb dX1_foldLetters_4 ?_
                  refine cr_top (y := nI 14) (by decide) ?_
                  refine va_gets hx hb hT.1 hS hown (hts (.fieldLink RX1 104 "CharRows" "LETTERS" "[I") (by decide +kernel)) (fun _ h9 => h9) dX1_foldLetters_5 ?_
                  refine va_tlen (v := nI 18) hx hb hT.2.1 hS rfl dX1_foldLetters_8 ?_
                  refine lv_icmp_ge (tgt := 57) hx hb dX1_foldLetters_9 (by decide) (fun c_9 => ?_) (fun c_9 => ?_)
                  · exact absurd c_9 (by decide)
                  · refine va_gets hx hb hT.1 hS hown (hts (.fieldLink RX1 104 "CharRows" "LETTERS" "[I") (by decide +kernel)) (fun _ h9 => h9) dX1_foldLetters_12 ?_
                    refine lv_iload_n hx hb dX1_foldLetters_15 rfl (lv_at hl 0 rfl) ?_
                    refine lv_iconst (v := nI 2) hx hb dX1_foldLetters_16 (by decide) ?_
                    refine lv_iadd hx hb dX1_foldLetters_17 ?_
                    refine cr_top (y := nI 14) (by decide) ?_
                    refine va_ti (v := .int (nI 32)) hx hb hT.2.1 hS (vp_in_nI (by omega) (by omega)) (by rw [nI_clamp (by omega)]; rfl) dX1_foldLetters_18 ?_
                    refine lv_istore_n (lv' := [(2, .int (nI 32)), (1, .int (nI 12)), (0, .ref x), (3, .int (nI c9))]) hx hb dX1_foldLetters_19 rfl hl (by decide) rfl (fun ls hl => ?_)
                    refine va_gets hx hb hT.1 hS hown (hts (.fieldLink RX1 104 "CharRows" "LETTERS" "[I") (by decide +kernel)) (fun _ h9 => h9) dX1_foldLetters_20 ?_
                    refine lv_iload_n hx hb dX1_foldLetters_23 rfl (lv_at hl 1 rfl) ?_
                    refine va_ti (v := .int (nI 1072)) hx hb hT.2.1 hS (vp_in_nI (by omega) (by omega)) (by rw [nI_clamp (by omega)]; rfl) dX1_foldLetters_24 ?_
                    refine lv_istore_n (lv' := [(3, .int (nI 1072)), (2, .int (nI 32)), (1, .int (nI 12)), (0, .ref x)]) hx hb dX1_foldLetters_25 rfl hl (by decide) rfl (fun ls hl => ?_)
                    refine cr_lp4 (fun (c9 : Nat) (n1 : Nat) (f1 : Nat → Int32) (g1 : Nat → Int32) => 1104 - c9) (fun (c9 : Nat) (n1 : Nat) (f1 : Nat → Int32) (g1 : Nat → Int32) H locs ls => (1072 ≤ c9 ∧ c9 ≤ 1104 ∧ cr_Set n1 f1 g1 (fun x => S x ∨ (cr_sl x < c9 ∧ S (cr_lp x)))) ∧ va_P (dC, dI) crCl [(x, .inr (1, [.ref r, .ref r2, .ref r3])), (r, .inr (0, [.ref a, .ref b, .int (nI n1)])), (a, .inl (cI, 768, .inl f1)), (b, .inl (cI, 768, .inl g1))] H ∧ va_D A [(x, .inr (1, [.ref r, .ref r2, .ref r3])), (r, .inr (0, [.ref a, .ref b, .int (nI n1)])), (a, .inl (cI, 768, .inl f1)), (b, .inl (cI, 768, .inl g1))] ∧ va_S A s.heap H locs ∧ lv_has ls 4 [(0, .ref x), (1, .int (nI 12)), (2, .int (nI 32)), (3, .int (nI c9))]) ?_ 1072 nq3 fq3 gq3 ⟨⟨by omega, by omega, hSq.iff (cr_L_hole (by omega) (fun x => Iff.rfl) (fun x h1 h2 => cr_hole (by omega)))⟩, hP, hD, hS, lv_sub hl [3, 2, 1, 0] rfl⟩
                    intro c9 n1 f1 g1 H locs ls hI26 ih26
                    obtain ⟨⟨h1, h2, h3⟩, hP, hD, hS, hl⟩ := hI26
                    have hct := h3.count (cr_Bd_L hB hF c9)
                    refine lv_iload_n hx hb dX1_foldLetters_26 rfl (lv_at hl 3 rfl) ?_
                    refine va_gets hx hb hT.1 hS hown (hts (.fieldLink RX1 104 "CharRows" "LETTERS" "[I") (by decide +kernel)) (fun _ h9 => h9) dX1_foldLetters_27 ?_
                    refine lv_iload_n hx hb dX1_foldLetters_30 rfl (lv_at hl 1 rfl) ?_
                    refine lv_iconst (v := nI 1) hx hb dX1_foldLetters_31 (by decide) ?_
                    refine lv_iadd hx hb dX1_foldLetters_32 ?_
                    refine cr_top (y := nI 13) (by decide) ?_
                    refine va_ti (v := .int (nI 1103)) hx hb hT.2.1 hS (vp_in_nI (by omega) (by omega)) (by rw [nI_clamp (by omega)]; rfl) dX1_foldLetters_33 ?_
                    refine lv_icmp_gt (tgt := 51) hx hb dX1_foldLetters_34 (by decide) (fun c_34 => ?_) (fun c_34 => ?_)
                    · rw [nI_ltI (by omega) (by omega)] at c_34
                      obtain ⟨nq4, rfl⟩ : ∃ z, z = n1 := ⟨_, rfl⟩
                      obtain ⟨fq4, rfl⟩ : ∃ z, z = f1 := ⟨_, rfl⟩
                      obtain ⟨gq4, rfl⟩ : ∃ z, z = g1 := ⟨_, rfl⟩
                      have hSq : cr_Set nq4 fq4 gq4 (fun x => S x ∨ (cr_sl x < 1104 ∧ S (cr_lp x))) := by rw [show (1104 : Nat) = c9 from (by omega)]; exact h3
                      refine lv_iinc (v := nI 15) (lv' := [(1, .int (nI 15)), (0, .ref x), (2, .int (nI 32)), (3, .int (nI c9))]) hx hb dX1_foldLetters_51 hl (k := 1) rfl (by decide) (by decide) rfl (fun ls hl => ?_)
                      refine lv_goto (tgt := 2) hx hb dX1_foldLetters_54 (by decide) ?_
                      refine lv_iload_n hx hb dX1_foldLetters_2 rfl (lv_at hl 0 rfl) ?_
                      refine lv_iconst (v := nI 2) hx hb dX1_foldLetters_3 (by decide) ?_
                      refine lv_iadd hx hb dX1_foldLetters_4 ?_
                      refine cr_top (y := nI 17) (by decide) ?_
                      refine va_gets hx hb hT.1 hS hown (hts (.fieldLink RX1 104 "CharRows" "LETTERS" "[I") (by decide +kernel)) (fun _ h9 => h9) dX1_foldLetters_5 ?_
                      refine va_tlen (v := nI 18) hx hb hT.2.1 hS rfl dX1_foldLetters_8 ?_
                      refine lv_icmp_ge (tgt := 57) hx hb dX1_foldLetters_9 (by decide) (fun c_9 => ?_) (fun c_9 => ?_)
                      · exact absurd c_9 (by decide)
                      · refine va_gets hx hb hT.1 hS hown (hts (.fieldLink RX1 104 "CharRows" "LETTERS" "[I") (by decide +kernel)) (fun _ h9 => h9) dX1_foldLetters_12 ?_
                        refine lv_iload_n hx hb dX1_foldLetters_15 rfl (lv_at hl 0 rfl) ?_
                        refine lv_iconst (v := nI 2) hx hb dX1_foldLetters_16 (by decide) ?_
                        refine lv_iadd hx hb dX1_foldLetters_17 ?_
                        refine cr_top (y := nI 17) (by decide) ?_
                        refine va_ti (v := .int (nI 80)) hx hb hT.2.1 hS (vp_in_nI (by omega) (by omega)) (by rw [nI_clamp (by omega)]; rfl) dX1_foldLetters_18 ?_
                        refine lv_istore_n (lv' := [(2, .int (nI 80)), (1, .int (nI 15)), (0, .ref x), (3, .int (nI c9))]) hx hb dX1_foldLetters_19 rfl hl (by decide) rfl (fun ls hl => ?_)
                        refine va_gets hx hb hT.1 hS hown (hts (.fieldLink RX1 104 "CharRows" "LETTERS" "[I") (by decide +kernel)) (fun _ h9 => h9) dX1_foldLetters_20 ?_
                        refine lv_iload_n hx hb dX1_foldLetters_23 rfl (lv_at hl 1 rfl) ?_
                        refine va_ti (v := .int (nI 1104)) hx hb hT.2.1 hS (vp_in_nI (by omega) (by omega)) (by rw [nI_clamp (by omega)]; rfl) dX1_foldLetters_24 ?_
                        refine lv_istore_n (lv' := [(3, .int (nI 1104)), (2, .int (nI 80)), (1, .int (nI 15)), (0, .ref x)]) hx hb dX1_foldLetters_25 rfl hl (by decide) rfl (fun ls hl => ?_)
                        refine cr_lp4 (fun (c9 : Nat) (n1 : Nat) (f1 : Nat → Int32) (g1 : Nat → Int32) => 1120 - c9) (fun (c9 : Nat) (n1 : Nat) (f1 : Nat → Int32) (g1 : Nat → Int32) H locs ls => (1104 ≤ c9 ∧ c9 ≤ 1120 ∧ cr_Set n1 f1 g1 (fun x => S x ∨ (cr_sl x < c9 ∧ S (cr_lp x)))) ∧ va_P (dC, dI) crCl [(x, .inr (1, [.ref r, .ref r2, .ref r3])), (r, .inr (0, [.ref a, .ref b, .int (nI n1)])), (a, .inl (cI, 768, .inl f1)), (b, .inl (cI, 768, .inl g1))] H ∧ va_D A [(x, .inr (1, [.ref r, .ref r2, .ref r3])), (r, .inr (0, [.ref a, .ref b, .int (nI n1)])), (a, .inl (cI, 768, .inl f1)), (b, .inl (cI, 768, .inl g1))] ∧ va_S A s.heap H locs ∧ lv_has ls 4 [(0, .ref x), (1, .int (nI 15)), (2, .int (nI 80)), (3, .int (nI c9))]) ?_ 1104 nq4 fq4 gq4 ⟨⟨by omega, by omega, hSq⟩, hP, hD, hS, lv_sub hl [3, 2, 1, 0] rfl⟩
                        intro c9 n1 f1 g1 H locs ls hI26 ih26
                        obtain ⟨⟨h1, h2, h3⟩, hP, hD, hS, hl⟩ := hI26
                        have hct := h3.count (cr_Bd_L hB hF c9)
                        refine lv_iload_n hx hb dX1_foldLetters_26 rfl (lv_at hl 3 rfl) ?_
                        refine va_gets hx hb hT.1 hS hown (hts (.fieldLink RX1 104 "CharRows" "LETTERS" "[I") (by decide +kernel)) (fun _ h9 => h9) dX1_foldLetters_27 ?_
                        refine lv_iload_n hx hb dX1_foldLetters_30 rfl (lv_at hl 1 rfl) ?_
                        refine lv_iconst (v := nI 1) hx hb dX1_foldLetters_31 (by decide) ?_
                        refine lv_iadd hx hb dX1_foldLetters_32 ?_
                        refine cr_top (y := nI 16) (by decide) ?_
                        refine va_ti (v := .int (nI 1119)) hx hb hT.2.1 hS (vp_in_nI (by omega) (by omega)) (by rw [nI_clamp (by omega)]; rfl) dX1_foldLetters_33 ?_
                        refine lv_icmp_gt (tgt := 51) hx hb dX1_foldLetters_34 (by decide) (fun c_34 => ?_) (fun c_34 => ?_)
                        · rw [nI_ltI (by omega) (by omega)] at c_34
                          obtain ⟨nq5, rfl⟩ : ∃ z, z = n1 := ⟨_, rfl⟩
                          obtain ⟨fq5, rfl⟩ : ∃ z, z = f1 := ⟨_, rfl⟩
                          obtain ⟨gq5, rfl⟩ : ∃ z, z = g1 := ⟨_, rfl⟩
                          have hSq : cr_Set nq5 fq5 gq5 (fun x => S x ∨ (cr_sl x < 1120 ∧ S (cr_lp x))) := by rw [show (1120 : Nat) = c9 from (by omega)]; exact h3
                          refine lv_iinc (v := nI 18) (lv' := [(1, .int (nI 18)), (0, .ref x), (2, .int (nI 80)), (3, .int (nI c9))]) hx hb dX1_foldLetters_51 hl (k := 1) rfl (by decide) (by decide) rfl (fun ls hl => ?_)
                          refine lv_goto (tgt := 2) hx hb dX1_foldLetters_54 (by decide) ?_
                          refine lv_iload_n hx hb dX1_foldLetters_2 rfl (lv_at hl 0 rfl) ?_
                          refine lv_iconst (v := nI 2) hx hb dX1_foldLetters_3 (by decide) ?_
                          refine lv_iadd hx hb dX1_foldLetters_4 ?_
                          refine cr_top (y := nI 20) (by decide) ?_
                          refine va_gets hx hb hT.1 hS hown (hts (.fieldLink RX1 104 "CharRows" "LETTERS" "[I") (by decide +kernel)) (fun _ h9 => h9) dX1_foldLetters_5 ?_
                          refine va_tlen (v := nI 18) hx hb hT.2.1 hS rfl dX1_foldLetters_8 ?_
                          refine lv_icmp_ge (tgt := 57) hx hb dX1_foldLetters_9 (by decide) (fun c_9 => ?_) (fun c_9 => ?_)
                          · exact W.vret hx hb hr (fun t9 ht9 hW9 => ⟨⟨[(x, .inr (1, [.ref r, .ref r2, .ref r3])), (r, .inr (0, [.ref a, .ref b, .int (nI nq5)])), (a, .inl (cI, 768, .inl fq5)), (b, .inl (cI, 768, .inl gq5))], rfl, ⟨nq5, fq5, gq5, rfl, by have := hSq.count (cr_Bd_L hB hF 1120); omega, hSq.iff (cr_L_end (fun x => Iff.rfl))⟩, by rw [ht9]; exact hP, va_K.moved hW9.alike hK, hD⟩, hS.F ht9⟩) hS.2.2 dX1_foldLetters_57
                          · exact absurd (by decide) c_9
                        · rw [nI_ltI (by omega) (by omega)] at c_34
                          have hrw := cr_row80 (c := c9) (by omega)
                          refine lv_aload_n hx hb dX1_foldLetters_37 rfl (lv_at hl 0 rfl) ?_
                          refine lv_iload_n hx hb dX1_foldLetters_38 rfl (lv_at hl 3 rfl) ?_
                          refine lv_iload_n hx hb dX1_foldLetters_39 rfl (lv_at hl 3 rfl) ?_
                          refine lv_iload_n hx hb dX1_foldLetters_40 rfl (lv_at hl 2 rfl) ?_
                          refine lv_isub hx hb dX1_foldLetters_41 ?_
                          refine cr_top (y := nI (c9 - 80)) (pk_sub (by omega)) ?_
                          have hPc := hP.sub (ws' := [(x, .inr (1, [.ref r, .ref r2, .ref r3])), (r, .inr (0, [.ref a, .ref b, .int (nI n1)])), (a, .inl (cI, 768, .inl f1)), (b, .inl (cI, 768, .inl g1))]) [0, 1, 2, 3] rfl
                          have hDc := hD.sub (ws' := [(x, .inr (1, [.ref r, .ref r2, .ref r3])), (r, .inr (0, [.ref a, .ref b, .int (nI n1)])), (a, .inl (cI, 768, .inl f1)), (b, .inl (cI, 768, .inl g1))]) [0, 1, 2, 3] (by decide) rfl
                          have hFc := va_free (wc := [(x, .inr (1, [.ref r, .ref r2, .ref r3])), (r, .inr (0, [.ref a, .ref b, .int (nI n1)])), (a, .inl (cI, 768, .inl f1)), (b, .inl (cI, 768, .inl g1))]) hD hS hA [0, 1, 2, 3] rfl
                          refine va_callv (va_runV (As := [.int (nI c9), .int (nI (c9 - 80))]) (rest := []) ⟨hx, hb, hml, hown, hts⟩ (c_foldTwo l dC dI _ x r r2 r3 a b cI n1 f1 g1 _ h3 (by omega) c9 (c9 - 80) (by omega) (by omega)) (cwV 2 hts gX1_foldLetters_X1_foldTwo rfl rfl rfl (by decide +kernel) ⟨Nat.le_of_ble_eq_true rfl, Nat.le_of_ble_eq_true rfl⟩) (cr_preVN hN hPc hK hDc (ci := 1) (q0 := 0) rfl rfl) rfl rfl hl.1 rfl (lv_room (Nat.le_of_ble_eq_true rfl)) dX1_foldLetters_42 ⟨Nat.zero_le _, Nat.zero_le _⟩) hS (fun q _ h => hFc q h) hFc (fun u_42 t_42 H_42 locs ht_42 hvm_42 hw_42 hB_42 hz_42 hk_42 hS => ?_)
                          obtain ⟨n3, f3, g3, rfl, hn3, hSet3⟩ := hw_42
                          obtain ⟨hP, hD⟩ := cr_back (wr := []) (w1 := [(x, .inr (1, [.ref r, .ref r2, .ref r3])), (r, .inr (0, [.ref a, .ref b, .int (nI n3)])), (a, .inl (cI, 768, .inl f3)), (b, .inl (cI, 768, .inl g3))]) hP hD [0, 1, 2, 3] [] rfl rfl (by decide) (by decide) hk_42 hFc hB_42 ht_42
                          clear hPc hDc hFc
                          generalize H_42 = H at hP hS ⊢
                          have hP := hP.sub (ws' := [(x, .inr (1, [.ref r, .ref r2, .ref r3])), (r, .inr (0, [.ref a, .ref b, .int (nI n3)])), (a, .inl (cI, 768, .inl f3)), (b, .inl (cI, 768, .inl g3))]) [0, 1, 2, 3] rfl
                          have hD := hD.sub (ws' := [(x, .inr (1, [.ref r, .ref r2, .ref r3])), (r, .inr (0, [.ref a, .ref b, .int (nI n3)])), (a, .inl (cI, 768, .inl f3)), (b, .inl (cI, 768, .inl g3))]) [0, 1, 2, 3] (by decide) rfl
                          refine lv_iinc (v := nI (c9 + 1)) (lv' := [(3, .int (nI (c9 + 1))), (0, .ref x), (1, .int (nI 15)), (2, .int (nI 80))]) hx hb dX1_foldLetters_45 hl (k := 3) rfl (nI_add c9 1) (by decide) rfl (fun ls hl => ?_)
                          refine lv_goto (tgt := 26) hx hb dX1_foldLetters_48 (by decide) ?_
                          exact ih26 (c9 + 1) n3 f3 g3 _ _ _ ⟨⟨by omega, by omega, hSet3.iff (fun x => cr_L_step (fun x => Iff.rfl) hrw.1 hrw.2.1 hrw.2.2.1 hrw.2.2.2.1 hrw.2.2.2.2 x)⟩, hP, hD, hS, lv_sub hl [1, 2, 3, 0] rfl⟩ (by omega)
                    · rw [nI_ltI (by omega) (by omega)] at c_34
                      have hrw := cr_row32 (c := c9) (by omega)
                      refine lv_aload_n hx hb dX1_foldLetters_37 rfl (lv_at hl 0 rfl) ?_
                      refine lv_iload_n hx hb dX1_foldLetters_38 rfl (lv_at hl 3 rfl) ?_
                      refine lv_iload_n hx hb dX1_foldLetters_39 rfl (lv_at hl 3 rfl) ?_
                      refine lv_iload_n hx hb dX1_foldLetters_40 rfl (lv_at hl 2 rfl) ?_
                      refine lv_isub hx hb dX1_foldLetters_41 ?_
                      refine cr_top (y := nI (c9 - 32)) (pk_sub (by omega)) ?_
                      have hPc := hP.sub (ws' := [(x, .inr (1, [.ref r, .ref r2, .ref r3])), (r, .inr (0, [.ref a, .ref b, .int (nI n1)])), (a, .inl (cI, 768, .inl f1)), (b, .inl (cI, 768, .inl g1))]) [0, 1, 2, 3] rfl
                      have hDc := hD.sub (ws' := [(x, .inr (1, [.ref r, .ref r2, .ref r3])), (r, .inr (0, [.ref a, .ref b, .int (nI n1)])), (a, .inl (cI, 768, .inl f1)), (b, .inl (cI, 768, .inl g1))]) [0, 1, 2, 3] (by decide) rfl
                      have hFc := va_free (wc := [(x, .inr (1, [.ref r, .ref r2, .ref r3])), (r, .inr (0, [.ref a, .ref b, .int (nI n1)])), (a, .inl (cI, 768, .inl f1)), (b, .inl (cI, 768, .inl g1))]) hD hS hA [0, 1, 2, 3] rfl
                      refine va_callv (va_runV (As := [.int (nI c9), .int (nI (c9 - 32))]) (rest := []) ⟨hx, hb, hml, hown, hts⟩ (c_foldTwo l dC dI _ x r r2 r3 a b cI n1 f1 g1 _ h3 (by omega) c9 (c9 - 32) (by omega) (by omega)) (cwV 2 hts gX1_foldLetters_X1_foldTwo rfl rfl rfl (by decide +kernel) ⟨Nat.le_of_ble_eq_true rfl, Nat.le_of_ble_eq_true rfl⟩) (cr_preVN hN hPc hK hDc (ci := 1) (q0 := 0) rfl rfl) rfl rfl hl.1 rfl (lv_room (Nat.le_of_ble_eq_true rfl)) dX1_foldLetters_42 ⟨Nat.zero_le _, Nat.zero_le _⟩) hS (fun q _ h => hFc q h) hFc (fun u_42 t_42 H_42 locs ht_42 hvm_42 hw_42 hB_42 hz_42 hk_42 hS => ?_)
                      obtain ⟨n3, f3, g3, rfl, hn3, hSet3⟩ := hw_42
                      obtain ⟨hP, hD⟩ := cr_back (wr := []) (w1 := [(x, .inr (1, [.ref r, .ref r2, .ref r3])), (r, .inr (0, [.ref a, .ref b, .int (nI n3)])), (a, .inl (cI, 768, .inl f3)), (b, .inl (cI, 768, .inl g3))]) hP hD [0, 1, 2, 3] [] rfl rfl (by decide) (by decide) hk_42 hFc hB_42 ht_42
                      clear hPc hDc hFc
                      generalize H_42 = H at hP hS ⊢
                      have hP := hP.sub (ws' := [(x, .inr (1, [.ref r, .ref r2, .ref r3])), (r, .inr (0, [.ref a, .ref b, .int (nI n3)])), (a, .inl (cI, 768, .inl f3)), (b, .inl (cI, 768, .inl g3))]) [0, 1, 2, 3] rfl
                      have hD := hD.sub (ws' := [(x, .inr (1, [.ref r, .ref r2, .ref r3])), (r, .inr (0, [.ref a, .ref b, .int (nI n3)])), (a, .inl (cI, 768, .inl f3)), (b, .inl (cI, 768, .inl g3))]) [0, 1, 2, 3] (by decide) rfl
                      refine lv_iinc (v := nI (c9 + 1)) (lv' := [(3, .int (nI (c9 + 1))), (0, .ref x), (1, .int (nI 12)), (2, .int (nI 32))]) hx hb dX1_foldLetters_45 hl (k := 3) rfl (nI_add c9 1) (by decide) rfl (fun ls hl => ?_)
                      refine lv_goto (tgt := 26) hx hb dX1_foldLetters_48 (by decide) ?_
                      exact ih26 (c9 + 1) n3 f3 g3 _ _ _ ⟨⟨by omega, by omega, hSet3.iff (fun x => cr_L_step (fun x => Iff.rfl) hrw.1 hrw.2.1 hrw.2.2.1 hrw.2.2.2.1 hrw.2.2.2.2 x)⟩, hP, hD, hS, lv_sub hl [1, 2, 3, 0] rfl⟩ (by omega)
                · rw [nI_ltI (by omega) (by omega)] at c_34
                  have hrw := cr_row32 (c := c9) (by omega)
                  refine lv_aload_n hx hb dX1_foldLetters_37 rfl (lv_at hl 0 rfl) ?_
                  refine lv_iload_n hx hb dX1_foldLetters_38 rfl (lv_at hl 3 rfl) ?_
                  refine lv_iload_n hx hb dX1_foldLetters_39 rfl (lv_at hl 3 rfl) ?_
                  refine lv_iload_n hx hb dX1_foldLetters_40 rfl (lv_at hl 2 rfl) ?_
                  refine lv_isub hx hb dX1_foldLetters_41 ?_
                  refine cr_top (y := nI (c9 - 32)) (pk_sub (by omega)) ?_
                  have hPc := hP.sub (ws' := [(x, .inr (1, [.ref r, .ref r2, .ref r3])), (r, .inr (0, [.ref a, .ref b, .int (nI n1)])), (a, .inl (cI, 768, .inl f1)), (b, .inl (cI, 768, .inl g1))]) [0, 1, 2, 3] rfl
                  have hDc := hD.sub (ws' := [(x, .inr (1, [.ref r, .ref r2, .ref r3])), (r, .inr (0, [.ref a, .ref b, .int (nI n1)])), (a, .inl (cI, 768, .inl f1)), (b, .inl (cI, 768, .inl g1))]) [0, 1, 2, 3] (by decide) rfl
                  have hFc := va_free (wc := [(x, .inr (1, [.ref r, .ref r2, .ref r3])), (r, .inr (0, [.ref a, .ref b, .int (nI n1)])), (a, .inl (cI, 768, .inl f1)), (b, .inl (cI, 768, .inl g1))]) hD hS hA [0, 1, 2, 3] rfl
                  refine va_callv (va_runV (As := [.int (nI c9), .int (nI (c9 - 32))]) (rest := []) ⟨hx, hb, hml, hown, hts⟩ (c_foldTwo l dC dI _ x r r2 r3 a b cI n1 f1 g1 _ h3 (by omega) c9 (c9 - 32) (by omega) (by omega)) (cwV 2 hts gX1_foldLetters_X1_foldTwo rfl rfl rfl (by decide +kernel) ⟨Nat.le_of_ble_eq_true rfl, Nat.le_of_ble_eq_true rfl⟩) (cr_preVN hN hPc hK hDc (ci := 1) (q0 := 0) rfl rfl) rfl rfl hl.1 rfl (lv_room (Nat.le_of_ble_eq_true rfl)) dX1_foldLetters_42 ⟨Nat.zero_le _, Nat.zero_le _⟩) hS (fun q _ h => hFc q h) hFc (fun u_42 t_42 H_42 locs ht_42 hvm_42 hw_42 hB_42 hz_42 hk_42 hS => ?_)
                  obtain ⟨n3, f3, g3, rfl, hn3, hSet3⟩ := hw_42
                  obtain ⟨hP, hD⟩ := cr_back (wr := []) (w1 := [(x, .inr (1, [.ref r, .ref r2, .ref r3])), (r, .inr (0, [.ref a, .ref b, .int (nI n3)])), (a, .inl (cI, 768, .inl f3)), (b, .inl (cI, 768, .inl g3))]) hP hD [0, 1, 2, 3] [] rfl rfl (by decide) (by decide) hk_42 hFc hB_42 ht_42
                  clear hPc hDc hFc
                  generalize H_42 = H at hP hS ⊢
                  have hP := hP.sub (ws' := [(x, .inr (1, [.ref r, .ref r2, .ref r3])), (r, .inr (0, [.ref a, .ref b, .int (nI n3)])), (a, .inl (cI, 768, .inl f3)), (b, .inl (cI, 768, .inl g3))]) [0, 1, 2, 3] rfl
                  have hD := hD.sub (ws' := [(x, .inr (1, [.ref r, .ref r2, .ref r3])), (r, .inr (0, [.ref a, .ref b, .int (nI n3)])), (a, .inl (cI, 768, .inl f3)), (b, .inl (cI, 768, .inl g3))]) [0, 1, 2, 3] (by decide) rfl
                  refine lv_iinc (v := nI (c9 + 1)) (lv' := [(3, .int (nI (c9 + 1))), (0, .ref x), (1, .int (nI 9)), (2, .int (nI 32))]) hx hb dX1_foldLetters_45 hl (k := 3) rfl (nI_add c9 1) (by decide) rfl (fun ls hl => ?_)
                  refine lv_goto (tgt := 26) hx hb dX1_foldLetters_48 (by decide) ?_
                  exact ih26 (c9 + 1) n3 f3 g3 _ _ _ ⟨⟨by omega, by omega, hSet3.iff (fun x => cr_L_step (fun x => Iff.rfl) hrw.1 hrw.2.1 hrw.2.2.1 hrw.2.2.2.1 hrw.2.2.2.2 x)⟩, hP, hD, hS, lv_sub hl [1, 2, 3, 0] rfl⟩ (by omega)
            · rw [nI_ltI (by omega) (by omega)] at c_34
              have hrw := cr_row32 (c := c9) (by omega)
              refine lv_aload_n hx hb dX1_foldLetters_37 rfl (lv_at hl 0 rfl) ?_
              refine lv_iload_n hx hb dX1_foldLetters_38 rfl (lv_at hl 3 rfl) ?_
              refine lv_iload_n hx hb dX1_foldLetters_39 rfl (lv_at hl 3 rfl) ?_
              refine lv_iload_n hx hb dX1_foldLetters_40 rfl (lv_at hl 2 rfl) ?_
              refine lv_isub hx hb dX1_foldLetters_41 ?_
              refine cr_top (y := nI (c9 - 32)) (pk_sub (by omega)) ?_
              have hPc := hP.sub (ws' := [(x, .inr (1, [.ref r, .ref r2, .ref r3])), (r, .inr (0, [.ref a, .ref b, .int (nI n1)])), (a, .inl (cI, 768, .inl f1)), (b, .inl (cI, 768, .inl g1))]) [0, 1, 2, 3] rfl
              have hDc := hD.sub (ws' := [(x, .inr (1, [.ref r, .ref r2, .ref r3])), (r, .inr (0, [.ref a, .ref b, .int (nI n1)])), (a, .inl (cI, 768, .inl f1)), (b, .inl (cI, 768, .inl g1))]) [0, 1, 2, 3] (by decide) rfl
              have hFc := va_free (wc := [(x, .inr (1, [.ref r, .ref r2, .ref r3])), (r, .inr (0, [.ref a, .ref b, .int (nI n1)])), (a, .inl (cI, 768, .inl f1)), (b, .inl (cI, 768, .inl g1))]) hD hS hA [0, 1, 2, 3] rfl
              refine va_callv (va_runV (As := [.int (nI c9), .int (nI (c9 - 32))]) (rest := []) ⟨hx, hb, hml, hown, hts⟩ (c_foldTwo l dC dI _ x r r2 r3 a b cI n1 f1 g1 _ h3 (by omega) c9 (c9 - 32) (by omega) (by omega)) (cwV 2 hts gX1_foldLetters_X1_foldTwo rfl rfl rfl (by decide +kernel) ⟨Nat.le_of_ble_eq_true rfl, Nat.le_of_ble_eq_true rfl⟩) (cr_preVN hN hPc hK hDc (ci := 1) (q0 := 0) rfl rfl) rfl rfl hl.1 rfl (lv_room (Nat.le_of_ble_eq_true rfl)) dX1_foldLetters_42 ⟨Nat.zero_le _, Nat.zero_le _⟩) hS (fun q _ h => hFc q h) hFc (fun u_42 t_42 H_42 locs ht_42 hvm_42 hw_42 hB_42 hz_42 hk_42 hS => ?_)
              obtain ⟨n3, f3, g3, rfl, hn3, hSet3⟩ := hw_42
              obtain ⟨hP, hD⟩ := cr_back (wr := []) (w1 := [(x, .inr (1, [.ref r, .ref r2, .ref r3])), (r, .inr (0, [.ref a, .ref b, .int (nI n3)])), (a, .inl (cI, 768, .inl f3)), (b, .inl (cI, 768, .inl g3))]) hP hD [0, 1, 2, 3] [] rfl rfl (by decide) (by decide) hk_42 hFc hB_42 ht_42
              clear hPc hDc hFc
              generalize H_42 = H at hP hS ⊢
              have hP := hP.sub (ws' := [(x, .inr (1, [.ref r, .ref r2, .ref r3])), (r, .inr (0, [.ref a, .ref b, .int (nI n3)])), (a, .inl (cI, 768, .inl f3)), (b, .inl (cI, 768, .inl g3))]) [0, 1, 2, 3] rfl
              have hD := hD.sub (ws' := [(x, .inr (1, [.ref r, .ref r2, .ref r3])), (r, .inr (0, [.ref a, .ref b, .int (nI n3)])), (a, .inl (cI, 768, .inl f3)), (b, .inl (cI, 768, .inl g3))]) [0, 1, 2, 3] (by decide) rfl
              refine lv_iinc (v := nI (c9 + 1)) (lv' := [(3, .int (nI (c9 + 1))), (0, .ref x), (1, .int (nI 6)), (2, .int (nI 32))]) hx hb dX1_foldLetters_45 hl (k := 3) rfl (nI_add c9 1) (by decide) rfl (fun ls hl => ?_)
              refine lv_goto (tgt := 26) hx hb dX1_foldLetters_48 (by decide) ?_
              exact ih26 (c9 + 1) n3 f3 g3 _ _ _ ⟨⟨by omega, by omega, hSet3.iff (fun x => cr_L_step (fun x => Iff.rfl) hrw.1 hrw.2.1 hrw.2.2.1 hrw.2.2.2.1 hrw.2.2.2.2 x)⟩, hP, hD, hS, lv_sub hl [1, 2, 3, 0] rfl⟩ (by omega)
        · rw [nI_ltI (by omega) (by omega)] at c_34
          have hrw := cr_row32 (c := c9) (by omega)
          refine lv_aload_n hx hb dX1_foldLetters_37 rfl (lv_at hl 0 rfl) ?_
          refine lv_iload_n hx hb dX1_foldLetters_38 rfl (lv_at hl 3 rfl) ?_
          refine lv_iload_n hx hb dX1_foldLetters_39 rfl (lv_at hl 3 rfl) ?_
          refine lv_iload_n hx hb dX1_foldLetters_40 rfl (lv_at hl 2 rfl) ?_
          refine lv_isub hx hb dX1_foldLetters_41 ?_
          refine cr_top (y := nI (c9 - 32)) (pk_sub (by omega)) ?_
          have hPc := hP.sub (ws' := [(x, .inr (1, [.ref r, .ref r2, .ref r3])), (r, .inr (0, [.ref a, .ref b, .int (nI n1)])), (a, .inl (cI, 768, .inl f1)), (b, .inl (cI, 768, .inl g1))]) [0, 1, 2, 3] rfl
          have hDc := hD.sub (ws' := [(x, .inr (1, [.ref r, .ref r2, .ref r3])), (r, .inr (0, [.ref a, .ref b, .int (nI n1)])), (a, .inl (cI, 768, .inl f1)), (b, .inl (cI, 768, .inl g1))]) [0, 1, 2, 3] (by decide) rfl
          have hFc := va_free (wc := [(x, .inr (1, [.ref r, .ref r2, .ref r3])), (r, .inr (0, [.ref a, .ref b, .int (nI n1)])), (a, .inl (cI, 768, .inl f1)), (b, .inl (cI, 768, .inl g1))]) hD hS hA [0, 1, 2, 3] rfl
          refine va_callv (va_runV (As := [.int (nI c9), .int (nI (c9 - 32))]) (rest := []) ⟨hx, hb, hml, hown, hts⟩ (c_foldTwo l dC dI _ x r r2 r3 a b cI n1 f1 g1 _ h3 (by omega) c9 (c9 - 32) (by omega) (by omega)) (cwV 2 hts gX1_foldLetters_X1_foldTwo rfl rfl rfl (by decide +kernel) ⟨Nat.le_of_ble_eq_true rfl, Nat.le_of_ble_eq_true rfl⟩) (cr_preVN hN hPc hK hDc (ci := 1) (q0 := 0) rfl rfl) rfl rfl hl.1 rfl (lv_room (Nat.le_of_ble_eq_true rfl)) dX1_foldLetters_42 ⟨Nat.zero_le _, Nat.zero_le _⟩) hS (fun q _ h => hFc q h) hFc (fun u_42 t_42 H_42 locs ht_42 hvm_42 hw_42 hB_42 hz_42 hk_42 hS => ?_)
          obtain ⟨n3, f3, g3, rfl, hn3, hSet3⟩ := hw_42
          obtain ⟨hP, hD⟩ := cr_back (wr := []) (w1 := [(x, .inr (1, [.ref r, .ref r2, .ref r3])), (r, .inr (0, [.ref a, .ref b, .int (nI n3)])), (a, .inl (cI, 768, .inl f3)), (b, .inl (cI, 768, .inl g3))]) hP hD [0, 1, 2, 3] [] rfl rfl (by decide) (by decide) hk_42 hFc hB_42 ht_42
          clear hPc hDc hFc
          generalize H_42 = H at hP hS ⊢
          have hP := hP.sub (ws' := [(x, .inr (1, [.ref r, .ref r2, .ref r3])), (r, .inr (0, [.ref a, .ref b, .int (nI n3)])), (a, .inl (cI, 768, .inl f3)), (b, .inl (cI, 768, .inl g3))]) [0, 1, 2, 3] rfl
          have hD := hD.sub (ws' := [(x, .inr (1, [.ref r, .ref r2, .ref r3])), (r, .inr (0, [.ref a, .ref b, .int (nI n3)])), (a, .inl (cI, 768, .inl f3)), (b, .inl (cI, 768, .inl g3))]) [0, 1, 2, 3] (by decide) rfl
          refine lv_iinc (v := nI (c9 + 1)) (lv' := [(3, .int (nI (c9 + 1))), (0, .ref x), (1, .int (nI 3)), (2, .int (nI 32))]) hx hb dX1_foldLetters_45 hl (k := 3) rfl (nI_add c9 1) (by decide) rfl (fun ls hl => ?_)
          refine lv_goto (tgt := 26) hx hb dX1_foldLetters_48 (by decide) ?_
          exact ih26 (c9 + 1) n3 f3 g3 _ _ _ ⟨⟨by omega, by omega, hSet3.iff (fun x => cr_L_step (fun x => Iff.rfl) hrw.1 hrw.2.1 hrw.2.2.1 hrw.2.2.2.1 hrw.2.2.2.2 x)⟩, hP, hD, hS, lv_sub hl [1, 2, 3, 0] rfl⟩ (by omega)
    · rw [nI_ltI (by omega) (by omega)] at c_34
      have hrw := cr_row32 (c := c9) (by omega)
      refine lv_aload_n hx hb dX1_foldLetters_37 rfl (lv_at hl 0 rfl) ?_
      refine lv_iload_n hx hb dX1_foldLetters_38 rfl (lv_at hl 3 rfl) ?_
      refine lv_iload_n hx hb dX1_foldLetters_39 rfl (lv_at hl 3 rfl) ?_
      refine lv_iload_n hx hb dX1_foldLetters_40 rfl (lv_at hl 2 rfl) ?_
      refine lv_isub hx hb dX1_foldLetters_41 ?_
      refine cr_top (y := nI (c9 - 32)) (pk_sub (by omega)) ?_
      have hPc := hP.sub (ws' := [(x, .inr (1, [.ref r, .ref r2, .ref r3])), (r, .inr (0, [.ref a, .ref b, .int (nI n1)])), (a, .inl (cI, 768, .inl f1)), (b, .inl (cI, 768, .inl g1))]) [0, 1, 2, 3] rfl
      have hDc := hD.sub (ws' := [(x, .inr (1, [.ref r, .ref r2, .ref r3])), (r, .inr (0, [.ref a, .ref b, .int (nI n1)])), (a, .inl (cI, 768, .inl f1)), (b, .inl (cI, 768, .inl g1))]) [0, 1, 2, 3] (by decide) rfl
      have hFc := va_free (wc := [(x, .inr (1, [.ref r, .ref r2, .ref r3])), (r, .inr (0, [.ref a, .ref b, .int (nI n1)])), (a, .inl (cI, 768, .inl f1)), (b, .inl (cI, 768, .inl g1))]) hD hS hA [0, 1, 2, 3] rfl
      refine va_callv (va_runV (As := [.int (nI c9), .int (nI (c9 - 32))]) (rest := []) ⟨hx, hb, hml, hown, hts⟩ (c_foldTwo l dC dI _ x r r2 r3 a b cI n1 f1 g1 _ h3 (by omega) c9 (c9 - 32) (by omega) (by omega)) (cwV 2 hts gX1_foldLetters_X1_foldTwo rfl rfl rfl (by decide +kernel) ⟨Nat.le_of_ble_eq_true rfl, Nat.le_of_ble_eq_true rfl⟩) (cr_preVN hN hPc hK hDc (ci := 1) (q0 := 0) rfl rfl) rfl rfl hl.1 rfl (lv_room (Nat.le_of_ble_eq_true rfl)) dX1_foldLetters_42 ⟨Nat.zero_le _, Nat.zero_le _⟩) hS (fun q _ h => hFc q h) hFc (fun u_42 t_42 H_42 locs ht_42 hvm_42 hw_42 hB_42 hz_42 hk_42 hS => ?_)
      obtain ⟨n3, f3, g3, rfl, hn3, hSet3⟩ := hw_42
      obtain ⟨hP, hD⟩ := cr_back (wr := []) (w1 := [(x, .inr (1, [.ref r, .ref r2, .ref r3])), (r, .inr (0, [.ref a, .ref b, .int (nI n3)])), (a, .inl (cI, 768, .inl f3)), (b, .inl (cI, 768, .inl g3))]) hP hD [0, 1, 2, 3] [] rfl rfl (by decide) (by decide) hk_42 hFc hB_42 ht_42
      clear hPc hDc hFc
      generalize H_42 = H at hP hS ⊢
      have hP := hP.sub (ws' := [(x, .inr (1, [.ref r, .ref r2, .ref r3])), (r, .inr (0, [.ref a, .ref b, .int (nI n3)])), (a, .inl (cI, 768, .inl f3)), (b, .inl (cI, 768, .inl g3))]) [0, 1, 2, 3] rfl
      have hD := hD.sub (ws' := [(x, .inr (1, [.ref r, .ref r2, .ref r3])), (r, .inr (0, [.ref a, .ref b, .int (nI n3)])), (a, .inl (cI, 768, .inl f3)), (b, .inl (cI, 768, .inl g3))]) [0, 1, 2, 3] (by decide) rfl
      refine lv_iinc (v := nI (c9 + 1)) (lv' := [(3, .int (nI (c9 + 1))), (0, .ref x), (1, .int (nI 0)), (2, .int (nI 32))]) hx hb dX1_foldLetters_45 hl (k := 3) rfl (nI_add c9 1) (by decide) rfl (fun ls hl => ?_)
      refine lv_goto (tgt := 26) hx hb dX1_foldLetters_48 (by decide) ?_
      exact ih26 (c9 + 1) n3 f3 g3 _ _ _ ⟨⟨by omega, by omega, hSet3.iff (fun x => cr_L_step (fun x => Iff.rfl) hrw.1 hrw.2.1 hrw.2.2.1 hrw.2.2.2.1 hrw.2.2.2.2 x)⟩, hP, hD, hS, lv_sub hl [1, 2, 3, 0] rfl⟩ (by omega)

set_option maxHeartbeats 4000000 in
set_option maxRecDepth 100000 in
theorem c_foldPairs (l : Launch) (dC : Nat → ClassId) (dI : Nat → Nat → Nat) (sz : Nat) (tL tP : Nat) (x r r2 r3 a b : Nat) (cI : ClassId) (n : Nat) (f g : Nat → Int32) (S : Nat → Prop) (hSet : cr_Set n f g S) (P : List Nat) (hB : cr_Bd P S) (hF : ∀ c, c ∈ cr_F → c ∈ P) (hPl : P.length ≤ 1400) : Met l yX1_foldPairs wsX1_foldPairs ({ frames := 6, cells := 0, slots := 0, locals := 220 }) (va_Pc [.ref x] (cr_preT tL tP dC dI [(cI, .int)] [(x, .inr (1, [.ref r, .ref r2, .ref r3])), (r, .inr (0, [.ref a, .ref b, .int (nI n)])), (a, .inl (cI, 768, .inl f)), (b, .inl (cI, 768, .inl g))] sz)) (va_Qv (fun (u : va_W) => ∃ (n' : Nat) (f' g' : Nat → Int32), u = [(x, .inr (1, [.ref r, .ref r2, .ref r3])), (r, .inr (0, [.ref a, .ref b, .int (nI n')])), (a, .inl (cI, 768, .inl f')), (b, .inl (cI, 768, .inl g'))] ∧ n' ≤ 768 ∧ cr_Set n' f' g' (fun c => cr_Q S c)) (cr_at dC dI [(cI, .int)] (va_A [(x, .inr (1, [.ref r, .ref r2, .ref r3])), (r, .inr (0, [.ref a, .ref b, .int (nI n)])), (a, .inl (cI, 768, .inl f)), (b, .inl (cI, 768, .inl g))] sz)) (va_A [(x, .inr (1, [.ref r, .ref r2, .ref r3])), (r, .inr (0, [.ref a, .ref b, .int (nI n)])), (a, .inl (cI, 768, .inl f)), (b, .inl (cI, 768, .inl g))] sz)) 0 0 (va_A [(x, .inr (1, [.ref r, .ref r2, .ref r3])), (r, .inr (0, [.ref a, .ref b, .int (nI n)])), (a, .inl (cI, 768, .inl f)), (b, .inl (cI, 768, .inl g))] sz) := by
  refine Met.ofW (cc := cX1_foldPairs) (maxL := 2) (ret := none) (by decide) rfl ?_
  intro p e s m args below meth c s₁ B hml hv
  obtain ⟨rfl, ⟨⟨hsz, hP, hK, hD0⟩, hN⟩, hT⟩ := hv
  have hx := B.exec
  have hb := B.bytes
  have hr := B.returns
  have hts := atoms_spec (ws := wsX1_foldPairs) B.pre
  have hown : s.vm.findClass RX1 = some m.cls := findClass_of_methodNamed B.named
  have hlocks := B.notSynchronized
  subst hsz
  have hD := hD0.self (sz := s.heap.size)
  generalize hAe : va_A [(x, .inr (1, [.ref r, .ref r2, .ref r3])), (r, .inr (0, [.ref a, .ref b, .int (nI n)])), (a, .inl (cI, 768, .inl f)), (b, .inl (cI, 768, .inl g))] s.heap.size = A at hD hT ⊢
  have hA : ∀ q : Nat, s.heap.size ≤ q → A q := fun q h => by rw [← hAe]; exact Or.inr h
  have hS : va_S A s.heap s.heap [] := va_S.rf
  have hP : va_P (dC, dI) crCl [(x, .inr (1, [.ref r, .ref r2, .ref r3])), (r, .inr (0, [.ref a, .ref b, .int (nI n)])), (a, .inl (cI, 768, .inl f)), (b, .inl (cI, 768, .inl g))] s.heap := hP
  have hl := lv_entry ([.ref x]) (n := 2) (Nat.le_of_ble_eq_true rfl)
  rw [lg_entry_eq]
  generalize (lg_sl ([.ref x]) ++ List.replicate (2 - (lg_sl ([.ref x])).length) Slot.unset).toArray = ls at hl ⊢
  have hl : lv_has ls 2 [(0, .ref x)] := hl
  have hQ0 : cr_Set n f g (fun x => S x ∨ (cr_pk x < 0 ∧ S (cr_pp x))) := hSet.iff cr_Q_zero
  refine lv_iconst (v := nI 0) hx hb dX1_foldPairs_0 (by decide) ?_
  refine lv_istore_n (lv' := [(1, .int (nI 0)), (0, .ref x)]) hx hb dX1_foldPairs_1 rfl hl (by decide) rfl (fun ls hl => ?_)
  refine lv_iload_n hx hb dX1_foldPairs_2 rfl (lv_at hl 0 rfl) ?_
  refine lv_iconst (v := nI 1) hx hb dX1_foldPairs_3 (by decide) ?_
  refine lv_iadd hx hb dX1_foldPairs_4 ?_
  refine cr_top (y := nI 1) (by decide) ?_
  refine va_gets hx hb hT.2.2.1 hS hown (hts (.fieldLink RX1 110 "CharRows" "PAIRS" "[I") (by decide +kernel)) (fun _ h9 => h9) dX1_foldPairs_5 ?_
  refine va_tlen (v := nI 10) hx hb hT.2.2.2 hS rfl dX1_foldPairs_8 ?_
  refine lv_icmp_ge (tgt := 34) hx hb dX1_foldPairs_9 (by decide) (fun c_9 => ?_) (fun c_9 => ?_)
  · exact absurd c_9 (by decide)
  · refine lv_aload_n hx hb dX1_foldPairs_12 rfl (lv_at hl 1 rfl) ?_
    refine va_gets hx hb hT.2.2.1 hS hown (hts (.fieldLink RX1 110 "CharRows" "PAIRS" "[I") (by decide +kernel)) (fun _ h9 => h9) dX1_foldPairs_13 ?_
    refine lv_iload_n hx hb dX1_foldPairs_16 rfl (lv_at hl 0 rfl) ?_
    refine va_ti (v := .int (nI 962)) hx hb hT.2.2.2 hS (vp_in_nI (by omega) (by omega)) (by rw [nI_clamp (by omega)]; rfl) dX1_foldPairs_17 ?_
    refine va_gets hx hb hT.2.2.1 hS hown (hts (.fieldLink RX1 110 "CharRows" "PAIRS" "[I") (by decide +kernel)) (fun _ h9 => h9) dX1_foldPairs_18 ?_
    refine lv_iload_n hx hb dX1_foldPairs_21 rfl (lv_at hl 0 rfl) ?_
    refine lv_iconst (v := nI 1) hx hb dX1_foldPairs_22 (by decide) ?_
    refine lv_iadd hx hb dX1_foldPairs_23 ?_
    refine cr_top (y := nI 1) (by decide) ?_
    refine va_ti (v := .int (nI 963)) hx hb hT.2.2.2 hS (vp_in_nI (by omega) (by omega)) (by rw [nI_clamp (by omega)]; rfl) dX1_foldPairs_24 ?_
    have hct0 := hQ0.count (cr_Bd_Q hB hF 0)
    have hPc := hP.sub (ws' := [(x, .inr (1, [.ref r, .ref r2, .ref r3])), (r, .inr (0, [.ref a, .ref b, .int (nI n)])), (a, .inl (cI, 768, .inl f)), (b, .inl (cI, 768, .inl g))]) [0, 1, 2, 3] rfl
    have hDc := hD.sub (ws' := [(x, .inr (1, [.ref r, .ref r2, .ref r3])), (r, .inr (0, [.ref a, .ref b, .int (nI n)])), (a, .inl (cI, 768, .inl f)), (b, .inl (cI, 768, .inl g))]) [0, 1, 2, 3] (by decide) rfl
    have hFc := va_free (wc := [(x, .inr (1, [.ref r, .ref r2, .ref r3])), (r, .inr (0, [.ref a, .ref b, .int (nI n)])), (a, .inl (cI, 768, .inl f)), (b, .inl (cI, 768, .inl g))]) hD hS hA [0, 1, 2, 3] rfl
    refine va_callv (va_runV (As := [.int (nI 962), .int (nI 963)]) (rest := []) ⟨hx, hb, hml, hown, hts⟩ (c_foldTwo l dC dI _ x r r2 r3 a b cI n f g _ hQ0 (by omega) 962 963 (by omega) (by omega)) (cwV 2 hts gX1_foldPairs_X1_foldTwo rfl rfl rfl (by decide +kernel) ⟨Nat.le_of_ble_eq_true rfl, Nat.le_of_ble_eq_true rfl⟩) (cr_preVN hN hPc hK hDc (ci := 1) (q0 := 0) rfl rfl) rfl rfl hl.1 rfl (lv_room (Nat.le_of_ble_eq_true rfl)) dX1_foldPairs_25 ⟨Nat.zero_le _, Nat.zero_le _⟩) hS (fun q _ h => hFc q h) hFc (fun u_25 t_25 H_25 locs ht_25 hvm_25 hw_25 hB_25 hz_25 hk_25 hS => ?_)
    obtain ⟨nq1, fq1, gq1, rfl, hnq1, hSt1⟩ := hw_25
    have hQ1 : cr_Set nq1 fq1 gq1 (fun x => S x ∨ (cr_pk x < 1 ∧ S (cr_pp x))) := hSt1.iff (fun x => cr_Q_step (fun x => Iff.rfl) (by decide) (by decide) (by decide) (by decide) (fun x hx => by have := cr_pk_in x; omega) x)
    obtain ⟨hP, hD⟩ := cr_back (wr := []) (w1 := [(x, .inr (1, [.ref r, .ref r2, .ref r3])), (r, .inr (0, [.ref a, .ref b, .int (nI nq1)])), (a, .inl (cI, 768, .inl fq1)), (b, .inl (cI, 768, .inl gq1))]) hP hD [0, 1, 2, 3] [] rfl rfl (by decide) (by decide) hk_25 hFc hB_25 ht_25
    clear hPc hDc hFc
    generalize H_25 = H at hP hS ⊢
    have hP := hP.sub (ws' := [(x, .inr (1, [.ref r, .ref r2, .ref r3])), (r, .inr (0, [.ref a, .ref b, .int (nI nq1)])), (a, .inl (cI, 768, .inl fq1)), (b, .inl (cI, 768, .inl gq1))]) [0, 1, 2, 3] rfl
    have hD := hD.sub (ws' := [(x, .inr (1, [.ref r, .ref r2, .ref r3])), (r, .inr (0, [.ref a, .ref b, .int (nI nq1)])), (a, .inl (cI, 768, .inl fq1)), (b, .inl (cI, 768, .inl gq1))]) [0, 1, 2, 3] (by decide) rfl
    refine lv_iinc (v := nI 2) (lv' := [(1, .int (nI 2)), (0, .ref x)]) hx hb dX1_foldPairs_28 hl (k := 0) rfl (by decide) (by decide) rfl (fun ls hl => ?_)
    refine lv_goto (tgt := 2) hx hb dX1_foldPairs_31 (by decide) ?_
    refine lv_iload_n hx hb dX1_foldPairs_2 rfl (lv_at hl 0 rfl) ?_
    refine lv_iconst (v := nI 1) hx hb dX1_foldPairs_3 (by decide) ?_
    refine lv_iadd hx hb dX1_foldPairs_4 ?_
    refine cr_top (y := nI 3) (by decide) ?_
    refine va_gets hx hb hT.2.2.1 hS hown (hts (.fieldLink RX1 110 "CharRows" "PAIRS" "[I") (by decide +kernel)) (fun _ h9 => h9) dX1_foldPairs_5 ?_
    refine va_tlen (v := nI 10) hx hb hT.2.2.2 hS rfl dX1_foldPairs_8 ?_
    refine lv_icmp_ge (tgt := 34) hx hb dX1_foldPairs_9 (by decide) (fun c_9 => ?_) (fun c_9 => ?_)
    · exact absurd c_9 (by decide)
    · refine lv_aload_n hx hb dX1_foldPairs_12 rfl (lv_at hl 1 rfl) ?_
      refine va_gets hx hb hT.2.2.1 hS hown (hts (.fieldLink RX1 110 "CharRows" "PAIRS" "[I") (by decide +kernel)) (fun _ h9 => h9) dX1_foldPairs_13 ?_
      refine lv_iload_n hx hb dX1_foldPairs_16 rfl (lv_at hl 0 rfl) ?_
      refine va_ti (v := .int (nI 107)) hx hb hT.2.2.2 hS (vp_in_nI (by omega) (by omega)) (by rw [nI_clamp (by omega)]; rfl) dX1_foldPairs_17 ?_
      refine va_gets hx hb hT.2.2.1 hS hown (hts (.fieldLink RX1 110 "CharRows" "PAIRS" "[I") (by decide +kernel)) (fun _ h9 => h9) dX1_foldPairs_18 ?_
      refine lv_iload_n hx hb dX1_foldPairs_21 rfl (lv_at hl 0 rfl) ?_
      refine lv_iconst (v := nI 1) hx hb dX1_foldPairs_22 (by decide) ?_
      refine lv_iadd hx hb dX1_foldPairs_23 ?_
      refine cr_top (y := nI 3) (by decide) ?_
      refine va_ti (v := .int (nI 8490)) hx hb hT.2.2.2 hS (vp_in_nI (by omega) (by omega)) (by rw [nI_clamp (by omega)]; rfl) dX1_foldPairs_24 ?_
      have hct1 := hQ1.count (cr_Bd_Q hB hF 1)
      have hPc := hP.sub (ws' := [(x, .inr (1, [.ref r, .ref r2, .ref r3])), (r, .inr (0, [.ref a, .ref b, .int (nI nq1)])), (a, .inl (cI, 768, .inl fq1)), (b, .inl (cI, 768, .inl gq1))]) [0, 1, 2, 3] rfl
      have hDc := hD.sub (ws' := [(x, .inr (1, [.ref r, .ref r2, .ref r3])), (r, .inr (0, [.ref a, .ref b, .int (nI nq1)])), (a, .inl (cI, 768, .inl fq1)), (b, .inl (cI, 768, .inl gq1))]) [0, 1, 2, 3] (by decide) rfl
      have hFc := va_free (wc := [(x, .inr (1, [.ref r, .ref r2, .ref r3])), (r, .inr (0, [.ref a, .ref b, .int (nI nq1)])), (a, .inl (cI, 768, .inl fq1)), (b, .inl (cI, 768, .inl gq1))]) hD hS hA [0, 1, 2, 3] rfl
      refine va_callv (va_runV (As := [.int (nI 107), .int (nI 8490)]) (rest := []) ⟨hx, hb, hml, hown, hts⟩ (c_foldTwo l dC dI _ x r r2 r3 a b cI nq1 fq1 gq1 _ hQ1 (by omega) 107 8490 (by omega) (by omega)) (cwV 2 hts gX1_foldPairs_X1_foldTwo rfl rfl rfl (by decide +kernel) ⟨Nat.le_of_ble_eq_true rfl, Nat.le_of_ble_eq_true rfl⟩) (cr_preVN hN hPc hK hDc (ci := 1) (q0 := 0) rfl rfl) rfl rfl hl.1 rfl (lv_room (Nat.le_of_ble_eq_true rfl)) dX1_foldPairs_25 ⟨Nat.zero_le _, Nat.zero_le _⟩) hS (fun q _ h => hFc q h) hFc (fun u_25 t_25 H_25 locs ht_25 hvm_25 hw_25 hB_25 hz_25 hk_25 hS => ?_)
      obtain ⟨nq2, fq2, gq2, rfl, hnq2, hSt2⟩ := hw_25
      have hQ2 : cr_Set nq2 fq2 gq2 (fun x => S x ∨ (cr_pk x < 2 ∧ S (cr_pp x))) := hSt2.iff (fun x => cr_Q_step (fun x => Iff.rfl) (by decide) (by decide) (by decide) (by decide) (fun x hx => by have := cr_pk_in x; omega) x)
      obtain ⟨hP, hD⟩ := cr_back (wr := []) (w1 := [(x, .inr (1, [.ref r, .ref r2, .ref r3])), (r, .inr (0, [.ref a, .ref b, .int (nI nq2)])), (a, .inl (cI, 768, .inl fq2)), (b, .inl (cI, 768, .inl gq2))]) hP hD [0, 1, 2, 3] [] rfl rfl (by decide) (by decide) hk_25 hFc hB_25 ht_25
      clear hPc hDc hFc
      generalize H_25 = H at hP hS ⊢
      have hP := hP.sub (ws' := [(x, .inr (1, [.ref r, .ref r2, .ref r3])), (r, .inr (0, [.ref a, .ref b, .int (nI nq2)])), (a, .inl (cI, 768, .inl fq2)), (b, .inl (cI, 768, .inl gq2))]) [0, 1, 2, 3] rfl
      have hD := hD.sub (ws' := [(x, .inr (1, [.ref r, .ref r2, .ref r3])), (r, .inr (0, [.ref a, .ref b, .int (nI nq2)])), (a, .inl (cI, 768, .inl fq2)), (b, .inl (cI, 768, .inl gq2))]) [0, 1, 2, 3] (by decide) rfl
      refine lv_iinc (v := nI 4) (lv' := [(1, .int (nI 4)), (0, .ref x)]) hx hb dX1_foldPairs_28 hl (k := 0) rfl (by decide) (by decide) rfl (fun ls hl => ?_)
      refine lv_goto (tgt := 2) hx hb dX1_foldPairs_31 (by decide) ?_
      refine lv_iload_n hx hb dX1_foldPairs_2 rfl (lv_at hl 0 rfl) ?_
      refine lv_iconst (v := nI 1) hx hb dX1_foldPairs_3 (by decide) ?_
      refine lv_iadd hx hb dX1_foldPairs_4 ?_
      refine cr_top (y := nI 5) (by decide) ?_
      refine va_gets hx hb hT.2.2.1 hS hown (hts (.fieldLink RX1 110 "CharRows" "PAIRS" "[I") (by decide +kernel)) (fun _ h9 => h9) dX1_foldPairs_5 ?_
      refine va_tlen (v := nI 10) hx hb hT.2.2.2 hS rfl dX1_foldPairs_8 ?_
      refine lv_icmp_ge (tgt := 34) hx hb dX1_foldPairs_9 (by decide) (fun c_9 => ?_) (fun c_9 => ?_)
      · exact absurd c_9 (by decide)
      · refine lv_aload_n hx hb dX1_foldPairs_12 rfl (lv_at hl 1 rfl) ?_
        refine va_gets hx hb hT.2.2.1 hS hown (hts (.fieldLink RX1 110 "CharRows" "PAIRS" "[I") (by decide +kernel)) (fun _ h9 => h9) dX1_foldPairs_13 ?_
        refine lv_iload_n hx hb dX1_foldPairs_16 rfl (lv_at hl 0 rfl) ?_
        refine va_ti (v := .int (nI 115)) hx hb hT.2.2.2 hS (vp_in_nI (by omega) (by omega)) (by rw [nI_clamp (by omega)]; rfl) dX1_foldPairs_17 ?_
        refine va_gets hx hb hT.2.2.1 hS hown (hts (.fieldLink RX1 110 "CharRows" "PAIRS" "[I") (by decide +kernel)) (fun _ h9 => h9) dX1_foldPairs_18 ?_
        refine lv_iload_n hx hb dX1_foldPairs_21 rfl (lv_at hl 0 rfl) ?_
        refine lv_iconst (v := nI 1) hx hb dX1_foldPairs_22 (by decide) ?_
        refine lv_iadd hx hb dX1_foldPairs_23 ?_
        refine cr_top (y := nI 5) (by decide) ?_
        refine va_ti (v := .int (nI 383)) hx hb hT.2.2.2 hS (vp_in_nI (by omega) (by omega)) (by rw [nI_clamp (by omega)]; rfl) dX1_foldPairs_24 ?_
        have hct2 := hQ2.count (cr_Bd_Q hB hF 2)
        have hPc := hP.sub (ws' := [(x, .inr (1, [.ref r, .ref r2, .ref r3])), (r, .inr (0, [.ref a, .ref b, .int (nI nq2)])), (a, .inl (cI, 768, .inl fq2)), (b, .inl (cI, 768, .inl gq2))]) [0, 1, 2, 3] rfl
        have hDc := hD.sub (ws' := [(x, .inr (1, [.ref r, .ref r2, .ref r3])), (r, .inr (0, [.ref a, .ref b, .int (nI nq2)])), (a, .inl (cI, 768, .inl fq2)), (b, .inl (cI, 768, .inl gq2))]) [0, 1, 2, 3] (by decide) rfl
        have hFc := va_free (wc := [(x, .inr (1, [.ref r, .ref r2, .ref r3])), (r, .inr (0, [.ref a, .ref b, .int (nI nq2)])), (a, .inl (cI, 768, .inl fq2)), (b, .inl (cI, 768, .inl gq2))]) hD hS hA [0, 1, 2, 3] rfl
        refine va_callv (va_runV (As := [.int (nI 115), .int (nI 383)]) (rest := []) ⟨hx, hb, hml, hown, hts⟩ (c_foldTwo l dC dI _ x r r2 r3 a b cI nq2 fq2 gq2 _ hQ2 (by omega) 115 383 (by omega) (by omega)) (cwV 2 hts gX1_foldPairs_X1_foldTwo rfl rfl rfl (by decide +kernel) ⟨Nat.le_of_ble_eq_true rfl, Nat.le_of_ble_eq_true rfl⟩) (cr_preVN hN hPc hK hDc (ci := 1) (q0 := 0) rfl rfl) rfl rfl hl.1 rfl (lv_room (Nat.le_of_ble_eq_true rfl)) dX1_foldPairs_25 ⟨Nat.zero_le _, Nat.zero_le _⟩) hS (fun q _ h => hFc q h) hFc (fun u_25 t_25 H_25 locs ht_25 hvm_25 hw_25 hB_25 hz_25 hk_25 hS => ?_)
        obtain ⟨nq3, fq3, gq3, rfl, hnq3, hSt3⟩ := hw_25
        have hQ3 : cr_Set nq3 fq3 gq3 (fun x => S x ∨ (cr_pk x < 3 ∧ S (cr_pp x))) := hSt3.iff (fun x => cr_Q_step (fun x => Iff.rfl) (by decide) (by decide) (by decide) (by decide) (fun x hx => by have := cr_pk_in x; omega) x)
        obtain ⟨hP, hD⟩ := cr_back (wr := []) (w1 := [(x, .inr (1, [.ref r, .ref r2, .ref r3])), (r, .inr (0, [.ref a, .ref b, .int (nI nq3)])), (a, .inl (cI, 768, .inl fq3)), (b, .inl (cI, 768, .inl gq3))]) hP hD [0, 1, 2, 3] [] rfl rfl (by decide) (by decide) hk_25 hFc hB_25 ht_25
        clear hPc hDc hFc
        generalize H_25 = H at hP hS ⊢
        have hP := hP.sub (ws' := [(x, .inr (1, [.ref r, .ref r2, .ref r3])), (r, .inr (0, [.ref a, .ref b, .int (nI nq3)])), (a, .inl (cI, 768, .inl fq3)), (b, .inl (cI, 768, .inl gq3))]) [0, 1, 2, 3] rfl
        have hD := hD.sub (ws' := [(x, .inr (1, [.ref r, .ref r2, .ref r3])), (r, .inr (0, [.ref a, .ref b, .int (nI nq3)])), (a, .inl (cI, 768, .inl fq3)), (b, .inl (cI, 768, .inl gq3))]) [0, 1, 2, 3] (by decide) rfl
        refine lv_iinc (v := nI 6) (lv' := [(1, .int (nI 6)), (0, .ref x)]) hx hb dX1_foldPairs_28 hl (k := 0) rfl (by decide) (by decide) rfl (fun ls hl => ?_)
        refine lv_goto (tgt := 2) hx hb dX1_foldPairs_31 (by decide) ?_
        refine lv_iload_n hx hb dX1_foldPairs_2 rfl (lv_at hl 0 rfl) ?_
        refine lv_iconst (v := nI 1) hx hb dX1_foldPairs_3 (by decide) ?_
        refine lv_iadd hx hb dX1_foldPairs_4 ?_
        refine cr_top (y := nI 7) (by decide) ?_
        refine va_gets hx hb hT.2.2.1 hS hown (hts (.fieldLink RX1 110 "CharRows" "PAIRS" "[I") (by decide +kernel)) (fun _ h9 => h9) dX1_foldPairs_5 ?_
        refine va_tlen (v := nI 10) hx hb hT.2.2.2 hS rfl dX1_foldPairs_8 ?_
        refine lv_icmp_ge (tgt := 34) hx hb dX1_foldPairs_9 (by decide) (fun c_9 => ?_) (fun c_9 => ?_)
        · exact absurd c_9 (by decide)
        · refine lv_aload_n hx hb dX1_foldPairs_12 rfl (lv_at hl 1 rfl) ?_
          refine va_gets hx hb hT.2.2.1 hS hown (hts (.fieldLink RX1 110 "CharRows" "PAIRS" "[I") (by decide +kernel)) (fun _ h9 => h9) dX1_foldPairs_13 ?_
          refine lv_iload_n hx hb dX1_foldPairs_16 rfl (lv_at hl 0 rfl) ?_
          refine va_ti (v := .int (nI 229)) hx hb hT.2.2.2 hS (vp_in_nI (by omega) (by omega)) (by rw [nI_clamp (by omega)]; rfl) dX1_foldPairs_17 ?_
          refine va_gets hx hb hT.2.2.1 hS hown (hts (.fieldLink RX1 110 "CharRows" "PAIRS" "[I") (by decide +kernel)) (fun _ h9 => h9) dX1_foldPairs_18 ?_
          refine lv_iload_n hx hb dX1_foldPairs_21 rfl (lv_at hl 0 rfl) ?_
          refine lv_iconst (v := nI 1) hx hb dX1_foldPairs_22 (by decide) ?_
          refine lv_iadd hx hb dX1_foldPairs_23 ?_
          refine cr_top (y := nI 7) (by decide) ?_
          refine va_ti (v := .int (nI 8491)) hx hb hT.2.2.2 hS (vp_in_nI (by omega) (by omega)) (by rw [nI_clamp (by omega)]; rfl) dX1_foldPairs_24 ?_
          have hct3 := hQ3.count (cr_Bd_Q hB hF 3)
          have hPc := hP.sub (ws' := [(x, .inr (1, [.ref r, .ref r2, .ref r3])), (r, .inr (0, [.ref a, .ref b, .int (nI nq3)])), (a, .inl (cI, 768, .inl fq3)), (b, .inl (cI, 768, .inl gq3))]) [0, 1, 2, 3] rfl
          have hDc := hD.sub (ws' := [(x, .inr (1, [.ref r, .ref r2, .ref r3])), (r, .inr (0, [.ref a, .ref b, .int (nI nq3)])), (a, .inl (cI, 768, .inl fq3)), (b, .inl (cI, 768, .inl gq3))]) [0, 1, 2, 3] (by decide) rfl
          have hFc := va_free (wc := [(x, .inr (1, [.ref r, .ref r2, .ref r3])), (r, .inr (0, [.ref a, .ref b, .int (nI nq3)])), (a, .inl (cI, 768, .inl fq3)), (b, .inl (cI, 768, .inl gq3))]) hD hS hA [0, 1, 2, 3] rfl
          refine va_callv (va_runV (As := [.int (nI 229), .int (nI 8491)]) (rest := []) ⟨hx, hb, hml, hown, hts⟩ (c_foldTwo l dC dI _ x r r2 r3 a b cI nq3 fq3 gq3 _ hQ3 (by omega) 229 8491 (by omega) (by omega)) (cwV 2 hts gX1_foldPairs_X1_foldTwo rfl rfl rfl (by decide +kernel) ⟨Nat.le_of_ble_eq_true rfl, Nat.le_of_ble_eq_true rfl⟩) (cr_preVN hN hPc hK hDc (ci := 1) (q0 := 0) rfl rfl) rfl rfl hl.1 rfl (lv_room (Nat.le_of_ble_eq_true rfl)) dX1_foldPairs_25 ⟨Nat.zero_le _, Nat.zero_le _⟩) hS (fun q _ h => hFc q h) hFc (fun u_25 t_25 H_25 locs ht_25 hvm_25 hw_25 hB_25 hz_25 hk_25 hS => ?_)
          obtain ⟨nq4, fq4, gq4, rfl, hnq4, hSt4⟩ := hw_25
          have hQ4 : cr_Set nq4 fq4 gq4 (fun x => S x ∨ (cr_pk x < 4 ∧ S (cr_pp x))) := hSt4.iff (fun x => cr_Q_step (fun x => Iff.rfl) (by decide) (by decide) (by decide) (by decide) (fun x hx => by have := cr_pk_in x; omega) x)
          obtain ⟨hP, hD⟩ := cr_back (wr := []) (w1 := [(x, .inr (1, [.ref r, .ref r2, .ref r3])), (r, .inr (0, [.ref a, .ref b, .int (nI nq4)])), (a, .inl (cI, 768, .inl fq4)), (b, .inl (cI, 768, .inl gq4))]) hP hD [0, 1, 2, 3] [] rfl rfl (by decide) (by decide) hk_25 hFc hB_25 ht_25
          clear hPc hDc hFc
          generalize H_25 = H at hP hS ⊢
          have hP := hP.sub (ws' := [(x, .inr (1, [.ref r, .ref r2, .ref r3])), (r, .inr (0, [.ref a, .ref b, .int (nI nq4)])), (a, .inl (cI, 768, .inl fq4)), (b, .inl (cI, 768, .inl gq4))]) [0, 1, 2, 3] rfl
          have hD := hD.sub (ws' := [(x, .inr (1, [.ref r, .ref r2, .ref r3])), (r, .inr (0, [.ref a, .ref b, .int (nI nq4)])), (a, .inl (cI, 768, .inl fq4)), (b, .inl (cI, 768, .inl gq4))]) [0, 1, 2, 3] (by decide) rfl
          refine lv_iinc (v := nI 8) (lv' := [(1, .int (nI 8)), (0, .ref x)]) hx hb dX1_foldPairs_28 hl (k := 0) rfl (by decide) (by decide) rfl (fun ls hl => ?_)
          refine lv_goto (tgt := 2) hx hb dX1_foldPairs_31 (by decide) ?_
          refine lv_iload_n hx hb dX1_foldPairs_2 rfl (lv_at hl 0 rfl) ?_
          refine lv_iconst (v := nI 1) hx hb dX1_foldPairs_3 (by decide) ?_
          refine lv_iadd hx hb dX1_foldPairs_4 ?_
          refine cr_top (y := nI 9) (by decide) ?_
          refine va_gets hx hb hT.2.2.1 hS hown (hts (.fieldLink RX1 110 "CharRows" "PAIRS" "[I") (by decide +kernel)) (fun _ h9 => h9) dX1_foldPairs_5 ?_
          refine va_tlen (v := nI 10) hx hb hT.2.2.2 hS rfl dX1_foldPairs_8 ?_
          refine lv_icmp_ge (tgt := 34) hx hb dX1_foldPairs_9 (by decide) (fun c_9 => ?_) (fun c_9 => ?_)
          · exact absurd c_9 (by decide)
          · refine lv_aload_n hx hb dX1_foldPairs_12 rfl (lv_at hl 1 rfl) ?_
            refine va_gets hx hb hT.2.2.1 hS hown (hts (.fieldLink RX1 110 "CharRows" "PAIRS" "[I") (by decide +kernel)) (fun _ h9 => h9) dX1_foldPairs_13 ?_
            refine lv_iload_n hx hb dX1_foldPairs_16 rfl (lv_at hl 0 rfl) ?_
            refine va_ti (v := .int (nI 181)) hx hb hT.2.2.2 hS (vp_in_nI (by omega) (by omega)) (by rw [nI_clamp (by omega)]; rfl) dX1_foldPairs_17 ?_
            refine va_gets hx hb hT.2.2.1 hS hown (hts (.fieldLink RX1 110 "CharRows" "PAIRS" "[I") (by decide +kernel)) (fun _ h9 => h9) dX1_foldPairs_18 ?_
            refine lv_iload_n hx hb dX1_foldPairs_21 rfl (lv_at hl 0 rfl) ?_
            refine lv_iconst (v := nI 1) hx hb dX1_foldPairs_22 (by decide) ?_
            refine lv_iadd hx hb dX1_foldPairs_23 ?_
            refine cr_top (y := nI 9) (by decide) ?_
            refine va_ti (v := .int (nI 956)) hx hb hT.2.2.2 hS (vp_in_nI (by omega) (by omega)) (by rw [nI_clamp (by omega)]; rfl) dX1_foldPairs_24 ?_
            have hct4 := hQ4.count (cr_Bd_Q hB hF 4)
            have hPc := hP.sub (ws' := [(x, .inr (1, [.ref r, .ref r2, .ref r3])), (r, .inr (0, [.ref a, .ref b, .int (nI nq4)])), (a, .inl (cI, 768, .inl fq4)), (b, .inl (cI, 768, .inl gq4))]) [0, 1, 2, 3] rfl
            have hDc := hD.sub (ws' := [(x, .inr (1, [.ref r, .ref r2, .ref r3])), (r, .inr (0, [.ref a, .ref b, .int (nI nq4)])), (a, .inl (cI, 768, .inl fq4)), (b, .inl (cI, 768, .inl gq4))]) [0, 1, 2, 3] (by decide) rfl
            have hFc := va_free (wc := [(x, .inr (1, [.ref r, .ref r2, .ref r3])), (r, .inr (0, [.ref a, .ref b, .int (nI nq4)])), (a, .inl (cI, 768, .inl fq4)), (b, .inl (cI, 768, .inl gq4))]) hD hS hA [0, 1, 2, 3] rfl
            refine va_callv (va_runV (As := [.int (nI 181), .int (nI 956)]) (rest := []) ⟨hx, hb, hml, hown, hts⟩ (c_foldTwo l dC dI _ x r r2 r3 a b cI nq4 fq4 gq4 _ hQ4 (by omega) 181 956 (by omega) (by omega)) (cwV 2 hts gX1_foldPairs_X1_foldTwo rfl rfl rfl (by decide +kernel) ⟨Nat.le_of_ble_eq_true rfl, Nat.le_of_ble_eq_true rfl⟩) (cr_preVN hN hPc hK hDc (ci := 1) (q0 := 0) rfl rfl) rfl rfl hl.1 rfl (lv_room (Nat.le_of_ble_eq_true rfl)) dX1_foldPairs_25 ⟨Nat.zero_le _, Nat.zero_le _⟩) hS (fun q _ h => hFc q h) hFc (fun u_25 t_25 H_25 locs ht_25 hvm_25 hw_25 hB_25 hz_25 hk_25 hS => ?_)
            obtain ⟨nq5, fq5, gq5, rfl, hnq5, hSt5⟩ := hw_25
            have hQ5 : cr_Set nq5 fq5 gq5 (fun x => S x ∨ (cr_pk x < 5 ∧ S (cr_pp x))) := hSt5.iff (fun x => cr_Q_step (fun x => Iff.rfl) (by decide) (by decide) (by decide) (by decide) (fun x hx => by have := cr_pk_in x; omega) x)
            obtain ⟨hP, hD⟩ := cr_back (wr := []) (w1 := [(x, .inr (1, [.ref r, .ref r2, .ref r3])), (r, .inr (0, [.ref a, .ref b, .int (nI nq5)])), (a, .inl (cI, 768, .inl fq5)), (b, .inl (cI, 768, .inl gq5))]) hP hD [0, 1, 2, 3] [] rfl rfl (by decide) (by decide) hk_25 hFc hB_25 ht_25
            clear hPc hDc hFc
            generalize H_25 = H at hP hS ⊢
            have hP := hP.sub (ws' := [(x, .inr (1, [.ref r, .ref r2, .ref r3])), (r, .inr (0, [.ref a, .ref b, .int (nI nq5)])), (a, .inl (cI, 768, .inl fq5)), (b, .inl (cI, 768, .inl gq5))]) [0, 1, 2, 3] rfl
            have hD := hD.sub (ws' := [(x, .inr (1, [.ref r, .ref r2, .ref r3])), (r, .inr (0, [.ref a, .ref b, .int (nI nq5)])), (a, .inl (cI, 768, .inl fq5)), (b, .inl (cI, 768, .inl gq5))]) [0, 1, 2, 3] (by decide) rfl
            refine lv_iinc (v := nI 10) (lv' := [(1, .int (nI 10)), (0, .ref x)]) hx hb dX1_foldPairs_28 hl (k := 0) rfl (by decide) (by decide) rfl (fun ls hl => ?_)
            refine lv_goto (tgt := 2) hx hb dX1_foldPairs_31 (by decide) ?_
            refine lv_iload_n hx hb dX1_foldPairs_2 rfl (lv_at hl 0 rfl) ?_
            refine lv_iconst (v := nI 1) hx hb dX1_foldPairs_3 (by decide) ?_
            refine lv_iadd hx hb dX1_foldPairs_4 ?_
            refine cr_top (y := nI 11) (by decide) ?_
            refine va_gets hx hb hT.2.2.1 hS hown (hts (.fieldLink RX1 110 "CharRows" "PAIRS" "[I") (by decide +kernel)) (fun _ h9 => h9) dX1_foldPairs_5 ?_
            refine va_tlen (v := nI 10) hx hb hT.2.2.2 hS rfl dX1_foldPairs_8 ?_
            refine lv_icmp_ge (tgt := 34) hx hb dX1_foldPairs_9 (by decide) (fun c_9 => ?_) (fun c_9 => ?_)
            · exact W.vret hx hb hr (fun t9 ht9 hW9 => ⟨⟨[(x, .inr (1, [.ref r, .ref r2, .ref r3])), (r, .inr (0, [.ref a, .ref b, .int (nI nq5)])), (a, .inl (cI, 768, .inl fq5)), (b, .inl (cI, 768, .inl gq5))], rfl, ⟨nq5, fq5, gq5, rfl, by have := hQ5.count (cr_Bd_Q hB hF 5); omega, hQ5.iff (cr_Q_end (fun x => Iff.rfl))⟩, by rw [ht9]; exact hP, va_K.moved hW9.alike hK, hD⟩, hS.F ht9⟩) hS.2.2 dX1_foldPairs_34
            · exact absurd (by decide) c_9

set_option maxHeartbeats 4000000 in
set_option maxRecDepth 100000 in
theorem c_fold (l : Launch) (dC : Nat → ClassId) (dI : Nat → Nat → Nat) (sz : Nat) (tL tP : Nat) (x r r2 r3 a b : Nat) (cI : ClassId) (n : Nat) (f g : Nat → Int32) (S : Nat → Prop) (hSet : cr_Set n f g S) (P : List Nat) (hB : cr_Bd P S) (hF : ∀ c, c ∈ cr_F → c ∈ P) (hPl : P.length ≤ 1400) : Met l yX1_fold wsX1_fold ({ frames := 7, cells := 0, slots := 0, locals := 260 }) (va_Pc [.ref x] (cr_preT tL tP dC dI [(cI, .int)] [(x, .inr (1, [.ref r, .ref r2, .ref r3])), (r, .inr (0, [.ref a, .ref b, .int (nI n)])), (a, .inl (cI, 768, .inl f)), (b, .inl (cI, 768, .inl g))] sz)) (va_Qi (fun (rr : Int32) (u : va_W) => ∃ (n' : Nat) (f' g' : Nat → Int32), rr = nI n' ∧ u = [(x, .inr (1, [.ref r, .ref r2, .ref r3])), (r, .inr (0, [.ref a, .ref b, .int (nI n')])), (a, .inl (cI, 768, .inl f')), (b, .inl (cI, 768, .inl g'))] ∧ n' ≤ 768 ∧ cr_Set n' f' g' (cr_fold S)) (cr_at dC dI [(cI, .int)] (va_A [(x, .inr (1, [.ref r, .ref r2, .ref r3])), (r, .inr (0, [.ref a, .ref b, .int (nI n)])), (a, .inl (cI, 768, .inl f)), (b, .inl (cI, 768, .inl g))] sz)) (va_A [(x, .inr (1, [.ref r, .ref r2, .ref r3])), (r, .inr (0, [.ref a, .ref b, .int (nI n)])), (a, .inl (cI, 768, .inl f)), (b, .inl (cI, 768, .inl g))] sz)) 0 0 (va_A [(x, .inr (1, [.ref r, .ref r2, .ref r3])), (r, .inr (0, [.ref a, .ref b, .int (nI n)])), (a, .inl (cI, 768, .inl f)), (b, .inl (cI, 768, .inl g))] sz) := by
  refine Met.ofW (cc := cX1_fold) (maxL := 1) (ret := (some .int)) (by decide) rfl ?_
  intro p e s m args below meth c s₁ B hml hv
  obtain ⟨rfl, ⟨⟨hsz, hP, hK, hD0⟩, hN⟩, hT⟩ := hv
  have hx := B.exec
  have hb := B.bytes
  have hr := B.returns
  have hts := atoms_spec (ws := wsX1_fold) B.pre
  have hown : s.vm.findClass RX1 = some m.cls := findClass_of_methodNamed B.named
  have hlocks := B.notSynchronized
  subst hsz
  have hD := hD0.self (sz := s.heap.size)
  generalize hAe : va_A [(x, .inr (1, [.ref r, .ref r2, .ref r3])), (r, .inr (0, [.ref a, .ref b, .int (nI n)])), (a, .inl (cI, 768, .inl f)), (b, .inl (cI, 768, .inl g))] s.heap.size = A at hD hT ⊢
  have hA : ∀ q : Nat, s.heap.size ≤ q → A q := fun q h => by rw [← hAe]; exact Or.inr h
  have hS : va_S A s.heap s.heap [] := va_S.rf
  have hP : va_P (dC, dI) crCl [(x, .inr (1, [.ref r, .ref r2, .ref r3])), (r, .inr (0, [.ref a, .ref b, .int (nI n)])), (a, .inl (cI, 768, .inl f)), (b, .inl (cI, 768, .inl g))] s.heap := hP
  have hl := lv_entry ([.ref x]) (n := 1) (Nat.le_of_ble_eq_true rfl)
  rw [lg_entry_eq]
  generalize (lg_sl ([.ref x]) ++ List.replicate (1 - (lg_sl ([.ref x])).length) Slot.unset).toArray = ls at hl ⊢
  have hl : lv_has ls 1 [(0, .ref x)] := hl
  refine lv_aload_n hx hb dX1_fold_0 rfl (lv_at hl 0 rfl) ?_
  have hPc := hP.sub (ws' := [(x, .inr (1, [.ref r, .ref r2, .ref r3])), (r, .inr (0, [.ref a, .ref b, .int (nI n)])), (a, .inl (cI, 768, .inl f)), (b, .inl (cI, 768, .inl g))]) [0, 1, 2, 3] rfl
  have hDc := hD.sub (ws' := [(x, .inr (1, [.ref r, .ref r2, .ref r3])), (r, .inr (0, [.ref a, .ref b, .int (nI n)])), (a, .inl (cI, 768, .inl f)), (b, .inl (cI, 768, .inl g))]) [0, 1, 2, 3] (by decide) rfl
  have hFc := va_free (wc := [(x, .inr (1, [.ref r, .ref r2, .ref r3])), (r, .inr (0, [.ref a, .ref b, .int (nI n)])), (a, .inl (cI, 768, .inl f)), (b, .inl (cI, 768, .inl g))]) hD hS hA [0, 1, 2, 3] rfl
  refine va_callv (va_runV (As := []) (rest := []) ⟨hx, hb, hml, hown, hts⟩ (c_foldLetters l dC dI _ tL tP x r r2 r3 a b cI n f g _ hSet P hB hF hPl) (cwV 0 hts gX1_fold_X1_foldLetters rfl rfl rfl (by decide +kernel) ⟨Nat.le_of_ble_eq_true rfl, Nat.le_of_ble_eq_true rfl⟩) (cr_preVT hT hS hFc hN hPc hK hDc (ci := 1) (q0 := 0) rfl rfl) rfl rfl hl.1 rfl (lv_room (Nat.le_of_ble_eq_true rfl)) dX1_fold_1 ⟨Nat.zero_le _, Nat.zero_le _⟩) hS (fun q _ h => hFc q h) hFc (fun u_1 t_1 H_1 locs ht_1 hvm_1 hw_1 hB_1 hz_1 hk_1 hS => ?_)
  obtain ⟨n1, f1, g1, rfl, hn1, hSet1⟩ := hw_1
  obtain ⟨hP, hD⟩ := cr_back (wr := []) (w1 := [(x, .inr (1, [.ref r, .ref r2, .ref r3])), (r, .inr (0, [.ref a, .ref b, .int (nI n1)])), (a, .inl (cI, 768, .inl f1)), (b, .inl (cI, 768, .inl g1))]) hP hD [0, 1, 2, 3] [] rfl rfl (by decide) (by decide) hk_1 hFc hB_1 ht_1
  clear hPc hDc hFc
  generalize H_1 = H at hP hS ⊢
  have hP := hP.sub (ws' := [(x, .inr (1, [.ref r, .ref r2, .ref r3])), (r, .inr (0, [.ref a, .ref b, .int (nI n1)])), (a, .inl (cI, 768, .inl f1)), (b, .inl (cI, 768, .inl g1))]) [0, 1, 2, 3] rfl
  have hD := hD.sub (ws' := [(x, .inr (1, [.ref r, .ref r2, .ref r3])), (r, .inr (0, [.ref a, .ref b, .int (nI n1)])), (a, .inl (cI, 768, .inl f1)), (b, .inl (cI, 768, .inl g1))]) [0, 1, 2, 3] (by decide) rfl
  refine lv_aload_n hx hb dX1_fold_4 rfl (lv_at hl 0 rfl) ?_
  have hPc := hP.sub (ws' := [(x, .inr (1, [.ref r, .ref r2, .ref r3])), (r, .inr (0, [.ref a, .ref b, .int (nI n1)])), (a, .inl (cI, 768, .inl f1)), (b, .inl (cI, 768, .inl g1))]) [0, 1, 2, 3] rfl
  have hDc := hD.sub (ws' := [(x, .inr (1, [.ref r, .ref r2, .ref r3])), (r, .inr (0, [.ref a, .ref b, .int (nI n1)])), (a, .inl (cI, 768, .inl f1)), (b, .inl (cI, 768, .inl g1))]) [0, 1, 2, 3] (by decide) rfl
  have hFc := va_free (wc := [(x, .inr (1, [.ref r, .ref r2, .ref r3])), (r, .inr (0, [.ref a, .ref b, .int (nI n1)])), (a, .inl (cI, 768, .inl f1)), (b, .inl (cI, 768, .inl g1))]) hD hS hA [0, 1, 2, 3] rfl
  refine va_callv (va_runV (As := []) (rest := []) ⟨hx, hb, hml, hown, hts⟩ (c_foldPairs l dC dI _ tL tP x r r2 r3 a b cI n1 f1 g1 _ hSet1 P (cr_Bd_Lw hB hF) hF hPl) (cwV 0 hts gX1_fold_X1_foldPairs rfl rfl rfl (by decide +kernel) ⟨Nat.le_of_ble_eq_true rfl, Nat.le_of_ble_eq_true rfl⟩) (cr_preVT hT hS hFc hN hPc hK hDc (ci := 1) (q0 := 0) rfl rfl) rfl rfl hl.1 rfl (lv_room (Nat.le_of_ble_eq_true rfl)) dX1_fold_5 ⟨Nat.zero_le _, Nat.zero_le _⟩) hS (fun q _ h => hFc q h) hFc (fun u_5 t_5 H_5 locs ht_5 hvm_5 hw_5 hB_5 hz_5 hk_5 hS => ?_)
  obtain ⟨n2, f2, g2, rfl, hn2, hSet2⟩ := hw_5
  obtain ⟨hP, hD⟩ := cr_back (wr := []) (w1 := [(x, .inr (1, [.ref r, .ref r2, .ref r3])), (r, .inr (0, [.ref a, .ref b, .int (nI n2)])), (a, .inl (cI, 768, .inl f2)), (b, .inl (cI, 768, .inl g2))]) hP hD [0, 1, 2, 3] [] rfl rfl (by decide) (by decide) hk_5 hFc hB_5 ht_5
  clear hPc hDc hFc
  generalize H_5 = H at hP hS ⊢
  have hP := hP.sub (ws' := [(x, .inr (1, [.ref r, .ref r2, .ref r3])), (r, .inr (0, [.ref a, .ref b, .int (nI n2)])), (a, .inl (cI, 768, .inl f2)), (b, .inl (cI, 768, .inl g2))]) [0, 1, 2, 3] rfl
  have hD := hD.sub (ws' := [(x, .inr (1, [.ref r, .ref r2, .ref r3])), (r, .inr (0, [.ref a, .ref b, .int (nI n2)])), (a, .inl (cI, 768, .inl f2)), (b, .inl (cI, 768, .inl g2))]) [0, 1, 2, 3] (by decide) rfl
  refine lv_aload_n hx hb dX1_fold_8 rfl (lv_at hl 0 rfl) ?_
  have hPc := hP.sub (ws' := [(x, .inr (1, [.ref r, .ref r2, .ref r3])), (r, .inr (0, [.ref a, .ref b, .int (nI n2)])), (a, .inl (cI, 768, .inl f2)), (b, .inl (cI, 768, .inl g2))]) [0, 1, 2, 3] rfl
  have hDc := hD.sub (ws' := [(x, .inr (1, [.ref r, .ref r2, .ref r3])), (r, .inr (0, [.ref a, .ref b, .int (nI n2)])), (a, .inl (cI, 768, .inl f2)), (b, .inl (cI, 768, .inl g2))]) [0, 1, 2, 3] (by decide) rfl
  have hFc := va_free (wc := [(x, .inr (1, [.ref r, .ref r2, .ref r3])), (r, .inr (0, [.ref a, .ref b, .int (nI n2)])), (a, .inl (cI, 768, .inl f2)), (b, .inl (cI, 768, .inl g2))]) hD hS hA [0, 1, 2, 3] rfl
  refine va_callv (va_runV (As := []) (rest := []) ⟨hx, hb, hml, hown, hts⟩ (c_foldLetters l dC dI _ tL tP x r r2 r3 a b cI n2 f2 g2 _ hSet2 P (cr_Bd_Qw (cr_Bd_Lw hB hF) hF) hF hPl) (cwV 0 hts gX1_fold_X1_foldLetters rfl rfl rfl (by decide +kernel) ⟨Nat.le_of_ble_eq_true rfl, Nat.le_of_ble_eq_true rfl⟩) (cr_preVT hT hS hFc hN hPc hK hDc (ci := 1) (q0 := 0) rfl rfl) rfl rfl hl.1 rfl (lv_room (Nat.le_of_ble_eq_true rfl)) dX1_fold_9 ⟨Nat.zero_le _, Nat.zero_le _⟩) hS (fun q _ h => hFc q h) hFc (fun u_9 t_9 H_9 locs ht_9 hvm_9 hw_9 hB_9 hz_9 hk_9 hS => ?_)
  obtain ⟨n3, f3, g3, rfl, hn3, hSet3⟩ := hw_9
  obtain ⟨hP, hD⟩ := cr_back (wr := []) (w1 := [(x, .inr (1, [.ref r, .ref r2, .ref r3])), (r, .inr (0, [.ref a, .ref b, .int (nI n3)])), (a, .inl (cI, 768, .inl f3)), (b, .inl (cI, 768, .inl g3))]) hP hD [0, 1, 2, 3] [] rfl rfl (by decide) (by decide) hk_9 hFc hB_9 ht_9
  clear hPc hDc hFc
  generalize H_9 = H at hP hS ⊢
  have hP := hP.sub (ws' := [(x, .inr (1, [.ref r, .ref r2, .ref r3])), (r, .inr (0, [.ref a, .ref b, .int (nI n3)])), (a, .inl (cI, 768, .inl f3)), (b, .inl (cI, 768, .inl g3))]) [0, 1, 2, 3] rfl
  have hD := hD.sub (ws' := [(x, .inr (1, [.ref r, .ref r2, .ref r3])), (r, .inr (0, [.ref a, .ref b, .int (nI n3)])), (a, .inl (cI, 768, .inl f3)), (b, .inl (cI, 768, .inl g3))]) [0, 1, 2, 3] (by decide) rfl
  refine lv_aload_n hx hb dX1_fold_12 rfl (lv_at hl 0 rfl) ?_
  refine va_get (D := (dC, dI)) (ci := 1) (v := .ref r) (C := RX1) (T := TX1) (N := 3) hx hb hts (by decide +kernel) hown hK hP 0 rfl rfl 0 (by decide) (hts (.fieldLink RX1 10 "CharRows" "held" "LCharRows$Ranges;") (by decide +kernel)) (fun _ h9 => h9) rfl dX1_fold_13 ?_
  refine va_getN (D := (dC, dI)) (ci := 0) (v := .int (nI n3)) (C := RX0) (T := TX0) (N := 3) hx hb hts (by decide +kernel) hown hK hP 1 rfl rfl 2 (by decide) (va_Nw.use rfl (hN _ nw_34)) (fun _ h9 => h9) rfl dX1_fold_16 ?_
  exact W.iret (v := nI n3) hx hb hr (fun t9 ht9 hW9 => ⟨⟨nI n3, [(x, .inr (1, [.ref r, .ref r2, .ref r3])), (r, .inr (0, [.ref a, .ref b, .int (nI n3)])), (a, .inl (cI, 768, .inl f3)), (b, .inl (cI, 768, .inl g3))], rfl, ⟨n3, f3, g3, rfl, rfl, hn3, hSet3.iff (fun c => cr_LQL S c)⟩, by rw [ht9]; exact hP, va_K.moved hW9.alike hK, hD⟩, hS.F ht9⟩) hS.2.2 dX1_fold_19

