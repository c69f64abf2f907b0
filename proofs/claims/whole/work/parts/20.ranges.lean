set_option maxHeartbeats 4000000 in
set_option maxRecDepth 100000 in
theorem c_empty (l : Launch) (dC : Nat → ClassId) (dI : Nat → Nat → Nat) (sz : Nat) (r a b : Nat) (cI : ClassId) (n0 : Int32) (f g : Nat → Int32) : Met l yX0_empty wsX0_empty ({ frames := 1, cells := 0, slots := 0, locals := 20 }) (va_Pc [.ref r] (cr_pre dC dI [(cI, .int)] [(r, .inr (0, [.ref a, .ref b, .int n0])), (a, .inl (cI, 768, .inl f)), (b, .inl (cI, 768, .inl g))] sz)) (va_Qv (fun (u : va_W) => u = [(r, .inr (0, [.ref a, .ref b, .int (nI 0)])), (a, .inl (cI, 768, .inl f)), (b, .inl (cI, 768, .inl g))]) (cr_at dC dI [(cI, .int)] (va_A [(r, .inr (0, [.ref a, .ref b, .int n0])), (a, .inl (cI, 768, .inl f)), (b, .inl (cI, 768, .inl g))] sz)) (va_A [(r, .inr (0, [.ref a, .ref b, .int n0])), (a, .inl (cI, 768, .inl f)), (b, .inl (cI, 768, .inl g))] sz)) 0 0 (va_A [(r, .inr (0, [.ref a, .ref b, .int n0])), (a, .inl (cI, 768, .inl f)), (b, .inl (cI, 768, .inl g))] sz) := by
  refine Met.ofW (cc := cX0_empty) (maxL := 1) (ret := none) (by decide) rfl ?_
  intro p e s m args below meth c s₁ B hml hv
  obtain ⟨rfl, hsz, hP, hK, hD0⟩ := hv
  have hx := B.exec
  have hb := B.bytes
  have hr := B.returns
  have hts := atoms_spec (ws := wsX0_empty) B.pre
  have hown : s.vm.findClass RX0 = some m.cls := findClass_of_methodNamed B.named
  have hlocks := B.notSynchronized
  subst hsz
  have hD := hD0.self (sz := s.heap.size)
  generalize hAe : va_A [(r, .inr (0, [.ref a, .ref b, .int n0])), (a, .inl (cI, 768, .inl f)), (b, .inl (cI, 768, .inl g))] s.heap.size = A at hD ⊢
  have hA : ∀ q : Nat, s.heap.size ≤ q → A q := fun q h => by rw [← hAe]; exact Or.inr h
  have hS : va_S A s.heap s.heap [] := va_S.rf
  have hP : va_P (dC, dI) crCl [(r, .inr (0, [.ref a, .ref b, .int n0])), (a, .inl (cI, 768, .inl f)), (b, .inl (cI, 768, .inl g))] s.heap := hP
  have hl := lv_entry ([.ref r]) (n := 1) (Nat.le_of_ble_eq_true rfl)
  rw [lg_entry_eq]
  generalize (lg_sl ([.ref r]) ++ List.replicate (1 - (lg_sl ([.ref r])).length) Slot.unset).toArray = ls at hl ⊢
  have hl : lv_has ls 1 [(0, .ref r)] := hl
  refine lv_aload_n hx hb dX0_empty_0 rfl (lv_at hl 0 rfl) ?_
  refine lv_iconst (v := nI 0) hx hb dX0_empty_1 (by decide) ?_
  refine va_put (D := (dC, dI)) (ci := 0) (v := .int (nI 0)) (ty := .int) (C := RX0) (T := TX0) (N := 3) hx hb hts (by decide +kernel) tyX0 tyX0_ok nmX0 hown hK hP hD hS 0 rfl rfl 2 (by decide) (hts (.fieldLink RX0 16 "CharRows$Ranges" "count" "I") (by decide +kernel)) (fun _ h9 => h9) rfl (by decide +kernel) rfl rfl (Nat.le_of_ble_eq_true rfl) dX0_empty_2 (fun H locs hP hD hS => ?_)
  have hP : va_P (dC, dI) crCl [(r, .inr (0, [.ref a, .ref b, .int (nI 0)])), (a, .inl (cI, 768, .inl f)), (b, .inl (cI, 768, .inl g))] H := hP
  have hD : va_D A [(r, .inr (0, [.ref a, .ref b, .int (nI 0)])), (a, .inl (cI, 768, .inl f)), (b, .inl (cI, 768, .inl g))] := hD
  exact W.vret hx hb hr (fun t9 ht9 hW9 => ⟨⟨[(r, .inr (0, [.ref a, .ref b, .int (nI 0)])), (a, .inl (cI, 768, .inl f)), (b, .inl (cI, 768, .inl g))], rfl, rfl, by rw [ht9]; exact hP, va_K.moved hW9.alike hK, hD⟩, hS.F ht9⟩) hS.2.2 dX0_empty_5

set_option maxHeartbeats 4000000 in
set_option maxRecDepth 100000 in
theorem c_firstEndingFrom (l : Launch) (dC : Nat → ClassId) (dI : Nat → Nat → Nat) (sz : Nat) (r a b : Nat) (cI : ClassId) (n : Nat) (f g : Nat → Int32) (lo hi : Nat → Nat) (hR : cr_Rp n lo hi f g) (hO : cr_Ok n lo hi) (hn : n ≤ 768) (x : Int32) : Met l yX0_firstEndingFrom wsX0_firstEndingFrom ({ frames := 1, cells := 0, slots := 0, locals := 20 }) (va_Pc [.ref r, .int x] (cr_pre dC dI [(cI, .int)] [(r, .inr (0, [.ref a, .ref b, .int (nI n)])), (a, .inl (cI, 768, .inl f)), (b, .inl (cI, 768, .inl g))] sz)) (va_Qi (fun (rr : Int32) (u : va_W) => u = [(r, .inr (0, [.ref a, .ref b, .int (nI n)])), (a, .inl (cI, 768, .inl f)), (b, .inl (cI, 768, .inl g))] ∧ ∃ k : Nat, rr = nI k ∧ k ≤ n ∧ (∀ j, j < k → (hi j : Int) < x.toInt) ∧ (k < n → x.toInt ≤ hi k)) (cr_at dC dI [(cI, .int)] (va_A [(r, .inr (0, [.ref a, .ref b, .int (nI n)])), (a, .inl (cI, 768, .inl f)), (b, .inl (cI, 768, .inl g))] sz)) (va_A [(r, .inr (0, [.ref a, .ref b, .int (nI n)])), (a, .inl (cI, 768, .inl f)), (b, .inl (cI, 768, .inl g))] sz)) 0 0 (va_A [(r, .inr (0, [.ref a, .ref b, .int (nI n)])), (a, .inl (cI, 768, .inl f)), (b, .inl (cI, 768, .inl g))] sz) := by
  refine Met.ofW (cc := cX0_firstEndingFrom) (maxL := 5) (ret := (some .int)) (by decide) rfl ?_
  intro p e s m args below meth c s₁ B hml hv
  obtain ⟨rfl, hsz, hP, hK, hD0⟩ := hv
  have hx := B.exec
  have hb := B.bytes
  have hr := B.returns
  have hts := atoms_spec (ws := wsX0_firstEndingFrom) B.pre
  have hown : s.vm.findClass RX0 = some m.cls := findClass_of_methodNamed B.named
  have hlocks := B.notSynchronized
  subst hsz
  have hD := hD0.self (sz := s.heap.size)
  generalize hAe : va_A [(r, .inr (0, [.ref a, .ref b, .int (nI n)])), (a, .inl (cI, 768, .inl f)), (b, .inl (cI, 768, .inl g))] s.heap.size = A at hD ⊢
  have hA : ∀ q : Nat, s.heap.size ≤ q → A q := fun q h => by rw [← hAe]; exact Or.inr h
  have hS : va_S A s.heap s.heap [] := va_S.rf
  have hP : va_P (dC, dI) crCl [(r, .inr (0, [.ref a, .ref b, .int (nI n)])), (a, .inl (cI, 768, .inl f)), (b, .inl (cI, 768, .inl g))] s.heap := hP
  have hl := lv_entry ([.ref r, .int x]) (n := 5) (Nat.le_of_ble_eq_true rfl)
  rw [lg_entry_eq]
  generalize (lg_sl ([.ref r, .int x]) ++ List.replicate (5 - (lg_sl ([.ref r, .int x])).length) Slot.unset).toArray = ls at hl ⊢
  have hl : lv_has ls 5 [(0, .ref r), (1, .int x)] := hl
  refine lv_iconst (v := nI 0) hx hb dX0_firstEndingFrom_0 (by decide) ?_
  refine lv_istore_n (lv' := [(2, .int (nI 0)), (0, .ref r), (1, .int x)]) hx hb dX0_firstEndingFrom_1 rfl hl (by decide) rfl (fun ls hl => ?_)
  refine lv_aload_n hx hb dX0_firstEndingFrom_2 rfl (lv_at hl 1 rfl) ?_
  refine va_get (D := (dC, dI)) (ci := 0) (v := .int (nI n)) (C := RX0) (T := TX0) (N := 3) hx hb hts (by decide +kernel) hown hK hP 0 rfl rfl 2 (by decide) (hts (.fieldLink RX0 16 "CharRows$Ranges" "count" "I") (by decide +kernel)) (fun _ h9 => h9) rfl dX0_firstEndingFrom_3 ?_
  refine lv_istore_n (lv' := [(3, .int (nI n)), (2, .int (nI 0)), (0, .ref r), (1, .int x)]) hx hb dX0_firstEndingFrom_6 rfl hl (by decide) rfl (fun ls hl => ?_)
  refine cr_lp2 (fun (i : Nat) (j : Nat) => j - i) (fun (i : Nat) (j : Nat) H locs ls => (i ≤ j ∧ j ≤ n ∧ (∀ q, q < i → (hi q : Int) < x.toInt) ∧ (j < n → x.toInt ≤ hi j)) ∧ va_P (dC, dI) crCl [(r, .inr (0, [.ref a, .ref b, .int (nI n)])), (a, .inl (cI, 768, .inl f)), (b, .inl (cI, 768, .inl g))] H ∧ va_D A [(r, .inr (0, [.ref a, .ref b, .int (nI n)])), (a, .inl (cI, 768, .inl f)), (b, .inl (cI, 768, .inl g))] ∧ va_S A s.heap H locs ∧ lv_has ls 5 [(0, .ref r), (1, .int x), (2, .int (nI i)), (3, .int (nI j))]) ?_ 0 n ⟨⟨Nat.zero_le _, Nat.le_refl _, fun q h => absurd h (Nat.not_lt_zero q), fun h => absurd h (Nat.lt_irrefl n)⟩, hP, hD, hS, lv_sub hl [2, 3, 1, 0] rfl⟩
  intro i j H locs ls hI7 ih7
  obtain ⟨⟨h1, h2, h3, h4⟩, hP, hD, hS, hl⟩ := hI7
  refine lv_iload_n hx hb dX0_firstEndingFrom_7 rfl (lv_at hl 2 rfl) ?_
  refine lv_iload_n hx hb dX0_firstEndingFrom_8 rfl (lv_at hl 3 rfl) ?_
  refine lv_icmp_ge (tgt := 44) hx hb dX0_firstEndingFrom_9 (by decide) (fun c_9 => ?_) (fun c_9 => ?_)
  · rw [nI_leI (by omega) (by omega)] at c_9
    refine lv_iload_n hx hb dX0_firstEndingFrom_44 rfl (lv_at hl 2 rfl) ?_
    exact W.iret (v := nI i) hx hb hr (fun t9 ht9 hW9 => ⟨⟨nI i, [(r, .inr (0, [.ref a, .ref b, .int (nI n)])), (a, .inl (cI, 768, .inl f)), (b, .inl (cI, 768, .inl g))], rfl, ⟨rfl, i, rfl, by omega, h3, fun h => by rw [show i = j from (by omega)]; exact h4 (by omega)⟩, by rw [ht9]; exact hP, va_K.moved hW9.alike hK, hD⟩, hS.F ht9⟩) hS.2.2 dX0_firstEndingFrom_45
  · rw [nI_leI (by omega) (by omega)] at c_9
    refine lv_iload_n hx hb dX0_firstEndingFrom_12 rfl (lv_at hl 2 rfl) ?_
    refine lv_iload_n hx hb dX0_firstEndingFrom_13 rfl (lv_at hl 3 rfl) ?_
    refine lv_iadd hx hb dX0_firstEndingFrom_14 ?_
    refine cr_top (y := nI (i + j)) (nI_add i j) ?_
    refine lv_iconst (v := nI 1) hx hb dX0_firstEndingFrom_15 (by decide) ?_
    refine lv_iushr (v := nI ((i + j) / 2)) hx hb dX0_firstEndingFrom_16 (pk_ushrN (by omega) (nI 1) 1 (by decide)) ?_
    refine lv_istore (lv' := [(4, .int (nI ((i + j) / 2))), (0, .ref r), (1, .int x), (2, .int (nI i)), (3, .int (nI j))]) hx hb dX0_firstEndingFrom_17 hl (by decide) rfl (fun ls hl => ?_)
    refine lv_aload_n hx hb dX0_firstEndingFrom_19 rfl (lv_at hl 1 rfl) ?_
    refine va_get (D := (dC, dI)) (ci := 0) (v := .ref b) (C := RX0) (T := TX0) (N := 3) hx hb hts (by decide +kernel) hown hK hP 0 rfl rfl 1 (by decide) (hts (.fieldLink RX0 13 "CharRows$Ranges" "highs" "[I") (by decide +kernel)) (fun _ h9 => h9) rfl dX0_firstEndingFrom_20 ?_
    refine lv_iload hx hb dX0_firstEndingFrom_23 (lv_at hl 0 rfl) ?_
    refine va_iald hx hb hK hP 2 0 rfl rfl (vp_in_nI (by omega) (by omega)) dX0_firstEndingFrom_25 ?_
    refine cr_top (y := nI (hi ((i + j) / 2))) (by rw [nI_clamp (by omega)]; exact (hR _ (by omega)).2) ?_
    refine lv_iload_n hx hb dX0_firstEndingFrom_26 rfl (lv_at hl 2 rfl) ?_
    refine lv_icmp_ge (tgt := 38) hx hb dX0_firstEndingFrom_27 (by decide) (fun c_27 => ?_) (fun c_27 => ?_)
    · rw [cr_len' (by have := hO.1 ((i + j) / 2) (by omega); omega)] at c_27
      refine lv_iload hx hb dX0_firstEndingFrom_38 (lv_at hl 0 rfl) ?_
      refine lv_istore_n (lv' := [(3, .int (nI ((i + j) / 2))), (4, .int (nI ((i + j) / 2))), (0, .ref r), (1, .int x), (2, .int (nI i))]) hx hb dX0_firstEndingFrom_40 rfl hl (by decide) rfl (fun ls hl => ?_)
      refine lv_goto (tgt := 7) hx hb dX0_firstEndingFrom_41 (by decide) ?_
      exact ih7 i ((i + j) / 2) _ _ _ ⟨⟨by omega, by omega, h3, fun _ => c_27⟩, hP, hD, hS, lv_sub hl [2, 3, 4, 0] rfl⟩ (by omega)
    · rw [cr_len' (by have := hO.1 ((i + j) / 2) (by omega); omega)] at c_27
      refine lv_iload hx hb dX0_firstEndingFrom_30 (lv_at hl 0 rfl) ?_
      refine lv_iconst (v := nI 1) hx hb dX0_firstEndingFrom_32 (by decide) ?_
      refine lv_iadd hx hb dX0_firstEndingFrom_33 ?_
      refine cr_top (y := nI (((i + j) / 2) + 1)) (nI_add ((i + j) / 2) 1) ?_
      refine lv_istore_n (lv' := [(2, .int (nI (((i + j) / 2) + 1))), (4, .int (nI ((i + j) / 2))), (0, .ref r), (1, .int x), (3, .int (nI j))]) hx hb dX0_firstEndingFrom_34 rfl hl (by decide) rfl (fun ls hl => ?_)
      refine lv_goto (tgt := 41) hx hb dX0_firstEndingFrom_35 (by decide) ?_
      refine lv_goto (tgt := 7) hx hb dX0_firstEndingFrom_41 (by decide) ?_
      exact ih7 (((i + j) / 2) + 1) j _ _ _ ⟨⟨by omega, by omega, fun q hq => (by have := (hO.mono (show q ≤ (i + j) / 2 from (by omega)) (by omega)).1; omega), h4⟩, hP, hD, hS, lv_sub hl [2, 3, 0, 4] rfl⟩ (by omega)

set_option maxHeartbeats 4000000 in
set_option maxRecDepth 100000 in
theorem c_shift (l : Launch) (dC : Nat → ClassId) (dI : Nat → Nat → Nat) (sz : Nat) (r a b : Nat) (cI : ClassId) (n : Nat) (f g : Nat → Int32) (k t : Nat) (hn : n ≤ 768) (hk : k ≤ n) (ht0 : t ≤ 768) (ht1 : t + (n - k) ≤ 768) : Met l yX0_shift wsX0_shift ({ frames := 2, cells := 0, slots := 0, locals := 60 }) (va_Pc [.ref r, .int (nI k), .int (nI t)] (cr_pre dC dI [(cI, .int)] [(r, .inr (0, [.ref a, .ref b, .int (nI n)])), (a, .inl (cI, 768, .inl f)), (b, .inl (cI, 768, .inl g))] sz)) (va_Qv (fun (u : va_W) => u = [(r, .inr (0, [.ref a, .ref b, .int (nI (t + (n - k)))])), (a, .inl (cI, 768, .inl (va_cpy f f k t (n - k)))), (b, .inl (cI, 768, .inl (va_cpy g g k t (n - k))))]) (cr_at dC dI [(cI, .int)] (va_A [(r, .inr (0, [.ref a, .ref b, .int (nI n)])), (a, .inl (cI, 768, .inl f)), (b, .inl (cI, 768, .inl g))] sz)) (va_A [(r, .inr (0, [.ref a, .ref b, .int (nI n)])), (a, .inl (cI, 768, .inl f)), (b, .inl (cI, 768, .inl g))] sz)) 0 0 (va_A [(r, .inr (0, [.ref a, .ref b, .int (nI n)])), (a, .inl (cI, 768, .inl f)), (b, .inl (cI, 768, .inl g))] sz) := by
  refine Met.ofW (cc := cX0_shift) (maxL := 3) (ret := none) (by decide) rfl ?_
  intro p e s m args below meth c s₁ B hml hv
  obtain ⟨rfl, hsz, hP, hK, hD0⟩ := hv
  have hx := B.exec
  have hb := B.bytes
  have hr := B.returns
  have hts := atoms_spec (ws := wsX0_shift) B.pre
  have hown : s.vm.findClass RX0 = some m.cls := findClass_of_methodNamed B.named
  have hlocks := B.notSynchronized
  subst hsz
  have hD := hD0.self (sz := s.heap.size)
  generalize hAe : va_A [(r, .inr (0, [.ref a, .ref b, .int (nI n)])), (a, .inl (cI, 768, .inl f)), (b, .inl (cI, 768, .inl g))] s.heap.size = A at hD ⊢
  have hA : ∀ q : Nat, s.heap.size ≤ q → A q := fun q h => by rw [← hAe]; exact Or.inr h
  have hS : va_S A s.heap s.heap [] := va_S.rf
  have hP : va_P (dC, dI) crCl [(r, .inr (0, [.ref a, .ref b, .int (nI n)])), (a, .inl (cI, 768, .inl f)), (b, .inl (cI, 768, .inl g))] s.heap := hP
  have hl := lv_entry ([.ref r, .int (nI k), .int (nI t)]) (n := 3) (Nat.le_of_ble_eq_true rfl)
  rw [lg_entry_eq]
  generalize (lg_sl ([.ref r, .int (nI k), .int (nI t)]) ++ List.replicate (3 - (lg_sl ([.ref r, .int (nI k), .int (nI t)])).length) Slot.unset).toArray = ls at hl ⊢
  have hl : lv_has ls 3 [(0, .ref r), (1, .int (nI k)), (2, .int (nI t))] := hl
  refine lv_aload_n hx hb dX0_shift_0 rfl (lv_at hl 0 rfl) ?_
  refine va_get (D := (dC, dI)) (ci := 0) (v := .ref a) (C := RX0) (T := TX0) (N := 3) hx hb hts (by decide +kernel) hown hK hP 0 rfl rfl 0 (by decide) (hts (.fieldLink RX0 9 "CharRows$Ranges" "lows" "[I") (by decide +kernel)) (fun _ h9 => h9) rfl dX0_shift_1 ?_
  refine lv_iload_n hx hb dX0_shift_4 rfl (lv_at hl 1 rfl) ?_
  refine lv_aload_n hx hb dX0_shift_5 rfl (lv_at hl 0 rfl) ?_
  refine va_get (D := (dC, dI)) (ci := 0) (v := .ref a) (C := RX0) (T := TX0) (N := 3) hx hb hts (by decide +kernel) hown hK hP 0 rfl rfl 0 (by decide) (hts (.fieldLink RX0 9 "CharRows$Ranges" "lows" "[I") (by decide +kernel)) (fun _ h9 => h9) rfl dX0_shift_6 ?_
  refine lv_iload_n hx hb dX0_shift_9 rfl (lv_at hl 2 rfl) ?_
  refine lv_aload_n hx hb dX0_shift_10 rfl (lv_at hl 0 rfl) ?_
  refine va_get (D := (dC, dI)) (ci := 0) (v := .int (nI n)) (C := RX0) (T := TX0) (N := 3) hx hb hts (by decide +kernel) hown hK hP 0 rfl rfl 2 (by decide) (hts (.fieldLink RX0 16 "CharRows$Ranges" "count" "I") (by decide +kernel)) (fun _ h9 => h9) rfl dX0_shift_11 ?_
  refine lv_iload_n hx hb dX0_shift_14 rfl (lv_at hl 1 rfl) ?_
  refine lv_isub hx hb dX0_shift_15 ?_
  refine cr_top (y := nI (n - k)) (pk_sub (by omega)) ?_
  refine va_copyi hx hb (hml.trans hl.1.symm) hown (hts (.methodLink RX0 20 arraycopyName) (by decide +kernel)) (hts (.native arraycopyName) (by decide +kernel)) (hts (.static arraycopyName) (by decide +kernel)) (hts (.initialized "java/lang/System") (by decide +kernel)) hK hP hD hS 1 1 0 0 rfl rfl rfl rfl rfl (nI_pos (by omega)) (nI_pos (by omega)) (nI_pos (by omega)) (by rw [nI_clamp (by omega), nI_clamp (by omega)]; omega) (by rw [nI_clamp (by omega), nI_clamp (by omega)]; omega) (fun _ _ => rfl) (Nat.le_of_ble_eq_true rfl) (by decide +kernel) dX0_shift_16 (fun H locs hP hD hS => ?_)
  rw [nI_clamp (show k < 2 ^ 31 by omega), nI_clamp (show t < 2 ^ 31 by omega), nI_clamp (show (n - k) < 2 ^ 31 by omega)] at hP hD
  have hP : va_P (dC, dI) crCl [(r, .inr (0, [.ref a, .ref b, .int (nI n)])), (a, .inl (cI, 768, .inl (va_cpy f f k t (n - k)))), (b, .inl (cI, 768, .inl g))] H := hP
  have hD : va_D A [(r, .inr (0, [.ref a, .ref b, .int (nI n)])), (a, .inl (cI, 768, .inl (va_cpy f f k t (n - k)))), (b, .inl (cI, 768, .inl g))] := hD
  refine lv_aload_n hx hb dX0_shift_19 rfl (lv_at hl 0 rfl) ?_
  refine va_get (D := (dC, dI)) (ci := 0) (v := .ref b) (C := RX0) (T := TX0) (N := 3) hx hb hts (by decide +kernel) hown hK hP 0 rfl rfl 1 (by decide) (hts (.fieldLink RX0 13 "CharRows$Ranges" "highs" "[I") (by decide +kernel)) (fun _ h9 => h9) rfl dX0_shift_20 ?_
  refine lv_iload_n hx hb dX0_shift_23 rfl (lv_at hl 1 rfl) ?_
  refine lv_aload_n hx hb dX0_shift_24 rfl (lv_at hl 0 rfl) ?_
  refine va_get (D := (dC, dI)) (ci := 0) (v := .ref b) (C := RX0) (T := TX0) (N := 3) hx hb hts (by decide +kernel) hown hK hP 0 rfl rfl 1 (by decide) (hts (.fieldLink RX0 13 "CharRows$Ranges" "highs" "[I") (by decide +kernel)) (fun _ h9 => h9) rfl dX0_shift_25 ?_
  refine lv_iload_n hx hb dX0_shift_28 rfl (lv_at hl 2 rfl) ?_
  refine lv_aload_n hx hb dX0_shift_29 rfl (lv_at hl 0 rfl) ?_
  refine va_get (D := (dC, dI)) (ci := 0) (v := .int (nI n)) (C := RX0) (T := TX0) (N := 3) hx hb hts (by decide +kernel) hown hK hP 0 rfl rfl 2 (by decide) (hts (.fieldLink RX0 16 "CharRows$Ranges" "count" "I") (by decide +kernel)) (fun _ h9 => h9) rfl dX0_shift_30 ?_
  refine lv_iload_n hx hb dX0_shift_33 rfl (lv_at hl 1 rfl) ?_
  refine lv_isub hx hb dX0_shift_34 ?_
  refine cr_top (y := nI (n - k)) (pk_sub (by omega)) ?_
  refine va_copyi hx hb (hml.trans hl.1.symm) hown (hts (.methodLink RX0 20 arraycopyName) (by decide +kernel)) (hts (.native arraycopyName) (by decide +kernel)) (hts (.static arraycopyName) (by decide +kernel)) (hts (.initialized "java/lang/System") (by decide +kernel)) hK hP hD hS 2 2 0 0 rfl rfl rfl rfl rfl (nI_pos (by omega)) (nI_pos (by omega)) (nI_pos (by omega)) (by rw [nI_clamp (by omega), nI_clamp (by omega)]; omega) (by rw [nI_clamp (by omega), nI_clamp (by omega)]; omega) (fun _ _ => rfl) (Nat.le_of_ble_eq_true rfl) (by decide +kernel) dX0_shift_35 (fun H locs hP hD hS => ?_)
  rw [nI_clamp (show k < 2 ^ 31 by omega), nI_clamp (show t < 2 ^ 31 by omega), nI_clamp (show (n - k) < 2 ^ 31 by omega)] at hP hD
  have hP : va_P (dC, dI) crCl [(r, .inr (0, [.ref a, .ref b, .int (nI n)])), (a, .inl (cI, 768, .inl (va_cpy f f k t (n - k)))), (b, .inl (cI, 768, .inl (va_cpy g g k t (n - k))))] H := hP
  have hD : va_D A [(r, .inr (0, [.ref a, .ref b, .int (nI n)])), (a, .inl (cI, 768, .inl (va_cpy f f k t (n - k)))), (b, .inl (cI, 768, .inl (va_cpy g g k t (n - k))))] := hD
  refine lv_aload_n hx hb dX0_shift_38 rfl (lv_at hl 0 rfl) ?_
  refine lv_dup hx hb dX0_shift_39 rfl ?_
  refine va_get (D := (dC, dI)) (ci := 0) (v := .int (nI n)) (C := RX0) (T := TX0) (N := 3) hx hb hts (by decide +kernel) hown hK hP 0 rfl rfl 2 (by decide) (hts (.fieldLink RX0 16 "CharRows$Ranges" "count" "I") (by decide +kernel)) (fun _ h9 => h9) rfl dX0_shift_40 ?_
  refine lv_iload_n hx hb dX0_shift_43 rfl (lv_at hl 2 rfl) ?_
  refine lv_iload_n hx hb dX0_shift_44 rfl (lv_at hl 1 rfl) ?_
  refine lv_isub hx hb dX0_shift_45 ?_
  refine lv_iadd hx hb dX0_shift_46 ?_
  refine cr_top (y := nI (t + (n - k))) (cr_move hk) ?_
  refine va_put (D := (dC, dI)) (ci := 0) (v := .int (nI (t + (n - k)))) (ty := .int) (C := RX0) (T := TX0) (N := 3) hx hb hts (by decide +kernel) tyX0 tyX0_ok nmX0 hown hK hP hD hS 0 rfl rfl 2 (by decide) (hts (.fieldLink RX0 16 "CharRows$Ranges" "count" "I") (by decide +kernel)) (fun _ h9 => h9) rfl (by decide +kernel) rfl rfl (Nat.le_of_ble_eq_true rfl) dX0_shift_47 (fun H locs hP hD hS => ?_)
  have hP : va_P (dC, dI) crCl [(r, .inr (0, [.ref a, .ref b, .int (nI (t + (n - k)))])), (a, .inl (cI, 768, .inl (va_cpy f f k t (n - k)))), (b, .inl (cI, 768, .inl (va_cpy g g k t (n - k))))] H := hP
  have hD : va_D A [(r, .inr (0, [.ref a, .ref b, .int (nI (t + (n - k)))])), (a, .inl (cI, 768, .inl (va_cpy f f k t (n - k)))), (b, .inl (cI, 768, .inl (va_cpy g g k t (n - k))))] := hD
  exact W.vret hx hb hr (fun t9 ht9 hW9 => ⟨⟨[(r, .inr (0, [.ref a, .ref b, .int (nI (t + (n - k)))])), (a, .inl (cI, 768, .inl (va_cpy f f k t (n - k)))), (b, .inl (cI, 768, .inl (va_cpy g g k t (n - k))))], rfl, rfl, by rw [ht9]; exact hP, va_K.moved hW9.alike hK, hD⟩, hS.F ht9⟩) hS.2.2 dX0_shift_50

set_option maxHeartbeats 4000000 in
set_option maxRecDepth 100000 in
theorem c_insert (l : Launch) (dC : Nat → ClassId) (dI : Nat → Nat → Nat) (sz : Nat) (r a b : Nat) (cI : ClassId) (n : Nat) (f g : Nat → Int32) (k : Nat) (x y : Int32) (hn : n < 768) (hk : k ≤ n) : Met l yX0_insert wsX0_insert ({ frames := 3, cells := 0, slots := 0, locals := 100 }) (va_Pc [.ref r, .int (nI k), .int x, .int y] (cr_pre dC dI [(cI, .int)] [(r, .inr (0, [.ref a, .ref b, .int (nI n)])), (a, .inl (cI, 768, .inl f)), (b, .inl (cI, 768, .inl g))] sz)) (va_Qv (fun (u : va_W) => u = [(r, .inr (0, [.ref a, .ref b, .int (nI (n + 1))])), (a, .inl (cI, 768, .inl (upd (va_cpy f f k (k + 1) (n - k)) k x))), (b, .inl (cI, 768, .inl (upd (va_cpy g g k (k + 1) (n - k)) k y)))]) (cr_at dC dI [(cI, .int)] (va_A [(r, .inr (0, [.ref a, .ref b, .int (nI n)])), (a, .inl (cI, 768, .inl f)), (b, .inl (cI, 768, .inl g))] sz)) (va_A [(r, .inr (0, [.ref a, .ref b, .int (nI n)])), (a, .inl (cI, 768, .inl f)), (b, .inl (cI, 768, .inl g))] sz)) 0 0 (va_A [(r, .inr (0, [.ref a, .ref b, .int (nI n)])), (a, .inl (cI, 768, .inl f)), (b, .inl (cI, 768, .inl g))] sz) := by
  refine Met.ofW (cc := cX0_insert) (maxL := 4) (ret := none) (by decide) rfl ?_
  intro p e s m args below meth c s₁ B hml hv
  obtain ⟨rfl, hsz, hP, hK, hD0⟩ := hv
  have hx := B.exec
  have hb := B.bytes
  have hr := B.returns
  have hts := atoms_spec (ws := wsX0_insert) B.pre
  have hown : s.vm.findClass RX0 = some m.cls := findClass_of_methodNamed B.named
  have hlocks := B.notSynchronized
  subst hsz
  have hD := hD0.self (sz := s.heap.size)
  generalize hAe : va_A [(r, .inr (0, [.ref a, .ref b, .int (nI n)])), (a, .inl (cI, 768, .inl f)), (b, .inl (cI, 768, .inl g))] s.heap.size = A at hD ⊢
  have hA : ∀ q : Nat, s.heap.size ≤ q → A q := fun q h => by rw [← hAe]; exact Or.inr h
  have hS : va_S A s.heap s.heap [] := va_S.rf
  have hP : va_P (dC, dI) crCl [(r, .inr (0, [.ref a, .ref b, .int (nI n)])), (a, .inl (cI, 768, .inl f)), (b, .inl (cI, 768, .inl g))] s.heap := hP
  have hl := lv_entry ([.ref r, .int (nI k), .int x, .int y]) (n := 4) (Nat.le_of_ble_eq_true rfl)
  rw [lg_entry_eq]
  generalize (lg_sl ([.ref r, .int (nI k), .int x, .int y]) ++ List.replicate (4 - (lg_sl ([.ref r, .int (nI k), .int x, .int y])).length) Slot.unset).toArray = ls at hl ⊢
  have hl : lv_has ls 4 [(0, .ref r), (1, .int (nI k)), (2, .int x), (3, .int y)] := hl
  refine lv_aload_n hx hb dX0_insert_0 rfl (lv_at hl 0 rfl) ?_
  refine va_get (D := (dC, dI)) (ci := 0) (v := .int (nI n)) (C := RX0) (T := TX0) (N := 3) hx hb hts (by decide +kernel) hown hK hP 0 rfl rfl 2 (by decide) (hts (.fieldLink RX0 16 "CharRows$Ranges" "count" "I") (by decide +kernel)) (fun _ h9 => h9) rfl dX0_insert_1 ?_
  refine lv_sipush (v := nI 768) hx hb dX0_insert_4 (by decide) ?_
  refine lv_icmp_lt (tgt := 11) hx hb dX0_insert_7 (by decide) (fun c_7 => ?_) (fun c_7 => ?_)
  · refine lv_aload_n hx hb dX0_insert_11 rfl (lv_at hl 0 rfl) ?_
    refine lv_iload_n hx hb dX0_insert_12 rfl (lv_at hl 1 rfl) ?_
    refine lv_iload_n hx hb dX0_insert_13 rfl (lv_at hl 1 rfl) ?_
    refine lv_iconst (v := nI 1) hx hb dX0_insert_14 (by decide) ?_
    refine lv_iadd hx hb dX0_insert_15 ?_
    refine cr_top (y := nI (k + 1)) (nI_add k 1) ?_
    have hPc := hP.sub (ws' := [(r, .inr (0, [.ref a, .ref b, .int (nI n)])), (a, .inl (cI, 768, .inl f)), (b, .inl (cI, 768, .inl g))]) [0, 1, 2] rfl
    have hDc := hD.sub (ws' := [(r, .inr (0, [.ref a, .ref b, .int (nI n)])), (a, .inl (cI, 768, .inl f)), (b, .inl (cI, 768, .inl g))]) [0, 1, 2] (by decide) rfl
    have hFc := va_free (wc := [(r, .inr (0, [.ref a, .ref b, .int (nI n)])), (a, .inl (cI, 768, .inl f)), (b, .inl (cI, 768, .inl g))]) hD hS hA [0, 1, 2] rfl
    refine va_callv (va_runV (As := [.int (nI k), .int (nI (k + 1))]) (rest := []) ⟨hx, hb, hml, hown, hts⟩ (c_shift l dC dI _ r a b cI n f g k (k + 1) (by omega) hk (by omega) (by omega)) (cwV 2 hts gX0_insert_X0_shift rfl rfl rfl (by decide +kernel) ⟨Nat.le_of_ble_eq_true rfl, Nat.le_of_ble_eq_true rfl⟩) (cr_preV hPc hK hDc (ci := 0) (q0 := 0) rfl rfl) rfl rfl hl.1 rfl (lv_room (Nat.le_of_ble_eq_true rfl)) dX0_insert_16 ⟨Nat.zero_le _, Nat.zero_le _⟩) hS (fun q _ h => hFc q h) hFc (fun u_16 t_16 H_16 locs ht_16 hvm_16 hw_16 hB_16 hz_16 hk_16 hS => ?_)
    subst hw_16
    obtain ⟨hP, hD⟩ := cr_back (wr := []) (w1 := [(r, .inr (0, [.ref a, .ref b, .int (nI (k + 1 + (n - k)))])), (a, .inl (cI, 768, .inl (va_cpy f f k (k + 1) (n - k)))), (b, .inl (cI, 768, .inl (va_cpy g g k (k + 1) (n - k))))]) hP hD [0, 1, 2] [] rfl rfl (by decide) (by decide) hk_16 hFc hB_16 ht_16
    clear hPc hDc hFc
    generalize H_16 = H at hP hS ⊢
    have hP := hP.sub (ws' := [(r, .inr (0, [.ref a, .ref b, .int (nI (k + 1 + (n - k)))])), (a, .inl (cI, 768, .inl (va_cpy f f k (k + 1) (n - k)))), (b, .inl (cI, 768, .inl (va_cpy g g k (k + 1) (n - k))))]) [0, 1, 2] rfl
    have hD := hD.sub (ws' := [(r, .inr (0, [.ref a, .ref b, .int (nI (k + 1 + (n - k)))])), (a, .inl (cI, 768, .inl (va_cpy f f k (k + 1) (n - k)))), (b, .inl (cI, 768, .inl (va_cpy g g k (k + 1) (n - k))))]) [0, 1, 2] (by decide) rfl
    rw [show k + 1 + (n - k) = n + 1 by omega] at hP hD
    refine lv_aload_n hx hb dX0_insert_19 rfl (lv_at hl 0 rfl) ?_
    refine va_get (D := (dC, dI)) (ci := 0) (v := .ref a) (C := RX0) (T := TX0) (N := 3) hx hb hts (by decide +kernel) hown hK hP 0 rfl rfl 0 (by decide) (hts (.fieldLink RX0 9 "CharRows$Ranges" "lows" "[I") (by decide +kernel)) (fun _ h9 => h9) rfl dX0_insert_20 ?_
    refine lv_iload_n hx hb dX0_insert_23 rfl (lv_at hl 1 rfl) ?_
    refine lv_iload_n hx hb dX0_insert_24 rfl (lv_at hl 2 rfl) ?_
    refine va_iast hx hb hK hP hD hS 1 0 rfl rfl (vp_in_nI (by omega) (by omega)) dX0_insert_25 (fun H locs hP hD hS => ?_)
    have hP : va_P (dC, dI) crCl [(r, .inr (0, [.ref a, .ref b, .int (nI (n + 1))])), (a, .inl (cI, 768, .inl (upd (va_cpy f f k (k + 1) (n - k)) (nI k).toNatClampNeg x))), (b, .inl (cI, 768, .inl (va_cpy g g k (k + 1) (n - k))))] H := hP
    have hD : va_D A [(r, .inr (0, [.ref a, .ref b, .int (nI (n + 1))])), (a, .inl (cI, 768, .inl (upd (va_cpy f f k (k + 1) (n - k)) (nI k).toNatClampNeg x))), (b, .inl (cI, 768, .inl (va_cpy g g k (k + 1) (n - k))))] := hD
    rw [nI_clamp (show k < 2 ^ 31 by omega)] at hP hD
    refine lv_aload_n hx hb dX0_insert_26 rfl (lv_at hl 0 rfl) ?_
    refine va_get (D := (dC, dI)) (ci := 0) (v := .ref b) (C := RX0) (T := TX0) (N := 3) hx hb hts (by decide +kernel) hown hK hP 0 rfl rfl 1 (by decide) (hts (.fieldLink RX0 13 "CharRows$Ranges" "highs" "[I") (by decide +kernel)) (fun _ h9 => h9) rfl dX0_insert_27 ?_
    refine lv_iload_n hx hb dX0_insert_30 rfl (lv_at hl 1 rfl) ?_
    refine lv_iload_n hx hb dX0_insert_31 rfl (lv_at hl 3 rfl) ?_
    refine va_iast hx hb hK hP hD hS 2 0 rfl rfl (vp_in_nI (by omega) (by omega)) dX0_insert_32 (fun H locs hP hD hS => ?_)
    have hP : va_P (dC, dI) crCl [(r, .inr (0, [.ref a, .ref b, .int (nI (n + 1))])), (a, .inl (cI, 768, .inl (upd (va_cpy f f k (k + 1) (n - k)) k x))), (b, .inl (cI, 768, .inl (upd (va_cpy g g k (k + 1) (n - k)) (nI k).toNatClampNeg y)))] H := hP
    have hD : va_D A [(r, .inr (0, [.ref a, .ref b, .int (nI (n + 1))])), (a, .inl (cI, 768, .inl (upd (va_cpy f f k (k + 1) (n - k)) k x))), (b, .inl (cI, 768, .inl (upd (va_cpy g g k (k + 1) (n - k)) (nI k).toNatClampNeg y)))] := hD
    rw [nI_clamp (show k < 2 ^ 31 by omega)] at hP hD
    exact W.vret hx hb hr (fun t9 ht9 hW9 => ⟨⟨[(r, .inr (0, [.ref a, .ref b, .int (nI (n + 1))])), (a, .inl (cI, 768, .inl (upd (va_cpy f f k (k + 1) (n - k)) k x))), (b, .inl (cI, 768, .inl (upd (va_cpy g g k (k + 1) (n - k)) k y)))], rfl, rfl, by rw [ht9]; exact hP, va_K.moved hW9.alike hK, hD⟩, hS.F ht9⟩) hS.2.2 dX0_insert_33
  · exact absurd ((nI_ltI (by omega) (by omega)).2 hn) c_7

set_option maxHeartbeats 4000000 in
set_option maxRecDepth 100000 in
theorem c_unite (l : Launch) (dC : Nat → ClassId) (dI : Nat → Nat → Nat) (sz : Nat) (r a b : Nat) (cI : ClassId) (n : Nat) (f g : Nat → Int32) (lo hi : Nat → Nat) (hR : cr_Rp n lo hi f g) (hO : cr_Ok n lo hi) (hn : n ≤ 768) (k q x y : Nat) (hk : k < q) (hq : q ≤ n) (hx0 : x < 2 ^ 31) (hy0 : y < 2 ^ 31) : Met l yX0_unite wsX0_unite ({ frames := 3, cells := 0, slots := 0, locals := 100 }) (va_Pc [.ref r, .int (nI k), .int (nI q), .int (nI x), .int (nI y)] (cr_pre dC dI [(cI, .int)] [(r, .inr (0, [.ref a, .ref b, .int (nI n)])), (a, .inl (cI, 768, .inl f)), (b, .inl (cI, 768, .inl g))] sz)) (va_Qv (fun (u : va_W) => u = [(r, .inr (0, [.ref a, .ref b, .int (nI (k + 1 + (n - q)))])), (a, .inl (cI, 768, .inl (va_cpy (upd f k (nI (min (lo k) x))) (upd f k (nI (min (lo k) x))) q (k + 1) (n - q)))), (b, .inl (cI, 768, .inl (va_cpy (upd g k (nI (max (hi (q - 1)) y))) (upd g k (nI (max (hi (q - 1)) y))) q (k + 1) (n - q))))]) (cr_at dC dI [(cI, .int)] (va_A [(r, .inr (0, [.ref a, .ref b, .int (nI n)])), (a, .inl (cI, 768, .inl f)), (b, .inl (cI, 768, .inl g))] sz)) (va_A [(r, .inr (0, [.ref a, .ref b, .int (nI n)])), (a, .inl (cI, 768, .inl f)), (b, .inl (cI, 768, .inl g))] sz)) 0 0 (va_A [(r, .inr (0, [.ref a, .ref b, .int (nI n)])), (a, .inl (cI, 768, .inl f)), (b, .inl (cI, 768, .inl g))] sz) := by
  refine Met.ofW (cc := cX0_unite) (maxL := 5) (ret := none) (by decide) rfl ?_
  intro p e s m args below meth c s₁ B hml hv
  obtain ⟨rfl, hsz, hP, hK, hD0⟩ := hv
  have hx := B.exec
  have hb := B.bytes
  have hr := B.returns
  have hts := atoms_spec (ws := wsX0_unite) B.pre
  have hown : s.vm.findClass RX0 = some m.cls := findClass_of_methodNamed B.named
  have hlocks := B.notSynchronized
  subst hsz
  have hD := hD0.self (sz := s.heap.size)
  generalize hAe : va_A [(r, .inr (0, [.ref a, .ref b, .int (nI n)])), (a, .inl (cI, 768, .inl f)), (b, .inl (cI, 768, .inl g))] s.heap.size = A at hD ⊢
  have hA : ∀ q : Nat, s.heap.size ≤ q → A q := fun q h => by rw [← hAe]; exact Or.inr h
  have hS : va_S A s.heap s.heap [] := va_S.rf
  have hP : va_P (dC, dI) crCl [(r, .inr (0, [.ref a, .ref b, .int (nI n)])), (a, .inl (cI, 768, .inl f)), (b, .inl (cI, 768, .inl g))] s.heap := hP
  have hl := lv_entry ([.ref r, .int (nI k), .int (nI q), .int (nI x), .int (nI y)]) (n := 5) (Nat.le_of_ble_eq_true rfl)
  rw [lg_entry_eq]
  generalize (lg_sl ([.ref r, .int (nI k), .int (nI q), .int (nI x), .int (nI y)]) ++ List.replicate (5 - (lg_sl ([.ref r, .int (nI k), .int (nI q), .int (nI x), .int (nI y)])).length) Slot.unset).toArray = ls at hl ⊢
  have hl : lv_has ls 5 [(0, .ref r), (1, .int (nI k)), (2, .int (nI q)), (3, .int (nI x)), (4, .int (nI y))] := hl
  have hlo := hO.1 k (by omega)
  have hhi := hO.1 (q - 1) (by omega)
  refine lv_aload_n hx hb dX0_unite_0 rfl (lv_at hl 0 rfl) ?_
  refine va_get (D := (dC, dI)) (ci := 0) (v := .ref a) (C := RX0) (T := TX0) (N := 3) hx hb hts (by decide +kernel) hown hK hP 0 rfl rfl 0 (by decide) (hts (.fieldLink RX0 9 "CharRows$Ranges" "lows" "[I") (by decide +kernel)) (fun _ h9 => h9) rfl dX0_unite_1 ?_
  refine lv_iload_n hx hb dX0_unite_4 rfl (lv_at hl 1 rfl) ?_
  refine lv_aload_n hx hb dX0_unite_5 rfl (lv_at hl 0 rfl) ?_
  refine va_get (D := (dC, dI)) (ci := 0) (v := .ref a) (C := RX0) (T := TX0) (N := 3) hx hb hts (by decide +kernel) hown hK hP 0 rfl rfl 0 (by decide) (hts (.fieldLink RX0 9 "CharRows$Ranges" "lows" "[I") (by decide +kernel)) (fun _ h9 => h9) rfl dX0_unite_6 ?_
  refine lv_iload_n hx hb dX0_unite_9 rfl (lv_at hl 1 rfl) ?_
  refine va_iald hx hb hK hP 1 0 rfl rfl (vp_in_nI (by omega) (by omega)) dX0_unite_10 ?_
  refine cr_top (y := nI (lo k)) (by rw [nI_clamp (by omega)]; exact (hR _ (by omega)).1) ?_
  refine lv_iload_n hx hb dX0_unite_11 rfl (lv_at hl 3 rfl) ?_
  refine va_mmin hx hb (hml.trans hl.1.symm) hown (hts (.methodLink RX0 42 Lib.Math.min.name) (by decide +kernel)) (hts (.static Lib.Math.min.name) (by decide +kernel)) (hts (.initialized "java/lang/Math") (by decide +kernel)) (hts (.code Lib.Math.min.name Lib.Math.min.code 2 (some .int)) (by decide +kernel)) (Nat.le_of_ble_eq_true rfl) (Nat.le_of_ble_eq_true rfl) (Nat.zero_le _) (Nat.zero_le _) dX0_unite_12 ?_
  refine cr_top (y := nI (min (lo k) x)) (cr_min _ _ (by omega) (by omega)) ?_
  refine va_iast hx hb hK hP hD hS 1 0 rfl rfl (vp_in_nI (by omega) (by omega)) dX0_unite_15 (fun H locs hP hD hS => ?_)
  have hP : va_P (dC, dI) crCl [(r, .inr (0, [.ref a, .ref b, .int (nI n)])), (a, .inl (cI, 768, .inl (upd f (nI k).toNatClampNeg (nI (min (lo k) x))))), (b, .inl (cI, 768, .inl g))] H := hP
  have hD : va_D A [(r, .inr (0, [.ref a, .ref b, .int (nI n)])), (a, .inl (cI, 768, .inl (upd f (nI k).toNatClampNeg (nI (min (lo k) x))))), (b, .inl (cI, 768, .inl g))] := hD
  rw [nI_clamp (show k < 2 ^ 31 by omega)] at hP hD
  refine lv_aload_n hx hb dX0_unite_16 rfl (lv_at hl 0 rfl) ?_
  refine va_get (D := (dC, dI)) (ci := 0) (v := .ref b) (C := RX0) (T := TX0) (N := 3) hx hb hts (by decide +kernel) hown hK hP 0 rfl rfl 1 (by decide) (hts (.fieldLink RX0 13 "CharRows$Ranges" "highs" "[I") (by decide +kernel)) (fun _ h9 => h9) rfl dX0_unite_17 ?_
  refine lv_iload_n hx hb dX0_unite_20 rfl (lv_at hl 1 rfl) ?_
  refine lv_aload_n hx hb dX0_unite_21 rfl (lv_at hl 0 rfl) ?_
  refine va_get (D := (dC, dI)) (ci := 0) (v := .ref b) (C := RX0) (T := TX0) (N := 3) hx hb hts (by decide +kernel) hown hK hP 0 rfl rfl 1 (by decide) (hts (.fieldLink RX0 13 "CharRows$Ranges" "highs" "[I") (by decide +kernel)) (fun _ h9 => h9) rfl dX0_unite_22 ?_
  refine lv_iload_n hx hb dX0_unite_25 rfl (lv_at hl 2 rfl) ?_
  refine lv_iconst (v := nI 1) hx hb dX0_unite_26 (by decide) ?_
  refine lv_isub hx hb dX0_unite_27 ?_
  refine cr_top (y := nI (q - 1)) (pk_sub (by omega)) ?_
  refine va_iald hx hb hK hP 2 0 rfl rfl (vp_in_nI (by omega) (by omega)) dX0_unite_28 ?_
  refine cr_top (y := nI (hi (q - 1))) (by rw [nI_clamp (by omega)]; exact (hR _ (by omega)).2) ?_
  refine lv_iload hx hb dX0_unite_29 (lv_at hl 4 rfl) ?_
  refine va_mmax hx hb (hml.trans hl.1.symm) hown (hts (.methodLink RX0 48 Lib.Math.max.name) (by decide +kernel)) (hts (.static Lib.Math.max.name) (by decide +kernel)) (hts (.initialized "java/lang/Math") (by decide +kernel)) (hts (.code Lib.Math.max.name Lib.Math.max.code 2 (some .int)) (by decide +kernel)) (Nat.le_of_ble_eq_true rfl) (Nat.le_of_ble_eq_true rfl) (Nat.zero_le _) (Nat.zero_le _) dX0_unite_31 ?_
  refine cr_top (y := nI (max (hi (q - 1)) y)) (cr_max _ _ (by omega) (by omega)) ?_
  refine va_iast hx hb hK hP hD hS 2 0 rfl rfl (vp_in_nI (by omega) (by omega)) dX0_unite_34 (fun H locs hP hD hS => ?_)
  have hP : va_P (dC, dI) crCl [(r, .inr (0, [.ref a, .ref b, .int (nI n)])), (a, .inl (cI, 768, .inl (upd f k (nI (min (lo k) x))))), (b, .inl (cI, 768, .inl (upd g (nI k).toNatClampNeg (nI (max (hi (q - 1)) y)))))] H := hP
  have hD : va_D A [(r, .inr (0, [.ref a, .ref b, .int (nI n)])), (a, .inl (cI, 768, .inl (upd f k (nI (min (lo k) x))))), (b, .inl (cI, 768, .inl (upd g (nI k).toNatClampNeg (nI (max (hi (q - 1)) y)))))] := hD
  rw [nI_clamp (show k < 2 ^ 31 by omega)] at hP hD
  refine lv_aload_n hx hb dX0_unite_35 rfl (lv_at hl 0 rfl) ?_
  refine lv_iload_n hx hb dX0_unite_36 rfl (lv_at hl 2 rfl) ?_
  refine lv_iload_n hx hb dX0_unite_37 rfl (lv_at hl 1 rfl) ?_
  refine lv_iconst (v := nI 1) hx hb dX0_unite_38 (by decide) ?_
  refine lv_iadd hx hb dX0_unite_39 ?_
  refine cr_top (y := nI (k + 1)) (nI_add k 1) ?_
  have hPc := hP.sub (ws' := [(r, .inr (0, [.ref a, .ref b, .int (nI n)])), (a, .inl (cI, 768, .inl (upd f k (nI (min (lo k) x))))), (b, .inl (cI, 768, .inl (upd g k (nI (max (hi (q - 1)) y)))))]) [0, 1, 2] rfl
  have hDc := hD.sub (ws' := [(r, .inr (0, [.ref a, .ref b, .int (nI n)])), (a, .inl (cI, 768, .inl (upd f k (nI (min (lo k) x))))), (b, .inl (cI, 768, .inl (upd g k (nI (max (hi (q - 1)) y)))))]) [0, 1, 2] (by decide) rfl
  have hFc := va_free (wc := [(r, .inr (0, [.ref a, .ref b, .int (nI n)])), (a, .inl (cI, 768, .inl (upd f k (nI (min (lo k) x))))), (b, .inl (cI, 768, .inl (upd g k (nI (max (hi (q - 1)) y)))))]) hD hS hA [0, 1, 2] rfl
  refine va_callv (va_runV (As := [.int (nI q), .int (nI (k + 1))]) (rest := []) ⟨hx, hb, hml, hown, hts⟩ (c_shift l dC dI _ r a b cI n (upd f k (nI (min (lo k) x))) (upd g k (nI (max (hi (q - 1)) y))) q (k + 1) (by omega) (by omega) (by omega) (by omega)) (cwV 2 hts gX0_unite_X0_shift rfl rfl rfl (by decide +kernel) ⟨Nat.le_of_ble_eq_true rfl, Nat.le_of_ble_eq_true rfl⟩) (cr_preV hPc hK hDc (ci := 0) (q0 := 0) rfl rfl) rfl rfl hl.1 rfl (lv_room (Nat.le_of_ble_eq_true rfl)) dX0_unite_40 ⟨Nat.zero_le _, Nat.zero_le _⟩) hS (fun q _ h => hFc q h) hFc (fun u_40 t_40 H_40 locs ht_40 hvm_40 hw_40 hB_40 hz_40 hk_40 hS => ?_)
  subst hw_40
  obtain ⟨hP, hD⟩ := cr_back (wr := []) (w1 := [(r, .inr (0, [.ref a, .ref b, .int (nI (k + 1 + (n - q)))])), (a, .inl (cI, 768, .inl (va_cpy (upd f k (nI (min (lo k) x))) (upd f k (nI (min (lo k) x))) q (k + 1) (n - q)))), (b, .inl (cI, 768, .inl (va_cpy (upd g k (nI (max (hi (q - 1)) y))) (upd g k (nI (max (hi (q - 1)) y))) q (k + 1) (n - q))))]) hP hD [0, 1, 2] [] rfl rfl (by decide) (by decide) hk_40 hFc hB_40 ht_40
  clear hPc hDc hFc
  generalize H_40 = H at hP hS ⊢
  have hP := hP.sub (ws' := [(r, .inr (0, [.ref a, .ref b, .int (nI (k + 1 + (n - q)))])), (a, .inl (cI, 768, .inl (va_cpy (upd f k (nI (min (lo k) x))) (upd f k (nI (min (lo k) x))) q (k + 1) (n - q)))), (b, .inl (cI, 768, .inl (va_cpy (upd g k (nI (max (hi (q - 1)) y))) (upd g k (nI (max (hi (q - 1)) y))) q (k + 1) (n - q))))]) [0, 1, 2] rfl
  have hD := hD.sub (ws' := [(r, .inr (0, [.ref a, .ref b, .int (nI (k + 1 + (n - q)))])), (a, .inl (cI, 768, .inl (va_cpy (upd f k (nI (min (lo k) x))) (upd f k (nI (min (lo k) x))) q (k + 1) (n - q)))), (b, .inl (cI, 768, .inl (va_cpy (upd g k (nI (max (hi (q - 1)) y))) (upd g k (nI (max (hi (q - 1)) y))) q (k + 1) (n - q))))]) [0, 1, 2] (by decide) rfl
  exact W.vret hx hb hr (fun t9 ht9 hW9 => ⟨⟨[(r, .inr (0, [.ref a, .ref b, .int (nI (k + 1 + (n - q)))])), (a, .inl (cI, 768, .inl (va_cpy (upd f k (nI (min (lo k) x))) (upd f k (nI (min (lo k) x))) q (k + 1) (n - q)))), (b, .inl (cI, 768, .inl (va_cpy (upd g k (nI (max (hi (q - 1)) y))) (upd g k (nI (max (hi (q - 1)) y))) q (k + 1) (n - q))))], rfl, rfl, by rw [ht9]; exact hP, va_K.moved hW9.alike hK, hD⟩, hS.F ht9⟩) hS.2.2 dX0_unite_43

set_option maxHeartbeats 4000000 in
set_option maxRecDepth 100000 in
theorem c_put (l : Launch) (dC : Nat → ClassId) (dI : Nat → Nat → Nat) (sz : Nat) (r a b : Nat) (cI : ClassId) (n : Nat) (f g : Nat → Int32) (S : Nat → Prop) (hSet : cr_Set n f g S) (hn : n < 768) (x y : Int32) (hxy : y.toInt < x.toInt ∨ (0 ≤ x.toInt ∧ y.toInt ≤ 1114111 ∧ (y.toInt < 55296 ∨ 57344 ≤ x.toInt))) : Met l yX0_put wsX0_put ({ frames := 4, cells := 0, slots := 0, locals := 140 }) (va_Pc [.ref r, .int x, .int y] (cr_pre dC dI [(cI, .int)] [(r, .inr (0, [.ref a, .ref b, .int (nI n)])), (a, .inl (cI, 768, .inl f)), (b, .inl (cI, 768, .inl g))] sz)) (va_Qv (fun (u : va_W) => ∃ (n' : Nat) (f' g' : Nat → Int32), u = [(r, .inr (0, [.ref a, .ref b, .int (nI n')])), (a, .inl (cI, 768, .inl f')), (b, .inl (cI, 768, .inl g'))] ∧ n' ≤ n + 1 ∧ cr_Set n' f' g' (fun c => S c ∨ (x.toInt ≤ (c : Int) ∧ (c : Int) ≤ y.toInt))) (cr_at dC dI [(cI, .int)] (va_A [(r, .inr (0, [.ref a, .ref b, .int (nI n)])), (a, .inl (cI, 768, .inl f)), (b, .inl (cI, 768, .inl g))] sz)) (va_A [(r, .inr (0, [.ref a, .ref b, .int (nI n)])), (a, .inl (cI, 768, .inl f)), (b, .inl (cI, 768, .inl g))] sz)) 0 0 (va_A [(r, .inr (0, [.ref a, .ref b, .int (nI n)])), (a, .inl (cI, 768, .inl f)), (b, .inl (cI, 768, .inl g))] sz) := by
  refine Met.ofW (cc := cX0_put) (maxL := 5) (ret := none) (by decide) rfl ?_
  intro p e s m args below meth c s₁ B hml hv
  obtain ⟨rfl, hsz, hP, hK, hD0⟩ := hv
  have hx := B.exec
  have hb := B.bytes
  have hr := B.returns
  have hts := atoms_spec (ws := wsX0_put) B.pre
  have hown : s.vm.findClass RX0 = some m.cls := findClass_of_methodNamed B.named
  have hlocks := B.notSynchronized
  subst hsz
  have hD := hD0.self (sz := s.heap.size)
  generalize hAe : va_A [(r, .inr (0, [.ref a, .ref b, .int (nI n)])), (a, .inl (cI, 768, .inl f)), (b, .inl (cI, 768, .inl g))] s.heap.size = A at hD ⊢
  have hA : ∀ q : Nat, s.heap.size ≤ q → A q := fun q h => by rw [← hAe]; exact Or.inr h
  have hS : va_S A s.heap s.heap [] := va_S.rf
  have hP : va_P (dC, dI) crCl [(r, .inr (0, [.ref a, .ref b, .int (nI n)])), (a, .inl (cI, 768, .inl f)), (b, .inl (cI, 768, .inl g))] s.heap := hP
  have hl := lv_entry ([.ref r, .int x, .int y]) (n := 5) (Nat.le_of_ble_eq_true rfl)
  rw [lg_entry_eq]
  generalize (lg_sl ([.ref r, .int x, .int y]) ++ List.replicate (5 - (lg_sl ([.ref r, .int x, .int y])).length) Slot.unset).toArray = ls at hl ⊢
  have hl : lv_has ls 5 [(0, .ref r), (1, .int x), (2, .int y)] := hl
  obtain ⟨lo, hi, hR, hO, hI⟩ := hSet
  refine lv_iload_n hx hb dX0_put_0 rfl (lv_at hl 1 rfl) ?_
  refine lv_iload_n hx hb dX0_put_1 rfl (lv_at hl 2 rfl) ?_
  refine lv_icmp_le (tgt := 6) hx hb dX0_put_2 (by decide) (fun c_2 => ?_) (fun c_2 => ?_)
  · rw [Int32.le_iff_toInt_le] at c_2
    obtain ⟨xa, hxa, rfl⟩ := cr_of (x := x) (by omega)
    obtain ⟨yb, hyb, rfl⟩ := cr_of (x := y) (by omega)
    rw [nI_toInt hxa, nI_toInt hyb] at hxy c_2
    have hyb2 : yb ≤ 1114111 := by omega
    have hlow : (nI xa - nI 1).toInt = (xa : Int) - 1 := pk_sub_toInt (by omega) (by omega)
    refine lv_aload_n hx hb dX0_put_6 rfl (lv_at hl 0 rfl) ?_
    refine lv_iload_n hx hb dX0_put_7 rfl (lv_at hl 1 rfl) ?_
    refine lv_iconst (v := nI 1) hx hb dX0_put_8 (by decide) ?_
    refine lv_isub hx hb dX0_put_9 ?_
    have hPc := hP.sub (ws' := [(r, .inr (0, [.ref a, .ref b, .int (nI n)])), (a, .inl (cI, 768, .inl f)), (b, .inl (cI, 768, .inl g))]) [0, 1, 2] rfl
    have hDc := hD.sub (ws' := [(r, .inr (0, [.ref a, .ref b, .int (nI n)])), (a, .inl (cI, 768, .inl f)), (b, .inl (cI, 768, .inl g))]) [0, 1, 2] (by decide) rfl
    have hFc := va_free (wc := [(r, .inr (0, [.ref a, .ref b, .int (nI n)])), (a, .inl (cI, 768, .inl f)), (b, .inl (cI, 768, .inl g))]) hD hS hA [0, 1, 2] rfl
    refine va_calli (va_runV (As := [.int ((nI xa) - (nI 1))]) (rest := []) ⟨hx, hb, hml, hown, hts⟩ (c_firstEndingFrom l dC dI _ r a b cI n f g lo hi hR hO (by omega) (nI xa - nI 1)) (cwV 1 hts gX0_put_X0_firstEndingFrom rfl rfl rfl (by decide +kernel) ⟨Nat.le_of_ble_eq_true rfl, Nat.le_of_ble_eq_true rfl⟩) (cr_preV hPc hK hDc (ci := 0) (q0 := 0) rfl rfl) rfl rfl hl.1 rfl (lv_room (Nat.le_of_ble_eq_true rfl)) dX0_put_10 ⟨Nat.zero_le _, Nat.zero_le _⟩) hS (fun q _ h => hFc q h) hFc (fun r_10 u_10 t_10 H_10 locs ht_10 hvm_10 hw_10 hB_10 hz_10 hk_10 hS => ?_)
    obtain ⟨rfl, k, rfl, hk1, hk2, hk3⟩ := hw_10
    rw [hlow] at hk2 hk3
    obtain ⟨hP, hD⟩ := cr_back (wr := []) (w1 := [(r, .inr (0, [.ref a, .ref b, .int (nI n)])), (a, .inl (cI, 768, .inl f)), (b, .inl (cI, 768, .inl g))]) hP hD [0, 1, 2] [] rfl rfl (by decide) (by decide) hk_10 hFc hB_10 ht_10
    clear hPc hDc hFc
    generalize H_10 = H at hP hS ⊢
    have hP := hP.sub (ws' := [(r, .inr (0, [.ref a, .ref b, .int (nI n)])), (a, .inl (cI, 768, .inl f)), (b, .inl (cI, 768, .inl g))]) [0, 1, 2] rfl
    have hD := hD.sub (ws' := [(r, .inr (0, [.ref a, .ref b, .int (nI n)])), (a, .inl (cI, 768, .inl f)), (b, .inl (cI, 768, .inl g))]) [0, 1, 2] (by decide) rfl
    refine lv_istore_n (lv' := [(3, .int (nI k)), (0, .ref r), (1, .int (nI xa)), (2, .int (nI yb))]) hx hb dX0_put_13 rfl hl (by decide) rfl (fun ls hl => ?_)
    refine lv_iload_n hx hb dX0_put_14 rfl (lv_at hl 0 rfl) ?_
    refine lv_istore (lv' := [(4, .int (nI k)), (3, .int (nI k)), (0, .ref r), (1, .int (nI xa)), (2, .int (nI yb))]) hx hb dX0_put_15 hl (by decide) rfl (fun ls hl => ?_)
    refine cr_lp1 (fun (q : Nat) => n - q) (fun (q : Nat) H locs ls => (k ≤ q ∧ q ≤ n ∧ ∀ j, k ≤ j → j < q → lo j ≤ yb + 1) ∧ va_P (dC, dI) crCl [(r, .inr (0, [.ref a, .ref b, .int (nI n)])), (a, .inl (cI, 768, .inl f)), (b, .inl (cI, 768, .inl g))] H ∧ va_D A [(r, .inr (0, [.ref a, .ref b, .int (nI n)])), (a, .inl (cI, 768, .inl f)), (b, .inl (cI, 768, .inl g))] ∧ va_S A s.heap H locs ∧ lv_has ls 5 [(0, .ref r), (1, .int (nI xa)), (2, .int (nI yb)), (3, .int (nI k)), (4, .int (nI q))]) ?_ k ⟨⟨Nat.le_refl _, hk1, fun j h h2 => absurd h (by omega)⟩, hP, hD, hS, lv_sub hl [2, 3, 4, 1, 0] rfl⟩
    intro q H locs ls hI17 ih17
    obtain ⟨⟨h1, h2, h3⟩, hP, hD, hS, hl⟩ := hI17
    refine lv_iload hx hb dX0_put_17 (lv_at hl 4 rfl) ?_
    refine lv_aload_n hx hb dX0_put_19 rfl (lv_at hl 0 rfl) ?_
    refine va_get (D := (dC, dI)) (ci := 0) (v := .int (nI n)) (C := RX0) (T := TX0) (N := 3) hx hb hts (by decide +kernel) hown hK hP 0 rfl rfl 2 (by decide) (hts (.fieldLink RX0 16 "CharRows$Ranges" "count" "I") (by decide +kernel)) (fun _ h9 => h9) rfl dX0_put_20 ?_
    refine lv_icmp_ge (tgt := 45) hx hb dX0_put_23 (by decide) (fun c_23 => ?_) (fun c_23 => ?_)
    · rw [nI_leI (by omega) (by omega)] at c_23
      have h4 : ∀ j, q ≤ j → j < n → yb + 1 < lo j := fun j hj1 hj2 => by omega
      refine lv_iload_n hx hb dX0_put_45 rfl (lv_at hl 3 rfl) ?_
      refine lv_iload hx hb dX0_put_46 (lv_at hl 4 rfl) ?_
      refine lv_icmp_ne (tgt := 61) hx hb dX0_put_48 (by decide) (fun c_48 => ?_) (fun c_48 => ?_)
      · rw [nI_eq (by omega) (by omega)] at c_48
        refine lv_aload_n hx hb dX0_put_61 rfl (lv_at hl 0 rfl) ?_
        refine lv_iload_n hx hb dX0_put_62 rfl (lv_at hl 3 rfl) ?_
        refine lv_iload hx hb dX0_put_63 (lv_at hl 4 rfl) ?_
        refine lv_iload_n hx hb dX0_put_65 rfl (lv_at hl 1 rfl) ?_
        refine lv_iload_n hx hb dX0_put_66 rfl (lv_at hl 2 rfl) ?_
        have hPc := hP.sub (ws' := [(r, .inr (0, [.ref a, .ref b, .int (nI n)])), (a, .inl (cI, 768, .inl f)), (b, .inl (cI, 768, .inl g))]) [0, 1, 2] rfl
        have hDc := hD.sub (ws' := [(r, .inr (0, [.ref a, .ref b, .int (nI n)])), (a, .inl (cI, 768, .inl f)), (b, .inl (cI, 768, .inl g))]) [0, 1, 2] (by decide) rfl
        have hFc := va_free (wc := [(r, .inr (0, [.ref a, .ref b, .int (nI n)])), (a, .inl (cI, 768, .inl f)), (b, .inl (cI, 768, .inl g))]) hD hS hA [0, 1, 2] rfl
        refine va_callv (va_runV (As := [.int (nI k), .int (nI q), .int (nI xa), .int (nI yb)]) (rest := []) ⟨hx, hb, hml, hown, hts⟩ (c_unite l dC dI _ r a b cI n f g lo hi hR hO (by omega) k q xa yb (by omega) (by omega) (by omega) (by omega)) (cwV 4 hts gX0_put_X0_unite rfl rfl rfl (by decide +kernel) ⟨Nat.le_of_ble_eq_true rfl, Nat.le_of_ble_eq_true rfl⟩) (cr_preV hPc hK hDc (ci := 0) (q0 := 0) rfl rfl) rfl rfl hl.1 rfl (lv_room (Nat.le_of_ble_eq_true rfl)) dX0_put_67 ⟨Nat.zero_le _, Nat.zero_le _⟩) hS (fun q _ h => hFc q h) hFc (fun u_67 t_67 H_67 locs ht_67 hvm_67 hw_67 hB_67 hz_67 hk_67 hS => ?_)
        subst hw_67
        obtain ⟨hP, hD⟩ := cr_back (wr := []) (w1 := [(r, .inr (0, [.ref a, .ref b, .int (nI (k + 1 + (n - q)))])), (a, .inl (cI, 768, .inl (va_cpy (upd f k (nI (min (lo k) xa))) (upd f k (nI (min (lo k) xa))) q (k + 1) (n - q)))), (b, .inl (cI, 768, .inl (va_cpy (upd g k (nI (max (hi (q - 1)) yb))) (upd g k (nI (max (hi (q - 1)) yb))) q (k + 1) (n - q))))]) hP hD [0, 1, 2] [] rfl rfl (by decide) (by decide) hk_67 hFc hB_67 ht_67
        clear hPc hDc hFc
        generalize H_67 = H at hP hS ⊢
        have hP := hP.sub (ws' := [(r, .inr (0, [.ref a, .ref b, .int (nI (k + 1 + (n - q)))])), (a, .inl (cI, 768, .inl (va_cpy (upd f k (nI (min (lo k) xa))) (upd f k (nI (min (lo k) xa))) q (k + 1) (n - q)))), (b, .inl (cI, 768, .inl (va_cpy (upd g k (nI (max (hi (q - 1)) yb))) (upd g k (nI (max (hi (q - 1)) yb))) q (k + 1) (n - q))))]) [0, 1, 2] rfl
        have hD := hD.sub (ws' := [(r, .inr (0, [.ref a, .ref b, .int (nI (k + 1 + (n - q)))])), (a, .inl (cI, 768, .inl (va_cpy (upd f k (nI (min (lo k) xa))) (upd f k (nI (min (lo k) xa))) q (k + 1) (n - q)))), (b, .inl (cI, 768, .inl (va_cpy (upd g k (nI (max (hi (q - 1)) yb))) (upd g k (nI (max (hi (q - 1)) yb))) q (k + 1) (n - q))))]) [0, 1, 2] (by decide) rfl
        exact W.vret hx hb hr (fun t9 ht9 hW9 => ⟨⟨[(r, .inr (0, [.ref a, .ref b, .int (nI (k + 1 + (n - q)))])), (a, .inl (cI, 768, .inl (va_cpy (upd f k (nI (min (lo k) xa))) (upd f k (nI (min (lo k) xa))) q (k + 1) (n - q)))), (b, .inl (cI, 768, .inl (va_cpy (upd g k (nI (max (hi (q - 1)) yb))) (upd g k (nI (max (hi (q - 1)) yb))) q (k + 1) (n - q))))], rfl, ⟨k + 1 + (n - q), _, _, rfl, by omega, cr_put_uni hR hO hI (by omega) (by omega) (by omega) (by omega) (by omega) (fun j hj => by have := hk2 j hj; omega) (by have := hk3 (by omega); omega) h3 h4 hxa hyb⟩, by rw [ht9]; exact hP, va_K.moved hW9.alike hK, hD⟩, hS.F ht9⟩) hS.2.2 dX0_put_70
      · rw [nI_eq (by omega) (by omega)] at c_48
        refine lv_aload_n hx hb dX0_put_51 rfl (lv_at hl 0 rfl) ?_
        refine lv_iload_n hx hb dX0_put_52 rfl (lv_at hl 3 rfl) ?_
        refine lv_iload_n hx hb dX0_put_53 rfl (lv_at hl 1 rfl) ?_
        refine lv_iload_n hx hb dX0_put_54 rfl (lv_at hl 2 rfl) ?_
        have hPc := hP.sub (ws' := [(r, .inr (0, [.ref a, .ref b, .int (nI n)])), (a, .inl (cI, 768, .inl f)), (b, .inl (cI, 768, .inl g))]) [0, 1, 2] rfl
        have hDc := hD.sub (ws' := [(r, .inr (0, [.ref a, .ref b, .int (nI n)])), (a, .inl (cI, 768, .inl f)), (b, .inl (cI, 768, .inl g))]) [0, 1, 2] (by decide) rfl
        have hFc := va_free (wc := [(r, .inr (0, [.ref a, .ref b, .int (nI n)])), (a, .inl (cI, 768, .inl f)), (b, .inl (cI, 768, .inl g))]) hD hS hA [0, 1, 2] rfl
        refine va_callv (va_runV (As := [.int (nI k), .int (nI xa), .int (nI yb)]) (rest := []) ⟨hx, hb, hml, hown, hts⟩ (c_insert l dC dI _ r a b cI n f g k (nI xa) (nI yb) (by omega) (by omega)) (cwV 3 hts gX0_put_X0_insert rfl rfl rfl (by decide +kernel) ⟨Nat.le_of_ble_eq_true rfl, Nat.le_of_ble_eq_true rfl⟩) (cr_preV hPc hK hDc (ci := 0) (q0 := 0) rfl rfl) rfl rfl hl.1 rfl (lv_room (Nat.le_of_ble_eq_true rfl)) dX0_put_55 ⟨Nat.zero_le _, Nat.zero_le _⟩) hS (fun q _ h => hFc q h) hFc (fun u_55 t_55 H_55 locs ht_55 hvm_55 hw_55 hB_55 hz_55 hk_55 hS => ?_)
        subst hw_55
        obtain ⟨hP, hD⟩ := cr_back (wr := []) (w1 := [(r, .inr (0, [.ref a, .ref b, .int (nI (n + 1))])), (a, .inl (cI, 768, .inl (upd (va_cpy f f k (k + 1) (n - k)) k (nI xa)))), (b, .inl (cI, 768, .inl (upd (va_cpy g g k (k + 1) (n - k)) k (nI yb))))]) hP hD [0, 1, 2] [] rfl rfl (by decide) (by decide) hk_55 hFc hB_55 ht_55
        clear hPc hDc hFc
        generalize H_55 = H at hP hS ⊢
        have hP := hP.sub (ws' := [(r, .inr (0, [.ref a, .ref b, .int (nI (n + 1))])), (a, .inl (cI, 768, .inl (upd (va_cpy f f k (k + 1) (n - k)) k (nI xa)))), (b, .inl (cI, 768, .inl (upd (va_cpy g g k (k + 1) (n - k)) k (nI yb))))]) [0, 1, 2] rfl
        have hD := hD.sub (ws' := [(r, .inr (0, [.ref a, .ref b, .int (nI (n + 1))])), (a, .inl (cI, 768, .inl (upd (va_cpy f f k (k + 1) (n - k)) k (nI xa)))), (b, .inl (cI, 768, .inl (upd (va_cpy g g k (k + 1) (n - k)) k (nI yb))))]) [0, 1, 2] (by decide) rfl
        refine lv_goto (tgt := 70) hx hb dX0_put_58 (by decide) ?_
        exact W.vret hx hb hr (fun t9 ht9 hW9 => ⟨⟨[(r, .inr (0, [.ref a, .ref b, .int (nI (n + 1))])), (a, .inl (cI, 768, .inl (upd (va_cpy f f k (k + 1) (n - k)) k (nI xa)))), (b, .inl (cI, 768, .inl (upd (va_cpy g g k (k + 1) (n - k)) k (nI yb))))], rfl, ⟨n + 1, _, _, rfl, by omega, cr_put_ins hR hO hI (by omega) (by omega) (by omega) (by omega) (fun j hj => by have := hk2 j hj; omega) (fun j hj1 hj2 => h4 j (by omega) hj2) hxa hyb⟩, by rw [ht9]; exact hP, va_K.moved hW9.alike hK, hD⟩, hS.F ht9⟩) hS.2.2 dX0_put_70
    · rw [nI_leI (by omega) (by omega)] at c_23
      refine lv_aload_n hx hb dX0_put_26 rfl (lv_at hl 0 rfl) ?_
      refine va_get (D := (dC, dI)) (ci := 0) (v := .ref a) (C := RX0) (T := TX0) (N := 3) hx hb hts (by decide +kernel) hown hK hP 0 rfl rfl 0 (by decide) (hts (.fieldLink RX0 9 "CharRows$Ranges" "lows" "[I") (by decide +kernel)) (fun _ h9 => h9) rfl dX0_put_27 ?_
      refine lv_iload hx hb dX0_put_30 (lv_at hl 4 rfl) ?_
      refine va_iald hx hb hK hP 1 0 rfl rfl (vp_in_nI (by omega) (by omega)) dX0_put_32 ?_
      refine cr_top (y := nI (lo q)) (by rw [nI_clamp (by omega)]; exact (hR _ (by omega)).1) ?_
      refine lv_iload_n hx hb dX0_put_33 rfl (lv_at hl 2 rfl) ?_
      refine lv_iconst (v := nI 1) hx hb dX0_put_34 (by decide) ?_
      refine lv_iadd hx hb dX0_put_35 ?_
      refine cr_top (y := nI (yb + 1)) (nI_add yb 1) ?_
      refine lv_icmp_gt (tgt := 45) hx hb dX0_put_36 (by decide) (fun c_36 => ?_) (fun c_36 => ?_)
      · rw [nI_ltI (by omega) (by have := hO.1 q (by omega); omega)] at c_36
        have h4 : ∀ j, q ≤ j → j < n → yb + 1 < lo j := fun j hj1 hj2 => by have := (hO.mono hj1 hj2).2; omega
        refine lv_iload_n hx hb dX0_put_45 rfl (lv_at hl 3 rfl) ?_
        refine lv_iload hx hb dX0_put_46 (lv_at hl 4 rfl) ?_
        refine lv_icmp_ne (tgt := 61) hx hb dX0_put_48 (by decide) (fun c_48 => ?_) (fun c_48 => ?_)
        · rw [nI_eq (by omega) (by omega)] at c_48
          refine lv_aload_n hx hb dX0_put_61 rfl (lv_at hl 0 rfl) ?_
          refine lv_iload_n hx hb dX0_put_62 rfl (lv_at hl 3 rfl) ?_
          refine lv_iload hx hb dX0_put_63 (lv_at hl 4 rfl) ?_
          refine lv_iload_n hx hb dX0_put_65 rfl (lv_at hl 1 rfl) ?_
          refine lv_iload_n hx hb dX0_put_66 rfl (lv_at hl 2 rfl) ?_
          have hPc := hP.sub (ws' := [(r, .inr (0, [.ref a, .ref b, .int (nI n)])), (a, .inl (cI, 768, .inl f)), (b, .inl (cI, 768, .inl g))]) [0, 1, 2] rfl
          have hDc := hD.sub (ws' := [(r, .inr (0, [.ref a, .ref b, .int (nI n)])), (a, .inl (cI, 768, .inl f)), (b, .inl (cI, 768, .inl g))]) [0, 1, 2] (by decide) rfl
          have hFc := va_free (wc := [(r, .inr (0, [.ref a, .ref b, .int (nI n)])), (a, .inl (cI, 768, .inl f)), (b, .inl (cI, 768, .inl g))]) hD hS hA [0, 1, 2] rfl
          refine va_callv (va_runV (As := [.int (nI k), .int (nI q), .int (nI xa), .int (nI yb)]) (rest := []) ⟨hx, hb, hml, hown, hts⟩ (c_unite l dC dI _ r a b cI n f g lo hi hR hO (by omega) k q xa yb (by omega) (by omega) (by omega) (by omega)) (cwV 4 hts gX0_put_X0_unite rfl rfl rfl (by decide +kernel) ⟨Nat.le_of_ble_eq_true rfl, Nat.le_of_ble_eq_true rfl⟩) (cr_preV hPc hK hDc (ci := 0) (q0 := 0) rfl rfl) rfl rfl hl.1 rfl (lv_room (Nat.le_of_ble_eq_true rfl)) dX0_put_67 ⟨Nat.zero_le _, Nat.zero_le _⟩) hS (fun q _ h => hFc q h) hFc (fun u_67 t_67 H_67 locs ht_67 hvm_67 hw_67 hB_67 hz_67 hk_67 hS => ?_)
          subst hw_67
          obtain ⟨hP, hD⟩ := cr_back (wr := []) (w1 := [(r, .inr (0, [.ref a, .ref b, .int (nI (k + 1 + (n - q)))])), (a, .inl (cI, 768, .inl (va_cpy (upd f k (nI (min (lo k) xa))) (upd f k (nI (min (lo k) xa))) q (k + 1) (n - q)))), (b, .inl (cI, 768, .inl (va_cpy (upd g k (nI (max (hi (q - 1)) yb))) (upd g k (nI (max (hi (q - 1)) yb))) q (k + 1) (n - q))))]) hP hD [0, 1, 2] [] rfl rfl (by decide) (by decide) hk_67 hFc hB_67 ht_67
          clear hPc hDc hFc
          generalize H_67 = H at hP hS ⊢
          have hP := hP.sub (ws' := [(r, .inr (0, [.ref a, .ref b, .int (nI (k + 1 + (n - q)))])), (a, .inl (cI, 768, .inl (va_cpy (upd f k (nI (min (lo k) xa))) (upd f k (nI (min (lo k) xa))) q (k + 1) (n - q)))), (b, .inl (cI, 768, .inl (va_cpy (upd g k (nI (max (hi (q - 1)) yb))) (upd g k (nI (max (hi (q - 1)) yb))) q (k + 1) (n - q))))]) [0, 1, 2] rfl
          have hD := hD.sub (ws' := [(r, .inr (0, [.ref a, .ref b, .int (nI (k + 1 + (n - q)))])), (a, .inl (cI, 768, .inl (va_cpy (upd f k (nI (min (lo k) xa))) (upd f k (nI (min (lo k) xa))) q (k + 1) (n - q)))), (b, .inl (cI, 768, .inl (va_cpy (upd g k (nI (max (hi (q - 1)) yb))) (upd g k (nI (max (hi (q - 1)) yb))) q (k + 1) (n - q))))]) [0, 1, 2] (by decide) rfl
          exact W.vret hx hb hr (fun t9 ht9 hW9 => ⟨⟨[(r, .inr (0, [.ref a, .ref b, .int (nI (k + 1 + (n - q)))])), (a, .inl (cI, 768, .inl (va_cpy (upd f k (nI (min (lo k) xa))) (upd f k (nI (min (lo k) xa))) q (k + 1) (n - q)))), (b, .inl (cI, 768, .inl (va_cpy (upd g k (nI (max (hi (q - 1)) yb))) (upd g k (nI (max (hi (q - 1)) yb))) q (k + 1) (n - q))))], rfl, ⟨k + 1 + (n - q), _, _, rfl, by omega, cr_put_uni hR hO hI (by omega) (by omega) (by omega) (by omega) (by omega) (fun j hj => by have := hk2 j hj; omega) (by have := hk3 (by omega); omega) h3 h4 hxa hyb⟩, by rw [ht9]; exact hP, va_K.moved hW9.alike hK, hD⟩, hS.F ht9⟩) hS.2.2 dX0_put_70
        · rw [nI_eq (by omega) (by omega)] at c_48
          refine lv_aload_n hx hb dX0_put_51 rfl (lv_at hl 0 rfl) ?_
          refine lv_iload_n hx hb dX0_put_52 rfl (lv_at hl 3 rfl) ?_
          refine lv_iload_n hx hb dX0_put_53 rfl (lv_at hl 1 rfl) ?_
          refine lv_iload_n hx hb dX0_put_54 rfl (lv_at hl 2 rfl) ?_
          have hPc := hP.sub (ws' := [(r, .inr (0, [.ref a, .ref b, .int (nI n)])), (a, .inl (cI, 768, .inl f)), (b, .inl (cI, 768, .inl g))]) [0, 1, 2] rfl
          have hDc := hD.sub (ws' := [(r, .inr (0, [.ref a, .ref b, .int (nI n)])), (a, .inl (cI, 768, .inl f)), (b, .inl (cI, 768, .inl g))]) [0, 1, 2] (by decide) rfl
          have hFc := va_free (wc := [(r, .inr (0, [.ref a, .ref b, .int (nI n)])), (a, .inl (cI, 768, .inl f)), (b, .inl (cI, 768, .inl g))]) hD hS hA [0, 1, 2] rfl
          refine va_callv (va_runV (As := [.int (nI k), .int (nI xa), .int (nI yb)]) (rest := []) ⟨hx, hb, hml, hown, hts⟩ (c_insert l dC dI _ r a b cI n f g k (nI xa) (nI yb) (by omega) (by omega)) (cwV 3 hts gX0_put_X0_insert rfl rfl rfl (by decide +kernel) ⟨Nat.le_of_ble_eq_true rfl, Nat.le_of_ble_eq_true rfl⟩) (cr_preV hPc hK hDc (ci := 0) (q0 := 0) rfl rfl) rfl rfl hl.1 rfl (lv_room (Nat.le_of_ble_eq_true rfl)) dX0_put_55 ⟨Nat.zero_le _, Nat.zero_le _⟩) hS (fun q _ h => hFc q h) hFc (fun u_55 t_55 H_55 locs ht_55 hvm_55 hw_55 hB_55 hz_55 hk_55 hS => ?_)
          subst hw_55
          obtain ⟨hP, hD⟩ := cr_back (wr := []) (w1 := [(r, .inr (0, [.ref a, .ref b, .int (nI (n + 1))])), (a, .inl (cI, 768, .inl (upd (va_cpy f f k (k + 1) (n - k)) k (nI xa)))), (b, .inl (cI, 768, .inl (upd (va_cpy g g k (k + 1) (n - k)) k (nI yb))))]) hP hD [0, 1, 2] [] rfl rfl (by decide) (by decide) hk_55 hFc hB_55 ht_55
          clear hPc hDc hFc
          generalize H_55 = H at hP hS ⊢
          have hP := hP.sub (ws' := [(r, .inr (0, [.ref a, .ref b, .int (nI (n + 1))])), (a, .inl (cI, 768, .inl (upd (va_cpy f f k (k + 1) (n - k)) k (nI xa)))), (b, .inl (cI, 768, .inl (upd (va_cpy g g k (k + 1) (n - k)) k (nI yb))))]) [0, 1, 2] rfl
          have hD := hD.sub (ws' := [(r, .inr (0, [.ref a, .ref b, .int (nI (n + 1))])), (a, .inl (cI, 768, .inl (upd (va_cpy f f k (k + 1) (n - k)) k (nI xa)))), (b, .inl (cI, 768, .inl (upd (va_cpy g g k (k + 1) (n - k)) k (nI yb))))]) [0, 1, 2] (by decide) rfl
          refine lv_goto (tgt := 70) hx hb dX0_put_58 (by decide) ?_
          exact W.vret hx hb hr (fun t9 ht9 hW9 => ⟨⟨[(r, .inr (0, [.ref a, .ref b, .int (nI (n + 1))])), (a, .inl (cI, 768, .inl (upd (va_cpy f f k (k + 1) (n - k)) k (nI xa)))), (b, .inl (cI, 768, .inl (upd (va_cpy g g k (k + 1) (n - k)) k (nI yb))))], rfl, ⟨n + 1, _, _, rfl, by omega, cr_put_ins hR hO hI (by omega) (by omega) (by omega) (by omega) (fun j hj => by have := hk2 j hj; omega) (fun j hj1 hj2 => h4 j (by omega) hj2) hxa hyb⟩, by rw [ht9]; exact hP, va_K.moved hW9.alike hK, hD⟩, hS.F ht9⟩) hS.2.2 dX0_put_70
      · rw [nI_ltI (by omega) (by have := hO.1 q (by omega); omega)] at c_36
        refine lv_iinc (v := nI (q + 1)) (lv' := [(4, .int (nI (q + 1))), (0, .ref r), (1, .int (nI xa)), (2, .int (nI yb)), (3, .int (nI k))]) hx hb dX0_put_39 hl (k := 4) rfl (nI_add q 1) (by decide) rfl (fun ls hl => ?_)
        refine lv_goto (tgt := 17) hx hb dX0_put_42 (by decide) ?_
        exact ih17 (q + 1) _ _ _ ⟨⟨by omega, by omega, cr_lt_s h3 (by omega)⟩, hP, hD, hS, lv_sub hl [1, 2, 3, 4, 0] rfl⟩ (by omega)
  · rw [Int32.le_iff_toInt_le] at c_2
    exact W.vret hx hb hr (fun t9 ht9 hW9 => ⟨⟨[(r, .inr (0, [.ref a, .ref b, .int (nI n)])), (a, .inl (cI, 768, .inl f)), (b, .inl (cI, 768, .inl g))], rfl, ⟨n, f, g, rfl, by omega, ⟨lo, hi, hR, hO, fun c => (hI c).trans ⟨Or.inl, fun h => h.elim id (fun q => absurd q (by omega))⟩⟩⟩, by rw [ht9]; exact hP, va_K.moved hW9.alike hK, hD⟩, hS.F ht9⟩) hS.2.2 dX0_put_5

set_option maxHeartbeats 4000000 in
set_option maxRecDepth 100000 in
theorem c_holds (l : Launch) (dC : Nat → ClassId) (dI : Nat → Nat → Nat) (sz : Nat) (r a b : Nat) (cI : ClassId) (n : Nat) (f g : Nat → Int32) (S : Nat → Prop) (hSet : cr_Set n f g S) (hn : n ≤ 768) (x : Int32) : Met l yX0_holds wsX0_holds ({ frames := 2, cells := 0, slots := 0, locals := 60 }) (va_Pc [.ref r, .int x] (cr_pre dC dI [(cI, .int)] [(r, .inr (0, [.ref a, .ref b, .int (nI n)])), (a, .inl (cI, 768, .inl f)), (b, .inl (cI, 768, .inl g))] sz)) (va_Qi (fun (rr : Int32) (u : va_W) => u = [(r, .inr (0, [.ref a, .ref b, .int (nI n)])), (a, .inl (cI, 768, .inl f)), (b, .inl (cI, 768, .inl g))] ∧ cr_zb rr (cr_Hs S x)) (cr_at dC dI [(cI, .int)] (va_A [(r, .inr (0, [.ref a, .ref b, .int (nI n)])), (a, .inl (cI, 768, .inl f)), (b, .inl (cI, 768, .inl g))] sz)) (va_A [(r, .inr (0, [.ref a, .ref b, .int (nI n)])), (a, .inl (cI, 768, .inl f)), (b, .inl (cI, 768, .inl g))] sz)) 0 0 (va_A [(r, .inr (0, [.ref a, .ref b, .int (nI n)])), (a, .inl (cI, 768, .inl f)), (b, .inl (cI, 768, .inl g))] sz) := by
  refine Met.ofW (cc := cX0_holds) (maxL := 3) (ret := (some .boolean)) (by decide) rfl ?_
  intro p e s m args below meth c s₁ B hml hv
  obtain ⟨rfl, hsz, hP, hK, hD0⟩ := hv
  have hx := B.exec
  have hb := B.bytes
  have hr := B.returns
  have hts := atoms_spec (ws := wsX0_holds) B.pre
  have hown : s.vm.findClass RX0 = some m.cls := findClass_of_methodNamed B.named
  have hlocks := B.notSynchronized
  subst hsz
  have hD := hD0.self (sz := s.heap.size)
  generalize hAe : va_A [(r, .inr (0, [.ref a, .ref b, .int (nI n)])), (a, .inl (cI, 768, .inl f)), (b, .inl (cI, 768, .inl g))] s.heap.size = A at hD ⊢
  have hA : ∀ q : Nat, s.heap.size ≤ q → A q := fun q h => by rw [← hAe]; exact Or.inr h
  have hS : va_S A s.heap s.heap [] := va_S.rf
  have hP : va_P (dC, dI) crCl [(r, .inr (0, [.ref a, .ref b, .int (nI n)])), (a, .inl (cI, 768, .inl f)), (b, .inl (cI, 768, .inl g))] s.heap := hP
  have hl := lv_entry ([.ref r, .int x]) (n := 3) (Nat.le_of_ble_eq_true rfl)
  rw [lg_entry_eq]
  generalize (lg_sl ([.ref r, .int x]) ++ List.replicate (3 - (lg_sl ([.ref r, .int x])).length) Slot.unset).toArray = ls at hl ⊢
  have hl : lv_has ls 3 [(0, .ref r), (1, .int x)] := hl
  obtain ⟨lo, hi, hR, hO, hI⟩ := hSet
  refine lv_aload_n hx hb dX0_holds_0 rfl (lv_at hl 0 rfl) ?_
  refine lv_iload_n hx hb dX0_holds_1 rfl (lv_at hl 1 rfl) ?_
  have hPc := hP.sub (ws' := [(r, .inr (0, [.ref a, .ref b, .int (nI n)])), (a, .inl (cI, 768, .inl f)), (b, .inl (cI, 768, .inl g))]) [0, 1, 2] rfl
  have hDc := hD.sub (ws' := [(r, .inr (0, [.ref a, .ref b, .int (nI n)])), (a, .inl (cI, 768, .inl f)), (b, .inl (cI, 768, .inl g))]) [0, 1, 2] (by decide) rfl
  have hFc := va_free (wc := [(r, .inr (0, [.ref a, .ref b, .int (nI n)])), (a, .inl (cI, 768, .inl f)), (b, .inl (cI, 768, .inl g))]) hD hS hA [0, 1, 2] rfl
  refine va_calli (va_runV (As := [.int x]) (rest := []) ⟨hx, hb, hml, hown, hts⟩ (c_firstEndingFrom l dC dI _ r a b cI n f g lo hi hR hO hn x) (cwV 1 hts gX0_holds_X0_firstEndingFrom rfl rfl rfl (by decide +kernel) ⟨Nat.le_of_ble_eq_true rfl, Nat.le_of_ble_eq_true rfl⟩) (cr_preV hPc hK hDc (ci := 0) (q0 := 0) rfl rfl) rfl rfl hl.1 rfl (lv_room (Nat.le_of_ble_eq_true rfl)) dX0_holds_2 ⟨Nat.zero_le _, Nat.zero_le _⟩) hS (fun q _ h => hFc q h) hFc (fun r_2 u_2 t_2 H_2 locs ht_2 hvm_2 hw_2 hB_2 hz_2 hk_2 hS => ?_)
  obtain ⟨rfl, k, rfl, hk1, hk2, hk3⟩ := hw_2
  obtain ⟨hP, hD⟩ := cr_back (wr := []) (w1 := [(r, .inr (0, [.ref a, .ref b, .int (nI n)])), (a, .inl (cI, 768, .inl f)), (b, .inl (cI, 768, .inl g))]) hP hD [0, 1, 2] [] rfl rfl (by decide) (by decide) hk_2 hFc hB_2 ht_2
  clear hPc hDc hFc
  generalize H_2 = H at hP hS ⊢
  have hP := hP.sub (ws' := [(r, .inr (0, [.ref a, .ref b, .int (nI n)])), (a, .inl (cI, 768, .inl f)), (b, .inl (cI, 768, .inl g))]) [0, 1, 2] rfl
  have hD := hD.sub (ws' := [(r, .inr (0, [.ref a, .ref b, .int (nI n)])), (a, .inl (cI, 768, .inl f)), (b, .inl (cI, 768, .inl g))]) [0, 1, 2] (by decide) rfl
  refine lv_istore_n (lv' := [(2, .int (nI k)), (0, .ref r), (1, .int x)]) hx hb dX0_holds_5 rfl hl (by decide) rfl (fun ls hl => ?_)
  refine lv_iload_n hx hb dX0_holds_6 rfl (lv_at hl 0 rfl) ?_
  refine lv_aload_n hx hb dX0_holds_7 rfl (lv_at hl 1 rfl) ?_
  refine va_get (D := (dC, dI)) (ci := 0) (v := .int (nI n)) (C := RX0) (T := TX0) (N := 3) hx hb hts (by decide +kernel) hown hK hP 0 rfl rfl 2 (by decide) (hts (.fieldLink RX0 16 "CharRows$Ranges" "count" "I") (by decide +kernel)) (fun _ h9 => h9) rfl dX0_holds_8 ?_
  refine lv_icmp_ge (tgt := 28) hx hb dX0_holds_11 (by decide) (fun c_11 => ?_) (fun c_11 => ?_)
  · rw [nI_leI (by omega) (by omega)] at c_11
    refine lv_iconst (v := nI 0) hx hb dX0_holds_28 (by decide) ?_
    exact W.zret (v := nI 0) (ty := .boolean) hx hb hr (by first | rfl | decide) (fun t9 ht9 hW9 => ⟨⟨nI 0, [(r, .inr (0, [.ref a, .ref b, .int (nI n)])), (a, .inl (cI, 768, .inl f)), (b, .inl (cI, 768, .inl g))], rfl, ⟨rfl, Or.inr ⟨rfl, cr_Hs_out hO hI hk1 hk2 (fun h => by omega)⟩⟩, by rw [ht9]; exact hP, va_K.moved hW9.alike hK, hD⟩, hS.F ht9⟩) hS.2.2 dX0_holds_29
  · rw [nI_leI (by omega) (by omega)] at c_11
    refine lv_aload_n hx hb dX0_holds_14 rfl (lv_at hl 1 rfl) ?_
    refine va_get (D := (dC, dI)) (ci := 0) (v := .ref a) (C := RX0) (T := TX0) (N := 3) hx hb hts (by decide +kernel) hown hK hP 0 rfl rfl 0 (by decide) (hts (.fieldLink RX0 9 "CharRows$Ranges" "lows" "[I") (by decide +kernel)) (fun _ h9 => h9) rfl dX0_holds_15 ?_
    refine lv_iload_n hx hb dX0_holds_18 rfl (lv_at hl 0 rfl) ?_
    refine va_iald hx hb hK hP 1 0 rfl rfl (vp_in_nI (by omega) (by omega)) dX0_holds_19 ?_
    refine cr_top (y := nI (lo k)) (by rw [nI_clamp (by omega)]; exact (hR _ (by omega)).1) ?_
    refine lv_iload_n hx hb dX0_holds_20 rfl (lv_at hl 2 rfl) ?_
    refine lv_icmp_gt (tgt := 28) hx hb dX0_holds_21 (by decide) (fun c_21 => ?_) (fun c_21 => ?_)
    · have hok := hO.1 k (by omega)
      rw [Int32.lt_iff_toInt_lt, nI_toInt (by omega)] at c_21
      refine lv_iconst (v := nI 0) hx hb dX0_holds_28 (by decide) ?_
      exact W.zret (v := nI 0) (ty := .boolean) hx hb hr (by first | rfl | decide) (fun t9 ht9 hW9 => ⟨⟨nI 0, [(r, .inr (0, [.ref a, .ref b, .int (nI n)])), (a, .inl (cI, 768, .inl f)), (b, .inl (cI, 768, .inl g))], rfl, ⟨rfl, Or.inr ⟨rfl, cr_Hs_out hO hI hk1 hk2 (fun h => by omega)⟩⟩, by rw [ht9]; exact hP, va_K.moved hW9.alike hK, hD⟩, hS.F ht9⟩) hS.2.2 dX0_holds_29
    · have hok := hO.1 k (by omega)
      rw [Int32.lt_iff_toInt_lt, nI_toInt (by omega)] at c_21
      refine lv_iconst (v := nI 1) hx hb dX0_holds_24 (by decide) ?_
      refine lv_goto (tgt := 29) hx hb dX0_holds_25 (by decide) ?_
      exact W.zret (v := nI 1) (ty := .boolean) hx hb hr (by first | rfl | decide) (fun t9 ht9 hW9 => ⟨⟨nI 1, [(r, .inr (0, [.ref a, .ref b, .int (nI n)])), (a, .inl (cI, 768, .inl f)), (b, .inl (cI, 768, .inl g))], rfl, ⟨rfl, Or.inl ⟨rfl, cr_Hs_in hO hI (by omega) (by omega) (hk3 (by omega))⟩⟩, by rw [ht9]; exact hP, va_K.moved hW9.alike hK, hD⟩, hS.F ht9⟩) hS.2.2 dX0_holds_29

set_option maxHeartbeats 4000000 in
set_option maxRecDepth 100000 in
theorem c_endAround (l : Launch) (dC : Nat → ClassId) (dI : Nat → Nat → Nat) (sz : Nat) (r a b : Nat) (cI : ClassId) (n : Nat) (f g : Nat → Int32) (lo hi : Nat → Nat) (hR : cr_Rp n lo hi f g) (hO : cr_Ok n lo hi) (hn : n ≤ 768) (x j : Nat) (hj : j < n) (hj1 : lo j ≤ x) (hj2 : x ≤ hi j) : Met l yX0_endAround wsX0_endAround ({ frames := 2, cells := 0, slots := 0, locals := 60 }) (va_Pc [.ref r, .int (nI x)] (cr_pre dC dI [(cI, .int)] [(r, .inr (0, [.ref a, .ref b, .int (nI n)])), (a, .inl (cI, 768, .inl f)), (b, .inl (cI, 768, .inl g))] sz)) (va_Qi (fun (rr : Int32) (u : va_W) => u = [(r, .inr (0, [.ref a, .ref b, .int (nI n)])), (a, .inl (cI, 768, .inl f)), (b, .inl (cI, 768, .inl g))] ∧ rr = nI (hi j)) (cr_at dC dI [(cI, .int)] (va_A [(r, .inr (0, [.ref a, .ref b, .int (nI n)])), (a, .inl (cI, 768, .inl f)), (b, .inl (cI, 768, .inl g))] sz)) (va_A [(r, .inr (0, [.ref a, .ref b, .int (nI n)])), (a, .inl (cI, 768, .inl f)), (b, .inl (cI, 768, .inl g))] sz)) 0 0 (va_A [(r, .inr (0, [.ref a, .ref b, .int (nI n)])), (a, .inl (cI, 768, .inl f)), (b, .inl (cI, 768, .inl g))] sz) := by
  refine Met.ofW (cc := cX0_endAround) (maxL := 3) (ret := (some .int)) (by decide) rfl ?_
  intro p e s m args below meth c s₁ B hml hv
  obtain ⟨rfl, hsz, hP, hK, hD0⟩ := hv
  have hx := B.exec
  have hb := B.bytes
  have hr := B.returns
  have hts := atoms_spec (ws := wsX0_endAround) B.pre
  have hown : s.vm.findClass RX0 = some m.cls := findClass_of_methodNamed B.named
  have hlocks := B.notSynchronized
  subst hsz
  have hD := hD0.self (sz := s.heap.size)
  generalize hAe : va_A [(r, .inr (0, [.ref a, .ref b, .int (nI n)])), (a, .inl (cI, 768, .inl f)), (b, .inl (cI, 768, .inl g))] s.heap.size = A at hD ⊢
  have hA : ∀ q : Nat, s.heap.size ≤ q → A q := fun q h => by rw [← hAe]; exact Or.inr h
  have hS : va_S A s.heap s.heap [] := va_S.rf
  have hP : va_P (dC, dI) crCl [(r, .inr (0, [.ref a, .ref b, .int (nI n)])), (a, .inl (cI, 768, .inl f)), (b, .inl (cI, 768, .inl g))] s.heap := hP
  have hl := lv_entry ([.ref r, .int (nI x)]) (n := 3) (Nat.le_of_ble_eq_true rfl)
  rw [lg_entry_eq]
  generalize (lg_sl ([.ref r, .int (nI x)]) ++ List.replicate (3 - (lg_sl ([.ref r, .int (nI x)])).length) Slot.unset).toArray = ls at hl ⊢
  have hl : lv_has ls 3 [(0, .ref r), (1, .int (nI x))] := hl
  have hok := hO.1 j hj
  refine lv_aload_n hx hb dX0_endAround_0 rfl (lv_at hl 0 rfl) ?_
  refine lv_iload_n hx hb dX0_endAround_1 rfl (lv_at hl 1 rfl) ?_
  have hPc := hP.sub (ws' := [(r, .inr (0, [.ref a, .ref b, .int (nI n)])), (a, .inl (cI, 768, .inl f)), (b, .inl (cI, 768, .inl g))]) [0, 1, 2] rfl
  have hDc := hD.sub (ws' := [(r, .inr (0, [.ref a, .ref b, .int (nI n)])), (a, .inl (cI, 768, .inl f)), (b, .inl (cI, 768, .inl g))]) [0, 1, 2] (by decide) rfl
  have hFc := va_free (wc := [(r, .inr (0, [.ref a, .ref b, .int (nI n)])), (a, .inl (cI, 768, .inl f)), (b, .inl (cI, 768, .inl g))]) hD hS hA [0, 1, 2] rfl
  refine va_calli (va_runV (As := [.int (nI x)]) (rest := []) ⟨hx, hb, hml, hown, hts⟩ (c_firstEndingFrom l dC dI _ r a b cI n f g lo hi hR hO hn (nI x)) (cwV 1 hts gX0_endAround_X0_firstEndingFrom rfl rfl rfl (by decide +kernel) ⟨Nat.le_of_ble_eq_true rfl, Nat.le_of_ble_eq_true rfl⟩) (cr_preV hPc hK hDc (ci := 0) (q0 := 0) rfl rfl) rfl rfl hl.1 rfl (lv_room (Nat.le_of_ble_eq_true rfl)) dX0_endAround_2 ⟨Nat.zero_le _, Nat.zero_le _⟩) hS (fun q _ h => hFc q h) hFc (fun r_2 u_2 t_2 H_2 locs ht_2 hvm_2 hw_2 hB_2 hz_2 hk_2 hS => ?_)
  obtain ⟨rfl, k, rfl, hk1, hk2, hk3⟩ := hw_2
  rw [nI_toInt (by omega)] at hk2 hk3
  obtain rfl : k = j := cr_first hO hj hj1 hj2 hk1 hk2 hk3
  obtain ⟨hP, hD⟩ := cr_back (wr := []) (w1 := [(r, .inr (0, [.ref a, .ref b, .int (nI n)])), (a, .inl (cI, 768, .inl f)), (b, .inl (cI, 768, .inl g))]) hP hD [0, 1, 2] [] rfl rfl (by decide) (by decide) hk_2 hFc hB_2 ht_2
  clear hPc hDc hFc
  generalize H_2 = H at hP hS ⊢
  have hP := hP.sub (ws' := [(r, .inr (0, [.ref a, .ref b, .int (nI n)])), (a, .inl (cI, 768, .inl f)), (b, .inl (cI, 768, .inl g))]) [0, 1, 2] rfl
  have hD := hD.sub (ws' := [(r, .inr (0, [.ref a, .ref b, .int (nI n)])), (a, .inl (cI, 768, .inl f)), (b, .inl (cI, 768, .inl g))]) [0, 1, 2] (by decide) rfl
  refine lv_istore_n (lv' := [(2, .int (nI k)), (0, .ref r), (1, .int (nI x))]) hx hb dX0_endAround_5 rfl hl (by decide) rfl (fun ls hl => ?_)
  refine lv_iload_n hx hb dX0_endAround_6 rfl (lv_at hl 0 rfl) ?_
  refine lv_aload_n hx hb dX0_endAround_7 rfl (lv_at hl 1 rfl) ?_
  refine va_get (D := (dC, dI)) (ci := 0) (v := .int (nI n)) (C := RX0) (T := TX0) (N := 3) hx hb hts (by decide +kernel) hown hK hP 0 rfl rfl 2 (by decide) (hts (.fieldLink RX0 16 "CharRows$Ranges" "count" "I") (by decide +kernel)) (fun _ h9 => h9) rfl dX0_endAround_8 ?_
  refine lv_icmp_ge (tgt := 33) hx hb dX0_endAround_11 (by decide) (fun c_11 => ?_) (fun c_11 => ?_)
  · exact absurd ((nI_leI (by omega) (by omega)).1 c_11) (by omega)
  · refine lv_aload_n hx hb dX0_endAround_14 rfl (lv_at hl 1 rfl) ?_
    refine va_get (D := (dC, dI)) (ci := 0) (v := .ref a) (C := RX0) (T := TX0) (N := 3) hx hb hts (by decide +kernel) hown hK hP 0 rfl rfl 0 (by decide) (hts (.fieldLink RX0 9 "CharRows$Ranges" "lows" "[I") (by decide +kernel)) (fun _ h9 => h9) rfl dX0_endAround_15 ?_
    refine lv_iload_n hx hb dX0_endAround_18 rfl (lv_at hl 0 rfl) ?_
    refine va_iald hx hb hK hP 1 0 rfl rfl (vp_in_nI (by omega) (by omega)) dX0_endAround_19 ?_
    refine cr_top (y := nI (lo k)) (by rw [nI_clamp (by omega)]; exact (hR _ (by omega)).1) ?_
    refine lv_iload_n hx hb dX0_endAround_20 rfl (lv_at hl 2 rfl) ?_
    refine lv_icmp_gt (tgt := 33) hx hb dX0_endAround_21 (by decide) (fun c_21 => ?_) (fun c_21 => ?_)
    · exact absurd ((nI_ltI (by omega) (by omega)).1 c_21) (by omega)
    · refine lv_aload_n hx hb dX0_endAround_24 rfl (lv_at hl 1 rfl) ?_
      refine va_get (D := (dC, dI)) (ci := 0) (v := .ref b) (C := RX0) (T := TX0) (N := 3) hx hb hts (by decide +kernel) hown hK hP 0 rfl rfl 1 (by decide) (hts (.fieldLink RX0 13 "CharRows$Ranges" "highs" "[I") (by decide +kernel)) (fun _ h9 => h9) rfl dX0_endAround_25 ?_
      refine lv_iload_n hx hb dX0_endAround_28 rfl (lv_at hl 0 rfl) ?_
      refine va_iald hx hb hK hP 2 0 rfl rfl (vp_in_nI (by omega) (by omega)) dX0_endAround_29 ?_
      refine cr_top (y := nI (hi k)) (by rw [nI_clamp (by omega)]; exact (hR _ (by omega)).2) ?_
      refine lv_goto (tgt := 34) hx hb dX0_endAround_30 (by decide) ?_
      exact W.iret (v := nI (hi k)) hx hb hr (fun t9 ht9 hW9 => ⟨⟨nI (hi k), [(r, .inr (0, [.ref a, .ref b, .int (nI n)])), (a, .inl (cI, 768, .inl f)), (b, .inl (cI, 768, .inl g))], rfl, ⟨rfl, rfl⟩, by rw [ht9]; exact hP, va_K.moved hW9.alike hK, hD⟩, hS.F ht9⟩) hS.2.2 dX0_endAround_34

set_option maxHeartbeats 4000000 in
set_option maxRecDepth 100000 in
theorem c_become (l : Launch) (dC : Nat → ClassId) (dI : Nat → Nat → Nat) (sz : Nat) (r a b r3 a3 b3 : Nat) (cI : ClassId) (n n3 : Nat) (f g f3 g3 : Nat → Int32) (hn : n ≤ 768) : Met l yX0_become wsX0_become ({ frames := 2, cells := 0, slots := 0, locals := 60 }) (va_Pc [.ref r3, .ref r] (cr_pre dC dI [(cI, .int)] [(r3, .inr (0, [.ref a3, .ref b3, .int (nI n3)])), (a3, .inl (cI, 768, .inl f3)), (b3, .inl (cI, 768, .inl g3)), (r, .inr (0, [.ref a, .ref b, .int (nI n)])), (a, .inl (cI, 768, .inl f)), (b, .inl (cI, 768, .inl g))] sz)) (va_Qv (fun (u : va_W) => u = [(r3, .inr (0, [.ref a3, .ref b3, .int (nI n)])), (a3, .inl (cI, 768, .inl (va_cpy f f3 0 0 n))), (b3, .inl (cI, 768, .inl (va_cpy g g3 0 0 n))), (r, .inr (0, [.ref a, .ref b, .int (nI n)])), (a, .inl (cI, 768, .inl f)), (b, .inl (cI, 768, .inl g))]) (cr_at dC dI [(cI, .int)] (va_A [(r3, .inr (0, [.ref a3, .ref b3, .int (nI n3)])), (a3, .inl (cI, 768, .inl f3)), (b3, .inl (cI, 768, .inl g3)), (r, .inr (0, [.ref a, .ref b, .int (nI n)])), (a, .inl (cI, 768, .inl f)), (b, .inl (cI, 768, .inl g))] sz)) (va_A [(r3, .inr (0, [.ref a3, .ref b3, .int (nI n3)])), (a3, .inl (cI, 768, .inl f3)), (b3, .inl (cI, 768, .inl g3)), (r, .inr (0, [.ref a, .ref b, .int (nI n)])), (a, .inl (cI, 768, .inl f)), (b, .inl (cI, 768, .inl g))] sz)) 0 0 (va_A [(r3, .inr (0, [.ref a3, .ref b3, .int (nI n3)])), (a3, .inl (cI, 768, .inl f3)), (b3, .inl (cI, 768, .inl g3)), (r, .inr (0, [.ref a, .ref b, .int (nI n)])), (a, .inl (cI, 768, .inl f)), (b, .inl (cI, 768, .inl g))] sz) := by
  refine Met.ofW (cc := cX0_become) (maxL := 2) (ret := none) (by decide) rfl ?_
  intro p e s m args below meth c s₁ B hml hv
  obtain ⟨rfl, hsz, hP, hK, hD0⟩ := hv
  have hx := B.exec
  have hb := B.bytes
  have hr := B.returns
  have hts := atoms_spec (ws := wsX0_become) B.pre
  have hown : s.vm.findClass RX0 = some m.cls := findClass_of_methodNamed B.named
  have hlocks := B.notSynchronized
  subst hsz
  have hD := hD0.self (sz := s.heap.size)
  generalize hAe : va_A [(r3, .inr (0, [.ref a3, .ref b3, .int (nI n3)])), (a3, .inl (cI, 768, .inl f3)), (b3, .inl (cI, 768, .inl g3)), (r, .inr (0, [.ref a, .ref b, .int (nI n)])), (a, .inl (cI, 768, .inl f)), (b, .inl (cI, 768, .inl g))] s.heap.size = A at hD ⊢
  have hA : ∀ q : Nat, s.heap.size ≤ q → A q := fun q h => by rw [← hAe]; exact Or.inr h
  have hS : va_S A s.heap s.heap [] := va_S.rf
  have hP : va_P (dC, dI) crCl [(r3, .inr (0, [.ref a3, .ref b3, .int (nI n3)])), (a3, .inl (cI, 768, .inl f3)), (b3, .inl (cI, 768, .inl g3)), (r, .inr (0, [.ref a, .ref b, .int (nI n)])), (a, .inl (cI, 768, .inl f)), (b, .inl (cI, 768, .inl g))] s.heap := hP
  have hl := lv_entry ([.ref r3, .ref r]) (n := 2) (Nat.le_of_ble_eq_true rfl)
  rw [lg_entry_eq]
  generalize (lg_sl ([.ref r3, .ref r]) ++ List.replicate (2 - (lg_sl ([.ref r3, .ref r])).length) Slot.unset).toArray = ls at hl ⊢
  have hl : lv_has ls 2 [(0, .ref r3), (1, .ref r)] := hl
  refine lv_aload_n hx hb dX0_become_0 rfl (lv_at hl 1 rfl) ?_
  refine va_get (D := (dC, dI)) (ci := 0) (v := .ref a) (C := RX0) (T := TX0) (N := 3) hx hb hts (by decide +kernel) hown hK hP 3 rfl rfl 0 (by decide) (hts (.fieldLink RX0 9 "CharRows$Ranges" "lows" "[I") (by decide +kernel)) (fun _ h9 => h9) rfl dX0_become_1 ?_
  refine lv_iconst (v := nI 0) hx hb dX0_become_4 (by decide) ?_
  refine lv_aload_n hx hb dX0_become_5 rfl (lv_at hl 0 rfl) ?_
  refine va_get (D := (dC, dI)) (ci := 0) (v := .ref a3) (C := RX0) (T := TX0) (N := 3) hx hb hts (by decide +kernel) hown hK hP 0 rfl rfl 0 (by decide) (hts (.fieldLink RX0 9 "CharRows$Ranges" "lows" "[I") (by decide +kernel)) (fun _ h9 => h9) rfl dX0_become_6 ?_
  refine lv_iconst (v := nI 0) hx hb dX0_become_9 (by decide) ?_
  refine lv_aload_n hx hb dX0_become_10 rfl (lv_at hl 1 rfl) ?_
  refine va_get (D := (dC, dI)) (ci := 0) (v := .int (nI n)) (C := RX0) (T := TX0) (N := 3) hx hb hts (by decide +kernel) hown hK hP 3 rfl rfl 2 (by decide) (hts (.fieldLink RX0 16 "CharRows$Ranges" "count" "I") (by decide +kernel)) (fun _ h9 => h9) rfl dX0_become_11 ?_
  refine va_copyi hx hb (hml.trans hl.1.symm) hown (hts (.methodLink RX0 20 arraycopyName) (by decide +kernel)) (hts (.native arraycopyName) (by decide +kernel)) (hts (.static arraycopyName) (by decide +kernel)) (hts (.initialized "java/lang/System") (by decide +kernel)) hK hP hD hS 4 1 0 0 rfl rfl rfl rfl rfl (nI_pos (by omega)) (nI_pos (by omega)) (nI_pos (by omega)) (by rw [nI_clamp (by omega), nI_clamp (by omega)]; omega) (by rw [nI_clamp (by omega), nI_clamp (by omega)]; omega) (fun _ _ => rfl) (Nat.le_of_ble_eq_true rfl) (by decide +kernel) dX0_become_14 (fun H locs hP hD hS => ?_)
  rw [nI_clamp (show 0 < 2 ^ 31 by omega), nI_clamp (show n < 2 ^ 31 by omega)] at hP hD
  have hP : va_P (dC, dI) crCl [(r3, .inr (0, [.ref a3, .ref b3, .int (nI n3)])), (a3, .inl (cI, 768, .inl (va_cpy f f3 0 0 n))), (b3, .inl (cI, 768, .inl g3)), (r, .inr (0, [.ref a, .ref b, .int (nI n)])), (a, .inl (cI, 768, .inl f)), (b, .inl (cI, 768, .inl g))] H := hP
  have hD : va_D A [(r3, .inr (0, [.ref a3, .ref b3, .int (nI n3)])), (a3, .inl (cI, 768, .inl (va_cpy f f3 0 0 n))), (b3, .inl (cI, 768, .inl g3)), (r, .inr (0, [.ref a, .ref b, .int (nI n)])), (a, .inl (cI, 768, .inl f)), (b, .inl (cI, 768, .inl g))] := hD
  refine lv_aload_n hx hb dX0_become_17 rfl (lv_at hl 1 rfl) ?_
  refine va_get (D := (dC, dI)) (ci := 0) (v := .ref b) (C := RX0) (T := TX0) (N := 3) hx hb hts (by decide +kernel) hown hK hP 3 rfl rfl 1 (by decide) (hts (.fieldLink RX0 13 "CharRows$Ranges" "highs" "[I") (by decide +kernel)) (fun _ h9 => h9) rfl dX0_become_18 ?_
  refine lv_iconst (v := nI 0) hx hb dX0_become_21 (by decide) ?_
  refine lv_aload_n hx hb dX0_become_22 rfl (lv_at hl 0 rfl) ?_
  refine va_get (D := (dC, dI)) (ci := 0) (v := .ref b3) (C := RX0) (T := TX0) (N := 3) hx hb hts (by decide +kernel) hown hK hP 0 rfl rfl 1 (by decide) (hts (.fieldLink RX0 13 "CharRows$Ranges" "highs" "[I") (by decide +kernel)) (fun _ h9 => h9) rfl dX0_become_23 ?_
  refine lv_iconst (v := nI 0) hx hb dX0_become_26 (by decide) ?_
  refine lv_aload_n hx hb dX0_become_27 rfl (lv_at hl 1 rfl) ?_
  refine va_get (D := (dC, dI)) (ci := 0) (v := .int (nI n)) (C := RX0) (T := TX0) (N := 3) hx hb hts (by decide +kernel) hown hK hP 3 rfl rfl 2 (by decide) (hts (.fieldLink RX0 16 "CharRows$Ranges" "count" "I") (by decide +kernel)) (fun _ h9 => h9) rfl dX0_become_28 ?_
  refine va_copyi hx hb (hml.trans hl.1.symm) hown (hts (.methodLink RX0 20 arraycopyName) (by decide +kernel)) (hts (.native arraycopyName) (by decide +kernel)) (hts (.static arraycopyName) (by decide +kernel)) (hts (.initialized "java/lang/System") (by decide +kernel)) hK hP hD hS 5 2 0 0 rfl rfl rfl rfl rfl (nI_pos (by omega)) (nI_pos (by omega)) (nI_pos (by omega)) (by rw [nI_clamp (by omega), nI_clamp (by omega)]; omega) (by rw [nI_clamp (by omega), nI_clamp (by omega)]; omega) (fun _ _ => rfl) (Nat.le_of_ble_eq_true rfl) (by decide +kernel) dX0_become_31 (fun H locs hP hD hS => ?_)
  rw [nI_clamp (show 0 < 2 ^ 31 by omega), nI_clamp (show n < 2 ^ 31 by omega)] at hP hD
  have hP : va_P (dC, dI) crCl [(r3, .inr (0, [.ref a3, .ref b3, .int (nI n3)])), (a3, .inl (cI, 768, .inl (va_cpy f f3 0 0 n))), (b3, .inl (cI, 768, .inl (va_cpy g g3 0 0 n))), (r, .inr (0, [.ref a, .ref b, .int (nI n)])), (a, .inl (cI, 768, .inl f)), (b, .inl (cI, 768, .inl g))] H := hP
  have hD : va_D A [(r3, .inr (0, [.ref a3, .ref b3, .int (nI n3)])), (a3, .inl (cI, 768, .inl (va_cpy f f3 0 0 n))), (b3, .inl (cI, 768, .inl (va_cpy g g3 0 0 n))), (r, .inr (0, [.ref a, .ref b, .int (nI n)])), (a, .inl (cI, 768, .inl f)), (b, .inl (cI, 768, .inl g))] := hD
  refine lv_aload_n hx hb dX0_become_34 rfl (lv_at hl 0 rfl) ?_
  refine lv_aload_n hx hb dX0_become_35 rfl (lv_at hl 1 rfl) ?_
  refine va_get (D := (dC, dI)) (ci := 0) (v := .int (nI n)) (C := RX0) (T := TX0) (N := 3) hx hb hts (by decide +kernel) hown hK hP 3 rfl rfl 2 (by decide) (hts (.fieldLink RX0 16 "CharRows$Ranges" "count" "I") (by decide +kernel)) (fun _ h9 => h9) rfl dX0_become_36 ?_
  refine va_put (D := (dC, dI)) (ci := 0) (v := .int (nI n)) (ty := .int) (C := RX0) (T := TX0) (N := 3) hx hb hts (by decide +kernel) tyX0 tyX0_ok nmX0 hown hK hP hD hS 0 rfl rfl 2 (by decide) (hts (.fieldLink RX0 16 "CharRows$Ranges" "count" "I") (by decide +kernel)) (fun _ h9 => h9) rfl (by decide +kernel) rfl rfl (Nat.le_of_ble_eq_true rfl) dX0_become_39 (fun H locs hP hD hS => ?_)
  have hP : va_P (dC, dI) crCl [(r3, .inr (0, [.ref a3, .ref b3, .int (nI n)])), (a3, .inl (cI, 768, .inl (va_cpy f f3 0 0 n))), (b3, .inl (cI, 768, .inl (va_cpy g g3 0 0 n))), (r, .inr (0, [.ref a, .ref b, .int (nI n)])), (a, .inl (cI, 768, .inl f)), (b, .inl (cI, 768, .inl g))] H := hP
  have hD : va_D A [(r3, .inr (0, [.ref a3, .ref b3, .int (nI n)])), (a3, .inl (cI, 768, .inl (va_cpy f f3 0 0 n))), (b3, .inl (cI, 768, .inl (va_cpy g g3 0 0 n))), (r, .inr (0, [.ref a, .ref b, .int (nI n)])), (a, .inl (cI, 768, .inl f)), (b, .inl (cI, 768, .inl g))] := hD
  exact W.vret hx hb hr (fun t9 ht9 hW9 => ⟨⟨[(r3, .inr (0, [.ref a3, .ref b3, .int (nI n)])), (a3, .inl (cI, 768, .inl (va_cpy f f3 0 0 n))), (b3, .inl (cI, 768, .inl (va_cpy g g3 0 0 n))), (r, .inr (0, [.ref a, .ref b, .int (nI n)])), (a, .inl (cI, 768, .inl f)), (b, .inl (cI, 768, .inl g))], rfl, rfl, by rw [ht9]; exact hP, va_K.moved hW9.alike hK, hD⟩, hS.F ht9⟩) hS.2.2 dX0_become_42

