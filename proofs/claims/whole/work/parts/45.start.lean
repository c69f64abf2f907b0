/-! THE START: what the Statement gives of it -/
theorem cr_nw_in : ∀ w ∈ cr_nw, w ∈ lw_tbl := by decide +kernel
theorem cr_nw_ot : ∀ w ∈ cr_nw, w.onTables = true := by decide +kernel
theorem inM : ∀ w ∈ u_ws RX2 TM 15, w ∈ lw_tbl := gT_00
theorem inC0 : ∀ w ∈ u_ws RX0 TX0 3, w ∈ lw_tbl := inX0
theorem inC1 : ∀ w ∈ u_ws RX1 TX1 3, w ∈ lw_tbl := inX1
theorem st_NW {b : Nat} {s : State} (hts : ∀ w ∈ lw_tbl, w.before #[Value.ref b] s = true) : cr_NW s := fun w hw => va_Nw.of (cr_nw_ot w hw) (hts w (cr_nw_in w hw))
theorem st_XW {b : Nat} {s : State} (hts : ∀ w ∈ lw_tbl, w.before #[Value.ref b] s = true) : cr_XW s := ⟨va_Nw.of rfl (hts _ (by decide +kernel)), va_Nw.of rfl (hts _ (by decide +kernel)), va_Nw.of rfl (hts _ (by decide +kernel)), va_Nw.of rfl (hts _ (by decide +kernel))⟩
theorem st_el {args : Array Value} {s : State} {t : Term} {z : Int32} (hg : ∀ c ∈ flatC (Jvm.Cond.and given_1 narrow_1), c.before args s = true) (h : Cond.eq t (.int z) ∈ flatC (Jvm.Cond.and given_1 narrow_1)) : t.eval args s none [] s = some (.int z) := va_eqt (hg _ h)
set_option maxRecDepth 20000 in
theorem st_LE {args : Array Value} {s : State} (hg : ∀ c ∈ flatC (Jvm.Cond.and given_1 narrow_1), c.before args s = true) : ∀ j : Nat, j < 18 → (Term.elem (.static "CharRows" "LETTERS" "[I") (.int (Int32.ofNat j))).eval args s none [] s = some (.int (nI (cr_ltv j))) := by
  intro j hj
  rcases (show j = 0 ∨ j = 1 ∨ j = 2 ∨ j = 3 ∨ j = 4 ∨ j = 5 ∨ j = 6 ∨ j = 7 ∨ j = 8 ∨ j = 9 ∨ j = 10 ∨ j = 11 ∨ j = 12 ∨ j = 13 ∨ j = 14 ∨ j = 15 ∨ j = 16 ∨ j = 17 by omega) with rfl | rfl | rfl | rfl | rfl | rfl | rfl | rfl | rfl | rfl | rfl | rfl | rfl | rfl | rfl | rfl | rfl | rfl
  · exact st_el hg (z := nI 97) (by decide +kernel)
  · exact st_el hg (z := nI 122) (by decide +kernel)
  · exact st_el hg (z := nI 32) (by decide +kernel)
  · exact st_el hg (z := nI 224) (by decide +kernel)
  · exact st_el hg (z := nI 246) (by decide +kernel)
  · exact st_el hg (z := nI 32) (by decide +kernel)
  · exact st_el hg (z := nI 248) (by decide +kernel)
  · exact st_el hg (z := nI 254) (by decide +kernel)
  · exact st_el hg (z := nI 32) (by decide +kernel)
  · exact st_el hg (z := nI 945) (by decide +kernel)
  · exact st_el hg (z := nI 969) (by decide +kernel)
  · exact st_el hg (z := nI 32) (by decide +kernel)
  · exact st_el hg (z := nI 1072) (by decide +kernel)
  · exact st_el hg (z := nI 1103) (by decide +kernel)
  · exact st_el hg (z := nI 32) (by decide +kernel)
  · exact st_el hg (z := nI 1104) (by decide +kernel)
  · exact st_el hg (z := nI 1119) (by decide +kernel)
  · exact st_el hg (z := nI 80) (by decide +kernel)
set_option maxRecDepth 20000 in
theorem st_PA {args : Array Value} {s : State} (hg : ∀ c ∈ flatC (Jvm.Cond.and given_1 narrow_1), c.before args s = true) : ∀ j : Nat, j < 10 → (Term.elem (.static "CharRows" "PAIRS" "[I") (.int (Int32.ofNat j))).eval args s none [] s = some (.int (nI (cr_ptv j))) := by
  intro j hj
  rcases (show j = 0 ∨ j = 1 ∨ j = 2 ∨ j = 3 ∨ j = 4 ∨ j = 5 ∨ j = 6 ∨ j = 7 ∨ j = 8 ∨ j = 9 by omega) with rfl | rfl | rfl | rfl | rfl | rfl | rfl | rfl | rfl | rfl
  · exact st_el hg (z := nI 962) (by decide +kernel)
  · exact st_el hg (z := nI 963) (by decide +kernel)
  · exact st_el hg (z := nI 107) (by decide +kernel)
  · exact st_el hg (z := nI 8490) (by decide +kernel)
  · exact st_el hg (z := nI 115) (by decide +kernel)
  · exact st_el hg (z := nI 383) (by decide +kernel)
  · exact st_el hg (z := nI 229) (by decide +kernel)
  · exact st_el hg (z := nI 8491) (by decide +kernel)
  · exact st_el hg (z := nI 181) (by decide +kernel)
  · exact st_el hg (z := nI 956) (by decide +kernel)
set_option maxRecDepth 20000 in
theorem st_TB {b : Nat} {s : State} {A : Nat → Prop} (hts : ∀ w ∈ lw_tbl, w.before #[Value.ref b] s = true) (hg : ∀ c ∈ flatC (Jvm.Cond.and given_1 narrow_1), c.before #[Value.ref b] s = true) (hA0 : ∀ a : Nat, a < s.heap.size → ¬ A a) : ∃ tL tP : Nat, cr_TB tL tP A s s.heap := by
  obtain ⟨tL, e1, h1⟩ := va_Tof (tm := .static "CharRows" "LETTERS" "[I") (ty := .int) (N := 18) (f := fun j => .int (nI (cr_ltv j))) (A := A) (by omega) (hg (.arrayOf (.static "CharRows" "LETTERS" "[I") .int) (by decide +kernel)) (st_el hg (z := Int32.ofNat 18) (by decide +kernel)) (st_LE hg) hA0
  obtain ⟨tP, e2, h2⟩ := va_Tof (tm := .static "CharRows" "PAIRS" "[I") (ty := .int) (N := 10) (f := fun j => .int (nI (cr_ptv j))) (A := A) (by omega) (hg (.arrayOf (.static "CharRows" "PAIRS" "[I") .int) (by decide +kernel)) (st_el hg (z := Int32.ofNat 10) (by decide +kernel)) (st_PA hg) hA0
  exact ⟨tL, tP, va_Zref (hts _ (by decide +kernel)) (hts _ (by decide +kernel)) e1 hA0, h1, va_Zref (hts _ (by decide +kernel)) (hts _ (by decide +kernel)) e2 hA0, h2⟩
set_option maxRecDepth 20000 in
theorem st_TX {b : Nat} {s : State} {A : Nat → Prop} {cur : Nat} (hcur : s.vm.findClass RX1 = some cur) (hts : ∀ w ∈ lw_tbl, w.before #[Value.ref b] s = true) (hg : ∀ c ∈ flatC (Jvm.Cond.and given_1 narrow_1), c.before #[Value.ref b] s = true) (hA0 : ∀ a : Nat, a < s.heap.size → ¬ A a) : ∃ sa : Nat, cr_TX sa A s s.heap := by
  have hs : (Cond.stringRef RX1 25 "not a range of 0 .. 1114111").before #[Value.ref b] s = true := hts _ (by decide +kernel)
  obtain ⟨-, -, -, sa, -, -, -, -, -, hev⟩ := Cond.stringRef_spec hcur hs
  exact ⟨sa, vk_R.of hs hev, vx_Zqof (hts _ (by decide +kernel)) (hts _ (by decide +kernel)) (hg _ (by decide +kernel)) hA0, vx_Zqof (hts _ (by decide +kernel)) (hts _ (by decide +kernel)) (hg _ (by decide +kernel)) hA0, st_XW hts⟩
set_option maxHeartbeats 4000000 in
set_option maxRecDepth 100000 in
/-- THE LAW, from its entry -/
theorem whole_start {p : Program} {e : Env} {s : State} {m : MethodId} {below : List Frame} {meth : Method} {c : Code} (l : Launch) (hlt : l.stackTraces = false) {b L : Nat} {xs : Nat → Int32} (hL : L ≤ 2048) (C0 : lw_At p s m meth c b L xs) : W p l e room_1 s m #[Value.ref b] below meth c s.heap [] 0 0 (lw_Z below #[Value.ref b] s) (entryFrame m ([Value.ref b] : List Value).toArray 7) := by
  obtain ⟨hx, hb, hr, hml, hown, hts, hX, hbl, hlocks, hgv⟩ := C0
  have hg := flat_of_before _ hgv
  have hown : s.vm.findClass RL = some m.cls := hown
  have hb : c.code = cL_law := hb
  obtain ⟨A, hAe⟩ : ∃ A : Nat → Prop, A = fun q : Nat => s.heap.size ≤ q := ⟨_, rfl⟩
  have hA : ∀ q : Nat, s.heap.size ≤ q → A q := fun q h => by rw [hAe]; exact h
  have hAl : ∀ q : Nat, A q → s.heap.size ≤ q := fun q h => by rw [hAe] at h; exact h
  have hA0 : ∀ a : Nat, a < s.heap.size → ¬ A a := fun a h q => absurd (hAl a q) (Nat.not_le.mpr h)
  have hbA : ¬ A b := hA0 b hbl
  obtain ⟨c0, iS0, hKn0⟩ := u_known (C := RX0) (T := TX0) (N := 3) (n := 3) hts inC0 (hts (.instantiable RX0 3) (by decide +kernel))
  obtain ⟨c1, iS1, hKn1⟩ := u_known (C := RX1) (T := TX1) (N := 3) (n := 3) hts inC1 (hts (.instantiable RX1 3) (by decide +kernel))
  obtain ⟨c2, iS2, hKn2⟩ := u_known (C := RX2) (T := TM) (N := 15) (n := 15) hts inM (hts (.instantiable RX2 15) (by decide +kernel))
  have hN := st_NW hts
  obtain ⟨tL, tP, hT⟩ := st_TB (A := A) hts hg hA0
  obtain ⟨sa, hTX⟩ := st_TX (A := A) hKn1.2.1 hts hg hA0
  obtain ⟨dC, dI, hKc⟩ : ∃ (dC : Nat → ClassId) (dI : Nat → Nat → Nat), ∀ (k : Nat) (q : vw_C), crCl[k]? = some q → u_Kn s q.1 q.2.1 q.2.2 (dC k) (dI k) := by
    refine ⟨fun k => if k = 0 then c0 else if k = 1 then c1 else c2, fun k => if k = 0 then iS0 else if k = 1 then iS1 else iS2, ?_⟩
    intro k q hq
    match k, hq with
    | 0, hq => cases hq; exact hKn0
    | 1, hq => cases hq; exact hKn1
    | 2, hq => cases hq; exact hKn2
    | k + 3, hq => simp [crCl] at hq
  have hS : va_S A s.heap s.heap [] := va_S.rf
  have hK : va_K (dC, dI) crCl [] s := ⟨hKc, fun k q h => by simp at h⟩
  have hP : va_P (dC, dI) crCl [] s.heap := fun k q h => by simp at h
  have hD : va_D A [] := ⟨fun i j p q h => by simp at h, fun k q h => by simp at h⟩
  have hl := lv_entry ([.ref b]) (n := 7) (Nat.le_of_ble_eq_true rfl)
  rw [lg_entry_eq]
  generalize (lg_sl ([.ref b]) ++ List.replicate (7 - (lg_sl ([.ref b])).length) Slot.unset).toArray = ls at hl ⊢
  have hl : lv_has ls 7 [(0, .ref b)] := hl
  refine va_new (ci := 1) (fs := [.null, .null, .null]) (C := RX1) (T := TX1) (N := 3) hx hb hts inC1 tyX1 tyX1_ok hown (hts (.classLink RL 8 RX1) (by decide +kernel)) (hts (.instantiable RX1 3) (by decide +kernel)) (hts (.initialized RX1) (by decide +kernel)) hK hP hD hS hA rfl (fun j hj => by rcases (show j = 0 ∨ j = 1 ∨ j = 2 by omega) with rfl | rfl | rfl <;> rfl) (Nat.le_of_ble_eq_true rfl) (Nat.le_of_ble_eq_true rfl) dL_law_0 (fun x H hP hD hS => ?_)
  have hP : va_P (dC, dI) crCl [(x, .inr (1, [.null, .null, .null]))] H := hP
  have hD : va_D A [(x, .inr (1, [.null, .null, .null]))] := hD
  refine lv_dup hx hb dL_law_3 rfl ?_
  have hPc := hP.sub (ws' := [(x, .inr (1, [.null, .null, .null]))]) [0] rfl
  have hDc := hD.sub (ws' := [(x, .inr (1, [.null, .null, .null]))]) [0] (by decide) rfl
  have hKc := hK.sub (tys' := []) [] rfl
  have hFc := va_free (wc := [(x, .inr (1, [.null, .null, .null]))]) hD hS hA [0] rfl
  refine va_callv (va_runI (As := []) (rest := [.ref x]) ⟨hx, hb, hml, hown, hts⟩ (c_xinit l dC dI _ x) (cwI 0 hts (gT_of gL_law_X1_init) rfl rfl rfl (hts (.initialized RX1) (by decide +kernel)) (hts (.methodLink RL 15 yX1_init) (by decide +kernel)) (hts (.instanceMethod yX1_init) (by decide +kernel)) rfl (by decide +kernel) ⟨Nat.le_of_ble_eq_true rfl, Nat.le_of_ble_eq_true rfl⟩) (cr_preIN hN hPc hKc hDc) rfl rfl hl.1 rfl (lv_room (Nat.le_of_ble_eq_true rfl)) dL_law_4 ⟨Nat.le_of_ble_eq_true rfl, Nat.le_of_ble_eq_true rfl⟩) hS (fun q _ h => hFc q h) hFc (fun u t H1 locs ht hvm hw hB hz1 hk1 hS => ?_)
  obtain ⟨ua, cI⟩ := u
  obtain ⟨hP1, hK1, hD1⟩ := hB
  rw [ht] at hP1
  have hK1 := va_K.moved hvm.symm hK1
  obtain ⟨hP, hD⟩ := va_join (wr := []) (w1 := [(x, .inr (1, [.ref (ua 0), .ref (ua 3), .ref (ua 6)])), ((ua 0), .inr (0, [.ref (ua 1), .ref (ua 2), .int (nI 0)])), ((ua 1), .inl (cI, 768, .inl (fun _ => 0))), ((ua 2), .inl (cI, 768, .inl (fun _ => 0))), ((ua 3), .inr (0, [.ref (ua 4), .ref (ua 5), .int (nI 0)])), ((ua 4), .inl (cI, 768, .inl (fun _ => 0))), ((ua 5), .inl (cI, 768, .inl (fun _ => 0))), ((ua 6), .inr (0, [.ref (ua 7), .ref (ua 8), .int (nI 0)])), ((ua 7), .inl (cI, 768, .inl (fun _ => 0))), ((ua 8), .inl (cI, 768, .inl (fun _ => 0)))]) hP hD [0] [] rfl rfl (by decide) (by decide) hk1 hFc hP1 hD1
  have hK := hK.app hK1
  generalize H1 = H at hP hS ⊢
  have hK : va_K (dC, dI) crCl [(cI, .int)] s := hK
  have hP : va_P (dC, dI) crCl [(x, .inr (1, [.ref (ua 0), .ref (ua 3), .ref (ua 6)])), ((ua 0), .inr (0, [.ref (ua 1), .ref (ua 2), .int (nI 0)])), ((ua 1), .inl (cI, 768, .inl (fun _ => 0))), ((ua 2), .inl (cI, 768, .inl (fun _ => 0))), ((ua 3), .inr (0, [.ref (ua 4), .ref (ua 5), .int (nI 0)])), ((ua 4), .inl (cI, 768, .inl (fun _ => 0))), ((ua 5), .inl (cI, 768, .inl (fun _ => 0))), ((ua 6), .inr (0, [.ref (ua 7), .ref (ua 8), .int (nI 0)])), ((ua 7), .inl (cI, 768, .inl (fun _ => 0))), ((ua 8), .inl (cI, 768, .inl (fun _ => 0)))] H := hP
  have hD : va_D A [(x, .inr (1, [.ref (ua 0), .ref (ua 3), .ref (ua 6)])), ((ua 0), .inr (0, [.ref (ua 1), .ref (ua 2), .int (nI 0)])), ((ua 1), .inl (cI, 768, .inl (fun _ => 0))), ((ua 2), .inl (cI, 768, .inl (fun _ => 0))), ((ua 3), .inr (0, [.ref (ua 4), .ref (ua 5), .int (nI 0)])), ((ua 4), .inl (cI, 768, .inl (fun _ => 0))), ((ua 5), .inl (cI, 768, .inl (fun _ => 0))), ((ua 6), .inr (0, [.ref (ua 7), .ref (ua 8), .int (nI 0)])), ((ua 7), .inl (cI, 768, .inl (fun _ => 0))), ((ua 8), .inl (cI, 768, .inl (fun _ => 0)))] := hD
  clear hPc hDc hKc hFc hP1 hK1 hD1 hz1 hk1
  refine lv_astore_n (lv' := [(1, .ref x), (0, .ref b)]) hx hb dL_law_7 rfl hl (by decide) rfl (fun ls hl => ?_)
  refine va_new (ci := 2) (fs := [.int 0, .null, .null, .int 0, .null, .null, .int 0, .null, .null, .int 0, .null, .null, .null, .int 0, .int 0]) (C := RX2) (T := TM) (N := 15) hx hb hts inM tyM tyM_ok hown (hts (.classLink RL 16 RX2) (by decide +kernel)) (hts (.instantiable RX2 15) (by decide +kernel)) (hts (.initialized RX2) (by decide +kernel)) hK hP hD hS hA rfl (fun j hj => by rcases (show j = 0 ∨ j = 1 ∨ j = 2 ∨ j = 3 ∨ j = 4 ∨ j = 5 ∨ j = 6 ∨ j = 7 ∨ j = 8 ∨ j = 9 ∨ j = 10 ∨ j = 11 ∨ j = 12 ∨ j = 13 ∨ j = 14 by omega) with rfl | rfl | rfl | rfl | rfl | rfl | rfl | rfl | rfl | rfl | rfl | rfl | rfl | rfl | rfl <;> rfl) (Nat.le_of_ble_eq_true rfl) (Nat.le_of_ble_eq_true rfl) dL_law_8 (fun mo H hP hD hS => ?_)
  have hP : va_P (dC, dI) crCl [(x, .inr (1, [.ref (ua 0), .ref (ua 3), .ref (ua 6)])), ((ua 0), .inr (0, [.ref (ua 1), .ref (ua 2), .int (nI 0)])), ((ua 1), .inl (cI, 768, .inl (fun _ => 0))), ((ua 2), .inl (cI, 768, .inl (fun _ => 0))), ((ua 3), .inr (0, [.ref (ua 4), .ref (ua 5), .int (nI 0)])), ((ua 4), .inl (cI, 768, .inl (fun _ => 0))), ((ua 5), .inl (cI, 768, .inl (fun _ => 0))), ((ua 6), .inr (0, [.ref (ua 7), .ref (ua 8), .int (nI 0)])), ((ua 7), .inl (cI, 768, .inl (fun _ => 0))), ((ua 8), .inl (cI, 768, .inl (fun _ => 0))), (mo, .inr (2, [.int 0, .null, .null, .int 0, .null, .null, .int 0, .null, .null, .int 0, .null, .null, .null, .int 0, .int 0]))] H := hP
  have hD : va_D A [(x, .inr (1, [.ref (ua 0), .ref (ua 3), .ref (ua 6)])), ((ua 0), .inr (0, [.ref (ua 1), .ref (ua 2), .int (nI 0)])), ((ua 1), .inl (cI, 768, .inl (fun _ => 0))), ((ua 2), .inl (cI, 768, .inl (fun _ => 0))), ((ua 3), .inr (0, [.ref (ua 4), .ref (ua 5), .int (nI 0)])), ((ua 4), .inl (cI, 768, .inl (fun _ => 0))), ((ua 5), .inl (cI, 768, .inl (fun _ => 0))), ((ua 6), .inr (0, [.ref (ua 7), .ref (ua 8), .int (nI 0)])), ((ua 7), .inl (cI, 768, .inl (fun _ => 0))), ((ua 8), .inl (cI, 768, .inl (fun _ => 0))), (mo, .inr (2, [.int 0, .null, .null, .int 0, .null, .null, .int 0, .null, .null, .int 0, .null, .null, .null, .int 0, .int 0]))] := hD
  refine lv_dup hx hb dL_law_11 rfl ?_
  have hPc := hP.sub (ws' := [(mo, .inr (2, [.int 0, .null, .null, .int 0, .null, .null, .int 0, .null, .null, .int 0, .null, .null, .null, .int 0, .int 0]))]) [10] rfl
  have hDc := hD.sub (ws' := [(mo, .inr (2, [.int 0, .null, .null, .int 0, .null, .null, .int 0, .null, .null, .int 0, .null, .null, .null, .int 0, .int 0]))]) [10] (by decide) rfl
  have hKc := hK.sub (tys' := []) [] rfl
  have hFc := va_free (wc := [(mo, .inr (2, [.int 0, .null, .null, .int 0, .null, .null, .int 0, .null, .null, .int 0, .null, .null, .null, .int 0, .int 0]))]) hD hS hA [10] rfl
  refine va_callv (va_runI (As := []) (rest := [.ref mo]) ⟨hx, hb, hml, hown, hts⟩ (m_init l dC dI _ mo) (cwI 0 hts gT_c_init rfl rfl rfl (hts (.initialized RX2) (by decide +kernel)) (hts (.methodLink RL 18 yM_init) (by decide +kernel)) (hts (.instanceMethod yM_init) (by decide +kernel)) rfl (by decide +kernel) ⟨Nat.le_of_ble_eq_true rfl, Nat.le_of_ble_eq_true rfl⟩) (cr_preI hPc hKc hDc) rfl rfl hl.1 rfl (lv_room (Nat.le_of_ble_eq_true rfl)) dL_law_12 ⟨Nat.le_of_ble_eq_true rfl, Nat.le_of_ble_eq_true rfl⟩) hS (fun q _ h => hFc q h) hFc (fun u t H1 locs ht hvm hw hB hz1 hk1 hS => ?_)
  obtain ⟨ub, cI2, cZ⟩ := u
  obtain ⟨hP1, hK1, hD1⟩ := hB
  rw [ht] at hP1
  have hK1 := va_K.moved hvm.symm hK1
  obtain ⟨hP, hD⟩ := va_join (wr := [(x, .inr (1, [.ref (ua 0), .ref (ua 3), .ref (ua 6)])), ((ua 0), .inr (0, [.ref (ua 1), .ref (ua 2), .int (nI 0)])), ((ua 1), .inl (cI, 768, .inl (fun _ => 0))), ((ua 2), .inl (cI, 768, .inl (fun _ => 0))), ((ua 3), .inr (0, [.ref (ua 4), .ref (ua 5), .int (nI 0)])), ((ua 4), .inl (cI, 768, .inl (fun _ => 0))), ((ua 5), .inl (cI, 768, .inl (fun _ => 0))), ((ua 6), .inr (0, [.ref (ua 7), .ref (ua 8), .int (nI 0)])), ((ua 7), .inl (cI, 768, .inl (fun _ => 0))), ((ua 8), .inl (cI, 768, .inl (fun _ => 0)))]) (w1 := [(mo, .inr (2, [.int 0, .ref (ub 0), .ref (ub 1), .int 0, .ref (ub 2), .ref (ub 3), .int 0, .ref (ub 4), .ref (ub 5), .int 0, .ref (ub 6), .ref (ub 7), .ref (ub 8), .int 0, .int 0])), ((ub 0), .inl (cI2, 2400, .inl (fun _ => 0))), ((ub 1), .inl (cI2, 2400, .inl (fun _ => 0))), ((ub 2), .inl (cI2, 2400, .inl (fun _ => 0))), ((ub 3), .inl (cI2, 2400, .inl (fun _ => 0))), ((ub 4), .inl (cI2, 4800, .inl (fun _ => 0))), ((ub 5), .inl (cI2, 4800, .inl (fun _ => 0))), ((ub 6), .inl (cZ, 1120, .inl (fun _ => 0))), ((ub 7), .inl (cI2, 4, .inl (fun _ => 0))), ((ub 8), .inl (cI2, 4, .inl (fun _ => 0)))]) hP hD [10] [0, 1, 2, 3, 4, 5, 6, 7, 8, 9] rfl rfl (by decide) (by decide) hk1 hFc hP1 hD1
  have hK := hK.app hK1
  generalize H1 = H at hP hS ⊢
  have hK : va_K (dC, dI) crCl [(cI, .int), (cI2, .int), (cZ, .boolean)] s := hK
  obtain rfl : cI = cI2 := cr_sameA hK 0 1 rfl rfl
  have hP : va_P (dC, dI) crCl [(x, .inr (1, [.ref (ua 0), .ref (ua 3), .ref (ua 6)])), ((ua 0), .inr (0, [.ref (ua 1), .ref (ua 2), .int (nI 0)])), ((ua 1), .inl (cI, 768, .inl (fun _ => 0))), ((ua 2), .inl (cI, 768, .inl (fun _ => 0))), ((ua 3), .inr (0, [.ref (ua 4), .ref (ua 5), .int (nI 0)])), ((ua 4), .inl (cI, 768, .inl (fun _ => 0))), ((ua 5), .inl (cI, 768, .inl (fun _ => 0))), ((ua 6), .inr (0, [.ref (ua 7), .ref (ua 8), .int (nI 0)])), ((ua 7), .inl (cI, 768, .inl (fun _ => 0))), ((ua 8), .inl (cI, 768, .inl (fun _ => 0))), (mo, .inr (2, [.int 0, .ref (ub 0), .ref (ub 1), .int (nI 0), .ref (ub 2), .ref (ub 3), .int (nI 0), .ref (ub 4), .ref (ub 5), .int (nI 0), .ref (ub 6), .ref (ub 7), .ref (ub 8), .int 0, .int 0])), ((ub 0), .inl (cI, 2400, .inl (fun _ => 0))), ((ub 1), .inl (cI, 2400, .inl (fun _ => 0))), ((ub 2), .inl (cI, 2400, .inl (fun _ => 0))), ((ub 3), .inl (cI, 2400, .inl (fun _ => 0))), ((ub 4), .inl (cI, 4800, .inl (fun _ => 0))), ((ub 5), .inl (cI, 4800, .inl (fun _ => 0))), ((ub 6), .inl (cZ, 1120, .inl (fun _ => 0))), ((ub 7), .inl (cI, 4, .inl (fun _ => 0))), ((ub 8), .inl (cI, 4, .inl (fun _ => 0)))] H := hP
  have hD : va_D A [(x, .inr (1, [.ref (ua 0), .ref (ua 3), .ref (ua 6)])), ((ua 0), .inr (0, [.ref (ua 1), .ref (ua 2), .int (nI 0)])), ((ua 1), .inl (cI, 768, .inl (fun _ => 0))), ((ua 2), .inl (cI, 768, .inl (fun _ => 0))), ((ua 3), .inr (0, [.ref (ua 4), .ref (ua 5), .int (nI 0)])), ((ua 4), .inl (cI, 768, .inl (fun _ => 0))), ((ua 5), .inl (cI, 768, .inl (fun _ => 0))), ((ua 6), .inr (0, [.ref (ua 7), .ref (ua 8), .int (nI 0)])), ((ua 7), .inl (cI, 768, .inl (fun _ => 0))), ((ua 8), .inl (cI, 768, .inl (fun _ => 0))), (mo, .inr (2, [.int 0, .ref (ub 0), .ref (ub 1), .int (nI 0), .ref (ub 2), .ref (ub 3), .int (nI 0), .ref (ub 4), .ref (ub 5), .int (nI 0), .ref (ub 6), .ref (ub 7), .ref (ub 8), .int 0, .int 0])), ((ub 0), .inl (cI, 2400, .inl (fun _ => 0))), ((ub 1), .inl (cI, 2400, .inl (fun _ => 0))), ((ub 2), .inl (cI, 2400, .inl (fun _ => 0))), ((ub 3), .inl (cI, 2400, .inl (fun _ => 0))), ((ub 4), .inl (cI, 4800, .inl (fun _ => 0))), ((ub 5), .inl (cI, 4800, .inl (fun _ => 0))), ((ub 6), .inl (cZ, 1120, .inl (fun _ => 0))), ((ub 7), .inl (cI, 4, .inl (fun _ => 0))), ((ub 8), .inl (cI, 4, .inl (fun _ => 0)))] := hD
  have hK := hK.sub (tys' := [(cI, .int), (cZ, .boolean)]) [0, 2] rfl
  clear hPc hDc hKc hFc hP1 hK1 hD1 hz1 hk1
  refine lv_astore_n (lv' := [(2, .ref mo), (1, .ref x), (0, .ref b)]) hx hb dL_law_15 rfl hl (by decide) rfl (fun ls hl => ?_)
  refine lv_iconst (v := nI 1) hx hb dL_law_16 (by decide) ?_
  refine va_newa (atype := .long) (ty := .long) (a0 := (1, .inr (.inl (fun _ => 0)))) (N' := 1) hx hb (hts (.arrayClass .long) (by decide +kernel)) rfl hK hP hD hS hA (fun _ => rfl) (nI_pos (by omega)) (nI_clamp (by omega)) (by decide) (Nat.le_of_ble_eq_true rfl) (Nat.le_of_ble_eq_true rfl) dL_law_17 (fun out cJ H hK hP hD hS => ?_)
  have hP : va_P (dC, dI) crCl [(x, .inr (1, [.ref (ua 0), .ref (ua 3), .ref (ua 6)])), ((ua 0), .inr (0, [.ref (ua 1), .ref (ua 2), .int (nI 0)])), ((ua 1), .inl (cI, 768, .inl (fun _ => 0))), ((ua 2), .inl (cI, 768, .inl (fun _ => 0))), ((ua 3), .inr (0, [.ref (ua 4), .ref (ua 5), .int (nI 0)])), ((ua 4), .inl (cI, 768, .inl (fun _ => 0))), ((ua 5), .inl (cI, 768, .inl (fun _ => 0))), ((ua 6), .inr (0, [.ref (ua 7), .ref (ua 8), .int (nI 0)])), ((ua 7), .inl (cI, 768, .inl (fun _ => 0))), ((ua 8), .inl (cI, 768, .inl (fun _ => 0))), (mo, .inr (2, [.int 0, .ref (ub 0), .ref (ub 1), .int (nI 0), .ref (ub 2), .ref (ub 3), .int (nI 0), .ref (ub 4), .ref (ub 5), .int (nI 0), .ref (ub 6), .ref (ub 7), .ref (ub 8), .int 0, .int 0])), ((ub 0), .inl (cI, 2400, .inl (fun _ => 0))), ((ub 1), .inl (cI, 2400, .inl (fun _ => 0))), ((ub 2), .inl (cI, 2400, .inl (fun _ => 0))), ((ub 3), .inl (cI, 2400, .inl (fun _ => 0))), ((ub 4), .inl (cI, 4800, .inl (fun _ => 0))), ((ub 5), .inl (cI, 4800, .inl (fun _ => 0))), ((ub 6), .inl (cZ, 1120, .inl (fun _ => 0))), ((ub 7), .inl (cI, 4, .inl (fun _ => 0))), ((ub 8), .inl (cI, 4, .inl (fun _ => 0))), (out, .inl (cJ, 1, .inr (.inl (fun _ => 0))))] H := hP
  have hD : va_D A [(x, .inr (1, [.ref (ua 0), .ref (ua 3), .ref (ua 6)])), ((ua 0), .inr (0, [.ref (ua 1), .ref (ua 2), .int (nI 0)])), ((ua 1), .inl (cI, 768, .inl (fun _ => 0))), ((ua 2), .inl (cI, 768, .inl (fun _ => 0))), ((ua 3), .inr (0, [.ref (ua 4), .ref (ua 5), .int (nI 0)])), ((ua 4), .inl (cI, 768, .inl (fun _ => 0))), ((ua 5), .inl (cI, 768, .inl (fun _ => 0))), ((ua 6), .inr (0, [.ref (ua 7), .ref (ua 8), .int (nI 0)])), ((ua 7), .inl (cI, 768, .inl (fun _ => 0))), ((ua 8), .inl (cI, 768, .inl (fun _ => 0))), (mo, .inr (2, [.int 0, .ref (ub 0), .ref (ub 1), .int (nI 0), .ref (ub 2), .ref (ub 3), .int (nI 0), .ref (ub 4), .ref (ub 5), .int (nI 0), .ref (ub 6), .ref (ub 7), .ref (ub 8), .int 0, .int 0])), ((ub 0), .inl (cI, 2400, .inl (fun _ => 0))), ((ub 1), .inl (cI, 2400, .inl (fun _ => 0))), ((ub 2), .inl (cI, 2400, .inl (fun _ => 0))), ((ub 3), .inl (cI, 2400, .inl (fun _ => 0))), ((ub 4), .inl (cI, 4800, .inl (fun _ => 0))), ((ub 5), .inl (cI, 4800, .inl (fun _ => 0))), ((ub 6), .inl (cZ, 1120, .inl (fun _ => 0))), ((ub 7), .inl (cI, 4, .inl (fun _ => 0))), ((ub 8), .inl (cI, 4, .inl (fun _ => 0))), (out, .inl (cJ, 1, .inr (.inl (fun _ => 0))))] := hD
  have hK : va_K (dC, dI) crCl [(cI, .int), (cZ, .boolean), (cJ, .long)] s := hK
  refine lv_astore_n (lv' := [(3, .ref out), (2, .ref mo), (1, .ref x), (0, .ref b)]) hx hb dL_law_19 rfl hl (by decide) rfl (fun ls hl => ?_)
  refine lv_iconst (v := nI 0) hx hb dL_law_20 (by decide) ?_
  refine lv_istore (lv' := [(4, .int (nI 0)), (3, .ref out), (2, .ref mo), (1, .ref x), (0, .ref b)]) hx hb dL_law_21 hl (by decide) rfl (fun ls hl => ?_)
  refine W.widen (k := 22 + 2 * 0) (n := 24970 + 16 * 0) (by omega) (by omega) ?_
  refine lw_loop (dC := dC) (dI := dI) hr hlocks hAl ⟨hlt, hx, hb, hml, hown, hts, hX, hbl, hA, hbA, hN, hT, hTX⟩ hL (L + 1) 0 (by omega) (by omega) H locs ls ?_
  have h0 : (0 : Nat) ∈ cr_base ++ cr_F := List.mem_append_left _ (by decide)
  exact fun C k9 => k9 x (ua 0) (ua 3) (ua 6) (ua 1) (ua 2) (ua 4) (ua 5) (ua 7) (ua 8) mo (ub 0) (ub 1) (ub 2) (ub 3) (ub 4) (ub 5) (ub 6) (ub 7) (ub 8) out cI cZ cJ 0 0 (nI 0) 0 0 0 (fun _ => 0) (fun _ => 0) (fun _ => 0) (fun _ => 0) (fun _ => 0) (fun _ => 0) (fun _ => 0) (fun _ => 0) (fun _ => 0) (fun _ => 0) (fun _ => 0) (fun _ => 0) (fun _ => 0) (fun _ => 0) (fun _ => 0) (fun _ => 0) (fun _ => False) (fun _ => False) (cr_base ++ cr_F) ⟨cr_Set.zero, cr_Set.zero, cr_Set.zero, cr_Set.zero, cr_Bd.none h0, cr_Bd.none h0, fun c h => List.mem_append_left _ h, fun c h => List.mem_append_right _ h, Nat.le_of_eq cr_lenB⟩ hK hP hD hS (lv_sub hl [4, 3, 2, 1, 0] rfl)
