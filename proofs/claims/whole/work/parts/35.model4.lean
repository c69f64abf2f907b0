set_option maxHeartbeats 4000000 in
set_option maxRecDepth 100000 in
theorem m_runs (l : Launch) (dC : Nat → ClassId) (dI : Nat → Nat → Nat) (sz : Nat) (mo l1 l2 l3 l4 l5 l6 l7 l8 l9 : Nat) (cI cZ : ClassId) (th by0 fd : Int32) (n nk mn : Nat) (f g kf kg ef eg mt fr tt : Nat → Int32) (c0 e0 : Nat) (hce : c0 ≤ e0) (he : e0 ≤ 1114111) : Met l yM_runs wsM_runs ({ frames := 4, cells := 0, slots := 0, locals := 140 }) (va_Pc [.ref mo, .int (nI c0), .int (nI e0)] (cr_pre dC dI [(cI, .int), (cZ, .boolean)] [(mo, .inr (2, [.int th, .ref l1, .ref l2, .int (nI n), .ref l3, .ref l4, .int (nI nk), .ref l5, .ref l6, .int (nI mn), .ref l7, .ref l8, .ref l9, .int by0, .int fd])), (l1, .inl (cI, 2400, .inl f)), (l2, .inl (cI, 2400, .inl g)), (l3, .inl (cI, 2400, .inl kf)), (l4, .inl (cI, 2400, .inl kg)), (l5, .inl (cI, 4800, .inl ef)), (l6, .inl (cI, 4800, .inl eg)), (l7, .inl (cZ, 1120, .inl mt)), (l8, .inl (cI, 4, .inl fr)), (l9, .inl (cI, 4, .inl tt))] sz)) (va_Qi (fun (rr : Int32) (u : va_W) => rr = nI (cr_last c0 e0) ∧ ∃ (b' : Int32) (fr' tt' : Nat → Int32), u = [(mo, .inr (2, [.int th, .ref l1, .ref l2, .int (nI n), .ref l3, .ref l4, .int (nI nk), .ref l5, .ref l6, .int (nI mn), .ref l7, .ref l8, .ref l9, .int b', .int fd])), (l1, .inl (cI, 2400, .inl f)), (l2, .inl (cI, 2400, .inl g)), (l3, .inl (cI, 2400, .inl kf)), (l4, .inl (cI, 2400, .inl kg)), (l5, .inl (cI, 4800, .inl ef)), (l6, .inl (cI, 4800, .inl eg)), (l7, .inl (cZ, 1120, .inl mt)), (l8, .inl (cI, 4, .inl fr')), (l9, .inl (cI, 4, .inl tt'))]) (cr_at dC dI [(cI, .int), (cZ, .boolean)] (va_A [(mo, .inr (2, [.int th, .ref l1, .ref l2, .int (nI n), .ref l3, .ref l4, .int (nI nk), .ref l5, .ref l6, .int (nI mn), .ref l7, .ref l8, .ref l9, .int by0, .int fd])), (l1, .inl (cI, 2400, .inl f)), (l2, .inl (cI, 2400, .inl g)), (l3, .inl (cI, 2400, .inl kf)), (l4, .inl (cI, 2400, .inl kg)), (l5, .inl (cI, 4800, .inl ef)), (l6, .inl (cI, 4800, .inl eg)), (l7, .inl (cZ, 1120, .inl mt)), (l8, .inl (cI, 4, .inl fr)), (l9, .inl (cI, 4, .inl tt))] sz)) (va_A [(mo, .inr (2, [.int th, .ref l1, .ref l2, .int (nI n), .ref l3, .ref l4, .int (nI nk), .ref l5, .ref l6, .int (nI mn), .ref l7, .ref l8, .ref l9, .int by0, .int fd])), (l1, .inl (cI, 2400, .inl f)), (l2, .inl (cI, 2400, .inl g)), (l3, .inl (cI, 2400, .inl kf)), (l4, .inl (cI, 2400, .inl kg)), (l5, .inl (cI, 4800, .inl ef)), (l6, .inl (cI, 4800, .inl eg)), (l7, .inl (cZ, 1120, .inl mt)), (l8, .inl (cI, 4, .inl fr)), (l9, .inl (cI, 4, .inl tt))] sz)) 0 0 (va_A [(mo, .inr (2, [.int th, .ref l1, .ref l2, .int (nI n), .ref l3, .ref l4, .int (nI nk), .ref l5, .ref l6, .int (nI mn), .ref l7, .ref l8, .ref l9, .int by0, .int fd])), (l1, .inl (cI, 2400, .inl f)), (l2, .inl (cI, 2400, .inl g)), (l3, .inl (cI, 2400, .inl kf)), (l4, .inl (cI, 2400, .inl kg)), (l5, .inl (cI, 4800, .inl ef)), (l6, .inl (cI, 4800, .inl eg)), (l7, .inl (cZ, 1120, .inl mt)), (l8, .inl (cI, 4, .inl fr)), (l9, .inl (cI, 4, .inl tt))] sz) := by
  refine Met.ofW (cc := cM_runs) (maxL := 7) (ret := (some .int)) (by decide) rfl ?_
  intro p e s m args below meth c s₁ B hml hv
  obtain ⟨rfl, hsz, hP, hK, hD0⟩ := hv
  have hx := B.exec
  have hb := B.bytes
  have hr := B.returns
  have hts := atoms_spec (ws := wsM_runs) B.pre
  have hown : s.vm.findClass RX2 = some m.cls := findClass_of_methodNamed B.named
  have hlocks := B.notSynchronized
  subst hsz
  have hD := hD0.self (sz := s.heap.size)
  generalize hAe : va_A [(mo, .inr (2, [.int th, .ref l1, .ref l2, .int (nI n), .ref l3, .ref l4, .int (nI nk), .ref l5, .ref l6, .int (nI mn), .ref l7, .ref l8, .ref l9, .int by0, .int fd])), (l1, .inl (cI, 2400, .inl f)), (l2, .inl (cI, 2400, .inl g)), (l3, .inl (cI, 2400, .inl kf)), (l4, .inl (cI, 2400, .inl kg)), (l5, .inl (cI, 4800, .inl ef)), (l6, .inl (cI, 4800, .inl eg)), (l7, .inl (cZ, 1120, .inl mt)), (l8, .inl (cI, 4, .inl fr)), (l9, .inl (cI, 4, .inl tt))] s.heap.size = A at hD ⊢
  have hA : ∀ q : Nat, s.heap.size ≤ q → A q := fun q h => by rw [← hAe]; exact Or.inr h
  have hS : va_S A s.heap s.heap [] := va_S.rf
  have hP : va_P (dC, dI) crCl [(mo, .inr (2, [.int th, .ref l1, .ref l2, .int (nI n), .ref l3, .ref l4, .int (nI nk), .ref l5, .ref l6, .int (nI mn), .ref l7, .ref l8, .ref l9, .int by0, .int fd])), (l1, .inl (cI, 2400, .inl f)), (l2, .inl (cI, 2400, .inl g)), (l3, .inl (cI, 2400, .inl kf)), (l4, .inl (cI, 2400, .inl kg)), (l5, .inl (cI, 4800, .inl ef)), (l6, .inl (cI, 4800, .inl eg)), (l7, .inl (cZ, 1120, .inl mt)), (l8, .inl (cI, 4, .inl fr)), (l9, .inl (cI, 4, .inl tt))] s.heap := hP
  have hl := lv_entry ([.ref mo, .int (nI c0), .int (nI e0)]) (n := 7) (Nat.le_of_ble_eq_true rfl)
  rw [lg_entry_eq]
  generalize (lg_sl ([.ref mo, .int (nI c0), .int (nI e0)]) ++ List.replicate (7 - (lg_sl ([.ref mo, .int (nI c0), .int (nI e0)])).length) Slot.unset).toArray = ls at hl ⊢
  have hl : lv_has ls 7 [(0, .ref mo), (1, .int (nI c0)), (2, .int (nI e0))] := hl
  have hlc := cr_len_le c0
  have hll : cr_lol (cr_len c0) ≤ 1114111 := cr_lol_le _
  have ho1 := cr_one_0 c0
  have ho2 := cr_one_1 c0
  have ho3 := cr_one_2 c0
  have ho4 := cr_one_3 c0
  have hn0 := cr_bnd_0 e0
  have hn1 := cr_bnd_1 e0
  have hn2 := cr_bnd_2 e0
  have hn3 := cr_bnd_3 e0
  refine lv_iload_n hx hb dM_runs_0 rfl (lv_at hl 1 rfl) ?_
  refine lv_istore_n (lv' := [(3, .int (nI c0)), (0, .ref mo), (1, .int (nI c0)), (2, .int (nI e0))]) hx hb dM_runs_1 rfl hl (by decide) rfl (fun ls hl => ?_)
  refine lv_iconst (v := nI 0) hx hb dM_runs_2 (by decide) ?_
  refine lv_istore (lv' := [(4, .int (nI 0)), (3, .int (nI c0)), (0, .ref mo), (1, .int (nI c0)), (2, .int (nI e0))]) hx hb dM_runs_3 hl (by decide) rfl (fun ls hl => ?_)
  refine cr_lp5 (fun (t : Nat) (bs : Nat) (b1 : Int32) (fr1 : Nat → Int32) (tt1 : Nat → Int32) => 4 - t) (fun (t : Nat) (bs : Nat) (b1 : Int32) (fr1 : Nat → Int32) (tt1 : Nat → Int32) H locs ls => (t ≤ 4 ∧ cr_Bs c0 e0 bs ∧ cr_U c0 e0 bs t) ∧ va_P (dC, dI) crCl [(mo, .inr (2, [.int th, .ref l1, .ref l2, .int (nI n), .ref l3, .ref l4, .int (nI nk), .ref l5, .ref l6, .int (nI mn), .ref l7, .ref l8, .ref l9, .int b1, .int fd])), (l1, .inl (cI, 2400, .inl f)), (l2, .inl (cI, 2400, .inl g)), (l3, .inl (cI, 2400, .inl kf)), (l4, .inl (cI, 2400, .inl kg)), (l5, .inl (cI, 4800, .inl ef)), (l6, .inl (cI, 4800, .inl eg)), (l7, .inl (cZ, 1120, .inl mt)), (l8, .inl (cI, 4, .inl fr1)), (l9, .inl (cI, 4, .inl tt1))] H ∧ va_D A [(mo, .inr (2, [.int th, .ref l1, .ref l2, .int (nI n), .ref l3, .ref l4, .int (nI nk), .ref l5, .ref l6, .int (nI mn), .ref l7, .ref l8, .ref l9, .int b1, .int fd])), (l1, .inl (cI, 2400, .inl f)), (l2, .inl (cI, 2400, .inl g)), (l3, .inl (cI, 2400, .inl kf)), (l4, .inl (cI, 2400, .inl kg)), (l5, .inl (cI, 4800, .inl ef)), (l6, .inl (cI, 4800, .inl eg)), (l7, .inl (cZ, 1120, .inl mt)), (l8, .inl (cI, 4, .inl fr1)), (l9, .inl (cI, 4, .inl tt1))] ∧ va_S A s.heap H locs ∧ lv_has ls 7 [(0, .ref mo), (1, .int (nI c0)), (2, .int (nI e0)), (3, .int (nI bs)), (4, .int (nI t))]) ?_ 0 c0 by0 fr tt ⟨⟨Nat.zero_le _, ⟨Nat.le_refl _, hce, cr_row_self (by omega)⟩, fun q hq => absurd hq (Nat.not_lt_zero q)⟩, hP, hD, hS, lv_sub hl [2, 3, 4, 1, 0] rfl⟩
  intro t bs b1 fr1 tt1 H locs ls hI5 ih5
  obtain ⟨⟨h0, hB, hU⟩, hP, hD, hS, hl⟩ := hI5
  obtain ⟨hB1, hB2, hB3⟩ := id hB
  refine lv_iload hx hb dM_runs_5 (lv_at hl 4 rfl) ?_
  refine lv_iconst (v := nI 4) hx hb dM_runs_7 (by decide) ?_
  refine lv_icmp_ge (tgt := 107) hx hb dM_runs_8 (by decide) (fun c_8 => ?_) (fun c_8 => ?_)
  · rw [nI_leI (by omega) (by omega)] at c_8
    have hU4 : cr_U c0 e0 bs 4 := by rw [show 4 = t from (by omega)]; exact hU
    refine cr_cut1 151 [] (fun (zz : Nat) H locs ls => (zz = 0) ∧ va_P (dC, dI) crCl [(mo, .inr (2, [.int th, .ref l1, .ref l2, .int (nI n), .ref l3, .ref l4, .int (nI nk), .ref l5, .ref l6, .int (nI mn), .ref l7, .ref l8, .ref l9, .int b1, .int fd])), (l1, .inl (cI, 2400, .inl f)), (l2, .inl (cI, 2400, .inl g)), (l3, .inl (cI, 2400, .inl kf)), (l4, .inl (cI, 2400, .inl kg)), (l5, .inl (cI, 4800, .inl ef)), (l6, .inl (cI, 4800, .inl eg)), (l7, .inl (cZ, 1120, .inl mt)), (l8, .inl (cI, 4, .inl fr1)), (l9, .inl (cI, 4, .inl tt1))] H ∧ va_D A [(mo, .inr (2, [.int th, .ref l1, .ref l2, .int (nI n), .ref l3, .ref l4, .int (nI nk), .ref l5, .ref l6, .int (nI mn), .ref l7, .ref l8, .ref l9, .int b1, .int fd])), (l1, .inl (cI, 2400, .inl f)), (l2, .inl (cI, 2400, .inl g)), (l3, .inl (cI, 2400, .inl kf)), (l4, .inl (cI, 2400, .inl kg)), (l5, .inl (cI, 4800, .inl ef)), (l6, .inl (cI, 4800, .inl eg)), (l7, .inl (cZ, 1120, .inl mt)), (l8, .inl (cI, 4, .inl fr1)), (l9, .inl (cI, 4, .inl tt1))] ∧ va_S A s.heap H locs ∧ lv_has ls 7 [(0, .ref mo), (1, .int (nI c0)), (2, .int (nI e0)), (3, .int (nI bs)), (4, .int (nI (cr_lol (cr_len c0))))]) ?_ (fun jn151 => ?_)
    · intro zz H locs ls hJ151
      obtain ⟨hzz, hP, hD, hS, hl⟩ := hJ151
      refine lv_iconst (v := nI 0) hx hb dM_runs_151 (by decide) ?_
      refine lv_istore (lv' := [(5, .int (nI 0)), (0, .ref mo), (1, .int (nI c0)), (2, .int (nI e0)), (3, .int (nI bs)), (4, .int (nI (cr_lol (cr_len c0))))]) hx hb dM_runs_152 hl (by decide) rfl (fun ls hl => ?_)
      refine cr_lp5 (fun (t : Nat) (bs : Nat) (b1 : Int32) (fr1 : Nat → Int32) (tt1 : Nat → Int32) => 4 - t) (fun (t : Nat) (bs : Nat) (b1 : Int32) (fr1 : Nat → Int32) (tt1 : Nat → Int32) H locs ls => (t ≤ 4 ∧ cr_Bs c0 e0 bs ∧ cr_U c0 e0 bs 4 ∧ cr_U2 c0 e0 bs t) ∧ va_P (dC, dI) crCl [(mo, .inr (2, [.int th, .ref l1, .ref l2, .int (nI n), .ref l3, .ref l4, .int (nI nk), .ref l5, .ref l6, .int (nI mn), .ref l7, .ref l8, .ref l9, .int b1, .int fd])), (l1, .inl (cI, 2400, .inl f)), (l2, .inl (cI, 2400, .inl g)), (l3, .inl (cI, 2400, .inl kf)), (l4, .inl (cI, 2400, .inl kg)), (l5, .inl (cI, 4800, .inl ef)), (l6, .inl (cI, 4800, .inl eg)), (l7, .inl (cZ, 1120, .inl mt)), (l8, .inl (cI, 4, .inl fr1)), (l9, .inl (cI, 4, .inl tt1))] H ∧ va_D A [(mo, .inr (2, [.int th, .ref l1, .ref l2, .int (nI n), .ref l3, .ref l4, .int (nI nk), .ref l5, .ref l6, .int (nI mn), .ref l7, .ref l8, .ref l9, .int b1, .int fd])), (l1, .inl (cI, 2400, .inl f)), (l2, .inl (cI, 2400, .inl g)), (l3, .inl (cI, 2400, .inl kf)), (l4, .inl (cI, 2400, .inl kg)), (l5, .inl (cI, 4800, .inl ef)), (l6, .inl (cI, 4800, .inl eg)), (l7, .inl (cZ, 1120, .inl mt)), (l8, .inl (cI, 4, .inl fr1)), (l9, .inl (cI, 4, .inl tt1))] ∧ va_S A s.heap H locs ∧ lv_has ls 7 [(0, .ref mo), (1, .int (nI c0)), (2, .int (nI e0)), (3, .int (nI bs)), (4, .int (nI (cr_lol (cr_len c0)))), (5, .int (nI t))]) ?_ 0 bs b1 fr1 tt1 ⟨⟨Nat.zero_le _, hB, hU4, fun q hq => absurd hq (Nat.not_lt_zero q)⟩, hP, hD, hS, lv_sub hl [1, 2, 3, 4, 5, 0] rfl⟩
      intro t bs b1 fr1 tt1 H locs ls hI154 ih154
      obtain ⟨⟨h0, hB, hU, hV⟩, hP, hD, hS, hl⟩ := hI154
      obtain ⟨hB1, hB2, hB3⟩ := id hB
      have hn0 := cr_bnd_0 (cr_lol (cr_len c0))
      have hn1 := cr_bnd_1 (cr_lol (cr_len c0))
      have hn2 := cr_bnd_2 (cr_lol (cr_len c0))
      have hn3 := cr_bnd_3 (cr_lol (cr_len c0))
      refine lv_iload hx hb dM_runs_154 (lv_at hl 5 rfl) ?_
      refine lv_iconst (v := nI 4) hx hb dM_runs_156 (by decide) ?_
      refine lv_icmp_ge (tgt := 215) hx hb dM_runs_157 (by decide) (fun c_157 => ?_) (fun c_157 => ?_)
      · rw [nI_leI (by omega) (by omega)] at c_157
        refine lv_iload_n hx hb dM_runs_215 rfl (lv_at hl 3 rfl) ?_
        exact W.iret (v := nI bs) hx hb hr (fun t9 ht9 hW9 => ⟨⟨nI bs, [(mo, .inr (2, [.int th, .ref l1, .ref l2, .int (nI n), .ref l3, .ref l4, .int (nI nk), .ref l5, .ref l6, .int (nI mn), .ref l7, .ref l8, .ref l9, .int b1, .int fd])), (l1, .inl (cI, 2400, .inl f)), (l2, .inl (cI, 2400, .inl g)), (l3, .inl (cI, 2400, .inl kf)), (l4, .inl (cI, 2400, .inl kg)), (l5, .inl (cI, 4800, .inl ef)), (l6, .inl (cI, 4800, .inl eg)), (l7, .inl (cZ, 1120, .inl mt)), (l8, .inl (cI, 4, .inl fr1)), (l9, .inl (cI, 4, .inl tt1))], rfl, ⟨congrArg nI (cr_runs_end hce he hU (by rw [show 4 = t from (by omega)]; exact hV) hB), _, _, _, rfl⟩, by rw [ht9]; exact hP, va_K.moved hW9.alike hK, hD⟩, hS.F ht9⟩) hS.2.2 dM_runs_216
      · rw [nI_leI (by omega) (by omega)] at c_157
        rcases (show t = 0 ∨ t = 1 ∨ t = 2 ∨ t = 3 by omega) with rfl | rfl | rfl | rfl
        · refine lv_iload hx hb dM_runs_160 (lv_at hl 4 rfl) ?_
          refine lv_iconst (v := nI 1) hx hb dM_runs_162 (by decide) ?_
          refine lv_iadd hx hb dM_runs_163 ?_
          refine cr_top (y := nI ((cr_lol (cr_len c0)) + 1)) (nI_add (cr_lol (cr_len c0)) 1) ?_
          refine lv_bipush (v := nI 6) hx hb dM_runs_164 (by decide) ?_
          refine lv_iload hx hb dM_runs_166 (lv_at hl 5 rfl) ?_
          refine lv_imul hx hb dM_runs_168 ?_
          refine cr_top (y := nI 0) (by decide) ?_
          refine lv_ishr hx hb dM_runs_169 ?_
          refine lv_bipush (v := nI 6) hx hb dM_runs_170 (by decide) ?_
          refine lv_iload hx hb dM_runs_172 (lv_at hl 5 rfl) ?_
          refine lv_imul hx hb dM_runs_174 ?_
          refine cr_top (y := nI 0) (by decide) ?_
          refine lv_ishl hx hb dM_runs_175 ?_
          refine cr_top (y := nI (cr_bnd (cr_lol (cr_len c0)) 0)) ((cr_sh0 (by omega)).trans (by rw [cr_bnd_0])) ?_
          refine lv_iconst (v := nI 1) hx hb dM_runs_176 (by decide) ?_
          refine lv_isub hx hb dM_runs_177 ?_
          refine lv_istore (lv' := [(6, .int ((nI (cr_bnd (cr_lol (cr_len c0)) 0)) - (nI 1))), (0, .ref mo), (1, .int (nI c0)), (2, .int (nI e0)), (3, .int (nI bs)), (4, .int (nI (cr_lol (cr_len c0)))), (5, .int (nI 0))]) hx hb dM_runs_178 hl (by decide) rfl (fun ls hl => ?_)
          refine lv_iload hx hb dM_runs_180 (lv_at hl 0 rfl) ?_
          refine lv_iload_n hx hb dM_runs_182 rfl (lv_at hl 4 rfl) ?_
          refine lv_icmp_le (tgt := 207) hx hb dM_runs_183 (by decide) (fun c_183 => ?_) (fun c_183 => ?_)
          · rw [Int32.le_iff_toInt_le, pk_sub_toInt (by omega) (by omega), nI_toInt (by omega)] at c_183
            refine lv_iload_n hx hb dM_runs_207 rfl (lv_at hl 4 rfl) ?_
            refine lv_istore_n (lv' := [(3, .int (nI bs)), (6, .int ((nI (cr_bnd (cr_lol (cr_len c0)) 0)) - (nI 1))), (0, .ref mo), (1, .int (nI c0)), (2, .int (nI e0)), (4, .int (nI (cr_lol (cr_len c0)))), (5, .int (nI 0))]) hx hb dM_runs_208 rfl hl (by decide) rfl (fun ls hl => ?_)
            refine lv_iinc (v := nI 1) (lv' := [(5, .int (nI 1)), (3, .int (nI bs)), (6, .int ((nI (cr_bnd (cr_lol (cr_len c0)) 0)) - (nI 1))), (0, .ref mo), (1, .int (nI c0)), (2, .int (nI e0)), (4, .int (nI (cr_lol (cr_len c0))))]) hx hb dM_runs_209 hl (k := 6) rfl (by decide) (by decide) rfl (fun ls hl => ?_)
            refine lv_goto (tgt := 154) hx hb dM_runs_212 (by decide) ?_
            exact ih154 1 bs b1 fr1 tt1 _ _ _ ⟨⟨by omega, hB, hU, cr_U2_s hV (fun d hd _ _ => by omega)⟩, hP, hD, hS, lv_sub hl [3, 4, 5, 1, 6, 0] rfl⟩ (by omega)
          · rw [Int32.le_iff_toInt_le, pk_sub_toInt (by omega) (by omega), nI_toInt (by omega)] at c_183
            refine lv_iload hx hb dM_runs_186 (lv_at hl 0 rfl) ?_
            refine lv_iload_n hx hb dM_runs_188 rfl (lv_at hl 3 rfl) ?_
            refine lv_icmp_gt (tgt := 207) hx hb dM_runs_189 (by decide) (fun c_189 => ?_) (fun c_189 => ?_)
            · rw [Int32.lt_iff_toInt_lt, pk_sub_toInt (by omega) (by omega), nI_toInt (by omega)] at c_189
              refine lv_iload_n hx hb dM_runs_207 rfl (lv_at hl 4 rfl) ?_
              refine lv_istore_n (lv' := [(3, .int (nI bs)), (6, .int ((nI (cr_bnd (cr_lol (cr_len c0)) 0)) - (nI 1))), (0, .ref mo), (1, .int (nI c0)), (2, .int (nI e0)), (4, .int (nI (cr_lol (cr_len c0)))), (5, .int (nI 0))]) hx hb dM_runs_208 rfl hl (by decide) rfl (fun ls hl => ?_)
              refine lv_iinc (v := nI 1) (lv' := [(5, .int (nI 1)), (3, .int (nI bs)), (6, .int ((nI (cr_bnd (cr_lol (cr_len c0)) 0)) - (nI 1))), (0, .ref mo), (1, .int (nI c0)), (2, .int (nI e0)), (4, .int (nI (cr_lol (cr_len c0))))]) hx hb dM_runs_209 hl (k := 6) rfl (by decide) (by decide) rfl (fun ls hl => ?_)
              refine lv_goto (tgt := 154) hx hb dM_runs_212 (by decide) ?_
              exact ih154 1 bs b1 fr1 tt1 _ _ _ ⟨⟨by omega, hB, hU, cr_U2_s hV (fun d hd _ h => absurd h (by omega))⟩, hP, hD, hS, lv_sub hl [3, 4, 5, 1, 6, 0] rfl⟩ (by omega)
            · rw [Int32.lt_iff_toInt_lt, pk_sub_toInt (by omega) (by omega), nI_toInt (by omega)] at c_189
              refine lv_aload_n hx hb dM_runs_192 rfl (lv_at hl 1 rfl) ?_
              refine lv_iload_n hx hb dM_runs_193 rfl (lv_at hl 2 rfl) ?_
              refine lv_iload hx hb dM_runs_194 (lv_at hl 0 rfl) ?_
              refine cr_top (y := nI (cr_bnd (cr_lol (cr_len c0)) 0 - 1)) (pk_sub (by omega)) ?_
              have hPc := hP.sub (ws' := [(mo, .inr (2, [.int th, .ref l1, .ref l2, .int (nI n), .ref l3, .ref l4, .int (nI nk), .ref l5, .ref l6, .int (nI mn), .ref l7, .ref l8, .ref l9, .int b1, .int fd])), (l1, .inl (cI, 2400, .inl f)), (l2, .inl (cI, 2400, .inl g)), (l3, .inl (cI, 2400, .inl kf)), (l4, .inl (cI, 2400, .inl kg)), (l5, .inl (cI, 4800, .inl ef)), (l6, .inl (cI, 4800, .inl eg)), (l7, .inl (cZ, 1120, .inl mt)), (l8, .inl (cI, 4, .inl fr1)), (l9, .inl (cI, 4, .inl tt1))]) [0, 1, 2, 3, 4, 5, 6, 7, 8, 9] rfl
              have hDc := hD.sub (ws' := [(mo, .inr (2, [.int th, .ref l1, .ref l2, .int (nI n), .ref l3, .ref l4, .int (nI nk), .ref l5, .ref l6, .int (nI mn), .ref l7, .ref l8, .ref l9, .int b1, .int fd])), (l1, .inl (cI, 2400, .inl f)), (l2, .inl (cI, 2400, .inl g)), (l3, .inl (cI, 2400, .inl kf)), (l4, .inl (cI, 2400, .inl kg)), (l5, .inl (cI, 4800, .inl ef)), (l6, .inl (cI, 4800, .inl eg)), (l7, .inl (cZ, 1120, .inl mt)), (l8, .inl (cI, 4, .inl fr1)), (l9, .inl (cI, 4, .inl tt1))]) [0, 1, 2, 3, 4, 5, 6, 7, 8, 9] (by decide) rfl
              have hFc := va_free (wc := [(mo, .inr (2, [.int th, .ref l1, .ref l2, .int (nI n), .ref l3, .ref l4, .int (nI nk), .ref l5, .ref l6, .int (nI mn), .ref l7, .ref l8, .ref l9, .int b1, .int fd])), (l1, .inl (cI, 2400, .inl f)), (l2, .inl (cI, 2400, .inl g)), (l3, .inl (cI, 2400, .inl kf)), (l4, .inl (cI, 2400, .inl kg)), (l5, .inl (cI, 4800, .inl ef)), (l6, .inl (cI, 4800, .inl eg)), (l7, .inl (cZ, 1120, .inl mt)), (l8, .inl (cI, 4, .inl fr1)), (l9, .inl (cI, 4, .inl tt1))]) hD hS hA [0, 1, 2, 3, 4, 5, 6, 7, 8, 9] rfl
              refine va_calli (va_runV (As := [.int (nI c0), .int (nI (cr_bnd (cr_lol (cr_len c0)) 0 - 1))]) (rest := []) ⟨hx, hb, hml, hown, hts⟩ (m_isRow l dC dI _ mo l1 l2 l3 l4 l5 l6 l7 l8 l9 cI cZ th b1 fd n nk mn f g kf kg ef eg mt fr1 tt1 c0 (cr_bnd (cr_lol (cr_len c0)) 0 - 1) (by omega) (by omega)) (cwV 2 hts gM_runs_M_isRow rfl rfl rfl (by decide +kernel) ⟨Nat.le_of_ble_eq_true rfl, Nat.le_of_ble_eq_true rfl⟩) (cr_preV hPc hK hDc (ci := 2) (q0 := 0) rfl rfl) rfl rfl hl.1 rfl (lv_room (Nat.le_of_ble_eq_true rfl)) dM_runs_196 ⟨Nat.zero_le _, Nat.zero_le _⟩) hS (fun q _ h => hFc q h) hFc (fun r_196 u_196 t_196 H_196 locs ht_196 hvm_196 hw_196 hB_196 hz_196 hk_196 hS => ?_)
              obtain ⟨fr3, tt3, rfl, hzr, _⟩ := hw_196
              obtain ⟨hP, hD⟩ := cr_back (wr := []) (w1 := [(mo, .inr (2, [.int th, .ref l1, .ref l2, .int (nI n), .ref l3, .ref l4, .int (nI nk), .ref l5, .ref l6, .int (nI mn), .ref l7, .ref l8, .ref l9, .int (nI (cr_len c0)), .int fd])), (l1, .inl (cI, 2400, .inl f)), (l2, .inl (cI, 2400, .inl g)), (l3, .inl (cI, 2400, .inl kf)), (l4, .inl (cI, 2400, .inl kg)), (l5, .inl (cI, 4800, .inl ef)), (l6, .inl (cI, 4800, .inl eg)), (l7, .inl (cZ, 1120, .inl mt)), (l8, .inl (cI, 4, .inl fr3)), (l9, .inl (cI, 4, .inl tt3))]) hP hD [0, 1, 2, 3, 4, 5, 6, 7, 8, 9] [] rfl rfl (by decide) (by decide) hk_196 hFc hB_196 ht_196
              clear hPc hDc hFc
              generalize H_196 = H at hP hS ⊢
              have hP := hP.sub (ws' := [(mo, .inr (2, [.int th, .ref l1, .ref l2, .int (nI n), .ref l3, .ref l4, .int (nI nk), .ref l5, .ref l6, .int (nI mn), .ref l7, .ref l8, .ref l9, .int (nI (cr_len c0)), .int fd])), (l1, .inl (cI, 2400, .inl f)), (l2, .inl (cI, 2400, .inl g)), (l3, .inl (cI, 2400, .inl kf)), (l4, .inl (cI, 2400, .inl kg)), (l5, .inl (cI, 4800, .inl ef)), (l6, .inl (cI, 4800, .inl eg)), (l7, .inl (cZ, 1120, .inl mt)), (l8, .inl (cI, 4, .inl fr3)), (l9, .inl (cI, 4, .inl tt3))]) [0, 1, 2, 3, 4, 5, 6, 7, 8, 9] rfl
              have hD := hD.sub (ws' := [(mo, .inr (2, [.int th, .ref l1, .ref l2, .int (nI n), .ref l3, .ref l4, .int (nI nk), .ref l5, .ref l6, .int (nI mn), .ref l7, .ref l8, .ref l9, .int (nI (cr_len c0)), .int fd])), (l1, .inl (cI, 2400, .inl f)), (l2, .inl (cI, 2400, .inl g)), (l3, .inl (cI, 2400, .inl kf)), (l4, .inl (cI, 2400, .inl kg)), (l5, .inl (cI, 4800, .inl ef)), (l6, .inl (cI, 4800, .inl eg)), (l7, .inl (cZ, 1120, .inl mt)), (l8, .inl (cI, 4, .inl fr3)), (l9, .inl (cI, 4, .inl tt3))]) [0, 1, 2, 3, 4, 5, 6, 7, 8, 9] (by decide) rfl
              rcases hzr with ⟨rfl, hq⟩ | ⟨rfl, hq⟩
              · refine lv_if_eq (tgt := 207) hx hb dM_runs_199 (by decide) (fun c_199 => ?_) (fun c_199 => ?_)
                · exact absurd c_199 (by decide)
                · refine lv_iload hx hb dM_runs_202 (lv_at hl 0 rfl) ?_
                  refine cr_top (y := nI (cr_bnd (cr_lol (cr_len c0)) 0 - 1)) (pk_sub (by omega)) ?_
                  refine lv_goto (tgt := 208) hx hb dM_runs_204 (by decide) ?_
                  refine lv_istore_n (lv' := [(3, .int (nI (cr_bnd (cr_lol (cr_len c0)) 0 - 1))), (6, .int ((nI (cr_bnd (cr_lol (cr_len c0)) 0)) - (nI 1))), (0, .ref mo), (1, .int (nI c0)), (2, .int (nI e0)), (4, .int (nI (cr_lol (cr_len c0)))), (5, .int (nI 0))]) hx hb dM_runs_208 rfl hl (by decide) rfl (fun ls hl => ?_)
                  refine lv_iinc (v := nI 1) (lv' := [(5, .int (nI 1)), (3, .int (nI (cr_bnd (cr_lol (cr_len c0)) 0 - 1))), (6, .int ((nI (cr_bnd (cr_lol (cr_len c0)) 0)) - (nI 1))), (0, .ref mo), (1, .int (nI c0)), (2, .int (nI e0)), (4, .int (nI (cr_lol (cr_len c0))))]) hx hb dM_runs_209 hl (k := 6) rfl (by decide) (by decide) rfl (fun ls hl => ?_)
                  refine lv_goto (tgt := 154) hx hb dM_runs_212 (by decide) ?_
                  exact ih154 1 (cr_bnd (cr_lol (cr_len c0)) 0 - 1) (nI (cr_len c0)) fr3 tt3 _ _ _ ⟨⟨by omega, ⟨by omega, by omega, hq⟩, cr_U_more hU (by omega), cr_U2_s (cr_U2_more hV (by omega)) (fun d hd _ _ => by omega)⟩, hP, hD, hS, lv_sub hl [3, 4, 5, 1, 6, 0] rfl⟩ (by omega)
              · refine lv_if_eq (tgt := 207) hx hb dM_runs_199 (by decide) (fun c_199 => ?_) (fun c_199 => ?_)
                · refine lv_iload_n hx hb dM_runs_207 rfl (lv_at hl 4 rfl) ?_
                  refine lv_istore_n (lv' := [(3, .int (nI bs)), (6, .int ((nI (cr_bnd (cr_lol (cr_len c0)) 0)) - (nI 1))), (0, .ref mo), (1, .int (nI c0)), (2, .int (nI e0)), (4, .int (nI (cr_lol (cr_len c0)))), (5, .int (nI 0))]) hx hb dM_runs_208 rfl hl (by decide) rfl (fun ls hl => ?_)
                  refine lv_iinc (v := nI 1) (lv' := [(5, .int (nI 1)), (3, .int (nI bs)), (6, .int ((nI (cr_bnd (cr_lol (cr_len c0)) 0)) - (nI 1))), (0, .ref mo), (1, .int (nI c0)), (2, .int (nI e0)), (4, .int (nI (cr_lol (cr_len c0))))]) hx hb dM_runs_209 hl (k := 6) rfl (by decide) (by decide) rfl (fun ls hl => ?_)
                  refine lv_goto (tgt := 154) hx hb dM_runs_212 (by decide) ?_
                  exact ih154 1 bs (nI (cr_len c0)) fr3 tt3 _ _ _ ⟨⟨by omega, hB, hU, cr_U2_s hV (fun d hd h _ => absurd (show cr_row c0 (cr_bnd (cr_lol (cr_len c0)) 0 - 1) by rw [show cr_bnd (cr_lol (cr_len c0)) 0 - 1 = d from (by omega)]; exact h) hq)⟩, hP, hD, hS, lv_sub hl [3, 4, 5, 1, 6, 0] rfl⟩ (by omega)
                · exact absurd (by decide) c_199
        · refine lv_iload hx hb dM_runs_160 (lv_at hl 4 rfl) ?_
          refine lv_iconst (v := nI 1) hx hb dM_runs_162 (by decide) ?_
          refine lv_iadd hx hb dM_runs_163 ?_
          refine cr_top (y := nI ((cr_lol (cr_len c0)) + 1)) (nI_add (cr_lol (cr_len c0)) 1) ?_
          refine lv_bipush (v := nI 6) hx hb dM_runs_164 (by decide) ?_
          refine lv_iload hx hb dM_runs_166 (lv_at hl 5 rfl) ?_
          refine lv_imul hx hb dM_runs_168 ?_
          refine cr_top (y := nI 6) (by decide) ?_
          refine lv_ishr hx hb dM_runs_169 ?_
          refine lv_bipush (v := nI 6) hx hb dM_runs_170 (by decide) ?_
          refine lv_iload hx hb dM_runs_172 (lv_at hl 5 rfl) ?_
          refine lv_imul hx hb dM_runs_174 ?_
          refine cr_top (y := nI 6) (by decide) ?_
          refine lv_ishl hx hb dM_runs_175 ?_
          refine cr_top (y := nI (cr_bnd (cr_lol (cr_len c0)) 1)) (cr_sh6 (by omega)) ?_
          refine lv_iconst (v := nI 1) hx hb dM_runs_176 (by decide) ?_
          refine lv_isub hx hb dM_runs_177 ?_
          refine lv_istore (lv' := [(6, .int ((nI (cr_bnd (cr_lol (cr_len c0)) 1)) - (nI 1))), (0, .ref mo), (1, .int (nI c0)), (2, .int (nI e0)), (3, .int (nI bs)), (4, .int (nI (cr_lol (cr_len c0)))), (5, .int (nI 1))]) hx hb dM_runs_178 hl (by decide) rfl (fun ls hl => ?_)
          refine lv_iload hx hb dM_runs_180 (lv_at hl 0 rfl) ?_
          refine lv_iload_n hx hb dM_runs_182 rfl (lv_at hl 4 rfl) ?_
          refine lv_icmp_le (tgt := 207) hx hb dM_runs_183 (by decide) (fun c_183 => ?_) (fun c_183 => ?_)
          · rw [Int32.le_iff_toInt_le, pk_sub_toInt (by omega) (by omega), nI_toInt (by omega)] at c_183
            refine lv_iload_n hx hb dM_runs_207 rfl (lv_at hl 4 rfl) ?_
            refine lv_istore_n (lv' := [(3, .int (nI bs)), (6, .int ((nI (cr_bnd (cr_lol (cr_len c0)) 1)) - (nI 1))), (0, .ref mo), (1, .int (nI c0)), (2, .int (nI e0)), (4, .int (nI (cr_lol (cr_len c0)))), (5, .int (nI 1))]) hx hb dM_runs_208 rfl hl (by decide) rfl (fun ls hl => ?_)
            refine lv_iinc (v := nI 2) (lv' := [(5, .int (nI 2)), (3, .int (nI bs)), (6, .int ((nI (cr_bnd (cr_lol (cr_len c0)) 1)) - (nI 1))), (0, .ref mo), (1, .int (nI c0)), (2, .int (nI e0)), (4, .int (nI (cr_lol (cr_len c0))))]) hx hb dM_runs_209 hl (k := 6) rfl (by decide) (by decide) rfl (fun ls hl => ?_)
            refine lv_goto (tgt := 154) hx hb dM_runs_212 (by decide) ?_
            exact ih154 2 bs b1 fr1 tt1 _ _ _ ⟨⟨by omega, hB, hU, cr_U2_s hV (fun d hd _ _ => by omega)⟩, hP, hD, hS, lv_sub hl [3, 4, 5, 1, 6, 0] rfl⟩ (by omega)
          · rw [Int32.le_iff_toInt_le, pk_sub_toInt (by omega) (by omega), nI_toInt (by omega)] at c_183
            refine lv_iload hx hb dM_runs_186 (lv_at hl 0 rfl) ?_
            refine lv_iload_n hx hb dM_runs_188 rfl (lv_at hl 3 rfl) ?_
            refine lv_icmp_gt (tgt := 207) hx hb dM_runs_189 (by decide) (fun c_189 => ?_) (fun c_189 => ?_)
            · rw [Int32.lt_iff_toInt_lt, pk_sub_toInt (by omega) (by omega), nI_toInt (by omega)] at c_189
              refine lv_iload_n hx hb dM_runs_207 rfl (lv_at hl 4 rfl) ?_
              refine lv_istore_n (lv' := [(3, .int (nI bs)), (6, .int ((nI (cr_bnd (cr_lol (cr_len c0)) 1)) - (nI 1))), (0, .ref mo), (1, .int (nI c0)), (2, .int (nI e0)), (4, .int (nI (cr_lol (cr_len c0)))), (5, .int (nI 1))]) hx hb dM_runs_208 rfl hl (by decide) rfl (fun ls hl => ?_)
              refine lv_iinc (v := nI 2) (lv' := [(5, .int (nI 2)), (3, .int (nI bs)), (6, .int ((nI (cr_bnd (cr_lol (cr_len c0)) 1)) - (nI 1))), (0, .ref mo), (1, .int (nI c0)), (2, .int (nI e0)), (4, .int (nI (cr_lol (cr_len c0))))]) hx hb dM_runs_209 hl (k := 6) rfl (by decide) (by decide) rfl (fun ls hl => ?_)
              refine lv_goto (tgt := 154) hx hb dM_runs_212 (by decide) ?_
              exact ih154 2 bs b1 fr1 tt1 _ _ _ ⟨⟨by omega, hB, hU, cr_U2_s hV (fun d hd _ h => absurd h (by omega))⟩, hP, hD, hS, lv_sub hl [3, 4, 5, 1, 6, 0] rfl⟩ (by omega)
            · rw [Int32.lt_iff_toInt_lt, pk_sub_toInt (by omega) (by omega), nI_toInt (by omega)] at c_189
              refine lv_aload_n hx hb dM_runs_192 rfl (lv_at hl 1 rfl) ?_
              refine lv_iload_n hx hb dM_runs_193 rfl (lv_at hl 2 rfl) ?_
              refine lv_iload hx hb dM_runs_194 (lv_at hl 0 rfl) ?_
              refine cr_top (y := nI (cr_bnd (cr_lol (cr_len c0)) 1 - 1)) (pk_sub (by omega)) ?_
              have hPc := hP.sub (ws' := [(mo, .inr (2, [.int th, .ref l1, .ref l2, .int (nI n), .ref l3, .ref l4, .int (nI nk), .ref l5, .ref l6, .int (nI mn), .ref l7, .ref l8, .ref l9, .int b1, .int fd])), (l1, .inl (cI, 2400, .inl f)), (l2, .inl (cI, 2400, .inl g)), (l3, .inl (cI, 2400, .inl kf)), (l4, .inl (cI, 2400, .inl kg)), (l5, .inl (cI, 4800, .inl ef)), (l6, .inl (cI, 4800, .inl eg)), (l7, .inl (cZ, 1120, .inl mt)), (l8, .inl (cI, 4, .inl fr1)), (l9, .inl (cI, 4, .inl tt1))]) [0, 1, 2, 3, 4, 5, 6, 7, 8, 9] rfl
              have hDc := hD.sub (ws' := [(mo, .inr (2, [.int th, .ref l1, .ref l2, .int (nI n), .ref l3, .ref l4, .int (nI nk), .ref l5, .ref l6, .int (nI mn), .ref l7, .ref l8, .ref l9, .int b1, .int fd])), (l1, .inl (cI, 2400, .inl f)), (l2, .inl (cI, 2400, .inl g)), (l3, .inl (cI, 2400, .inl kf)), (l4, .inl (cI, 2400, .inl kg)), (l5, .inl (cI, 4800, .inl ef)), (l6, .inl (cI, 4800, .inl eg)), (l7, .inl (cZ, 1120, .inl mt)), (l8, .inl (cI, 4, .inl fr1)), (l9, .inl (cI, 4, .inl tt1))]) [0, 1, 2, 3, 4, 5, 6, 7, 8, 9] (by decide) rfl
              have hFc := va_free (wc := [(mo, .inr (2, [.int th, .ref l1, .ref l2, .int (nI n), .ref l3, .ref l4, .int (nI nk), .ref l5, .ref l6, .int (nI mn), .ref l7, .ref l8, .ref l9, .int b1, .int fd])), (l1, .inl (cI, 2400, .inl f)), (l2, .inl (cI, 2400, .inl g)), (l3, .inl (cI, 2400, .inl kf)), (l4, .inl (cI, 2400, .inl kg)), (l5, .inl (cI, 4800, .inl ef)), (l6, .inl (cI, 4800, .inl eg)), (l7, .inl (cZ, 1120, .inl mt)), (l8, .inl (cI, 4, .inl fr1)), (l9, .inl (cI, 4, .inl tt1))]) hD hS hA [0, 1, 2, 3, 4, 5, 6, 7, 8, 9] rfl
              refine va_calli (va_runV (As := [.int (nI c0), .int (nI (cr_bnd (cr_lol (cr_len c0)) 1 - 1))]) (rest := []) ⟨hx, hb, hml, hown, hts⟩ (m_isRow l dC dI _ mo l1 l2 l3 l4 l5 l6 l7 l8 l9 cI cZ th b1 fd n nk mn f g kf kg ef eg mt fr1 tt1 c0 (cr_bnd (cr_lol (cr_len c0)) 1 - 1) (by omega) (by omega)) (cwV 2 hts gM_runs_M_isRow rfl rfl rfl (by decide +kernel) ⟨Nat.le_of_ble_eq_true rfl, Nat.le_of_ble_eq_true rfl⟩) (cr_preV hPc hK hDc (ci := 2) (q0 := 0) rfl rfl) rfl rfl hl.1 rfl (lv_room (Nat.le_of_ble_eq_true rfl)) dM_runs_196 ⟨Nat.zero_le _, Nat.zero_le _⟩) hS (fun q _ h => hFc q h) hFc (fun r_196 u_196 t_196 H_196 locs ht_196 hvm_196 hw_196 hB_196 hz_196 hk_196 hS => ?_)
              obtain ⟨fr3, tt3, rfl, hzr, _⟩ := hw_196
              obtain ⟨hP, hD⟩ := cr_back (wr := []) (w1 := [(mo, .inr (2, [.int th, .ref l1, .ref l2, .int (nI n), .ref l3, .ref l4, .int (nI nk), .ref l5, .ref l6, .int (nI mn), .ref l7, .ref l8, .ref l9, .int (nI (cr_len c0)), .int fd])), (l1, .inl (cI, 2400, .inl f)), (l2, .inl (cI, 2400, .inl g)), (l3, .inl (cI, 2400, .inl kf)), (l4, .inl (cI, 2400, .inl kg)), (l5, .inl (cI, 4800, .inl ef)), (l6, .inl (cI, 4800, .inl eg)), (l7, .inl (cZ, 1120, .inl mt)), (l8, .inl (cI, 4, .inl fr3)), (l9, .inl (cI, 4, .inl tt3))]) hP hD [0, 1, 2, 3, 4, 5, 6, 7, 8, 9] [] rfl rfl (by decide) (by decide) hk_196 hFc hB_196 ht_196
              clear hPc hDc hFc
              generalize H_196 = H at hP hS ⊢
              have hP := hP.sub (ws' := [(mo, .inr (2, [.int th, .ref l1, .ref l2, .int (nI n), .ref l3, .ref l4, .int (nI nk), .ref l5, .ref l6, .int (nI mn), .ref l7, .ref l8, .ref l9, .int (nI (cr_len c0)), .int fd])), (l1, .inl (cI, 2400, .inl f)), (l2, .inl (cI, 2400, .inl g)), (l3, .inl (cI, 2400, .inl kf)), (l4, .inl (cI, 2400, .inl kg)), (l5, .inl (cI, 4800, .inl ef)), (l6, .inl (cI, 4800, .inl eg)), (l7, .inl (cZ, 1120, .inl mt)), (l8, .inl (cI, 4, .inl fr3)), (l9, .inl (cI, 4, .inl tt3))]) [0, 1, 2, 3, 4, 5, 6, 7, 8, 9] rfl
              have hD := hD.sub (ws' := [(mo, .inr (2, [.int th, .ref l1, .ref l2, .int (nI n), .ref l3, .ref l4, .int (nI nk), .ref l5, .ref l6, .int (nI mn), .ref l7, .ref l8, .ref l9, .int (nI (cr_len c0)), .int fd])), (l1, .inl (cI, 2400, .inl f)), (l2, .inl (cI, 2400, .inl g)), (l3, .inl (cI, 2400, .inl kf)), (l4, .inl (cI, 2400, .inl kg)), (l5, .inl (cI, 4800, .inl ef)), (l6, .inl (cI, 4800, .inl eg)), (l7, .inl (cZ, 1120, .inl mt)), (l8, .inl (cI, 4, .inl fr3)), (l9, .inl (cI, 4, .inl tt3))]) [0, 1, 2, 3, 4, 5, 6, 7, 8, 9] (by decide) rfl
              rcases hzr with ⟨rfl, hq⟩ | ⟨rfl, hq⟩
              · refine lv_if_eq (tgt := 207) hx hb dM_runs_199 (by decide) (fun c_199 => ?_) (fun c_199 => ?_)
                · exact absurd c_199 (by decide)
                · refine lv_iload hx hb dM_runs_202 (lv_at hl 0 rfl) ?_
                  refine cr_top (y := nI (cr_bnd (cr_lol (cr_len c0)) 1 - 1)) (pk_sub (by omega)) ?_
                  refine lv_goto (tgt := 208) hx hb dM_runs_204 (by decide) ?_
                  refine lv_istore_n (lv' := [(3, .int (nI (cr_bnd (cr_lol (cr_len c0)) 1 - 1))), (6, .int ((nI (cr_bnd (cr_lol (cr_len c0)) 1)) - (nI 1))), (0, .ref mo), (1, .int (nI c0)), (2, .int (nI e0)), (4, .int (nI (cr_lol (cr_len c0)))), (5, .int (nI 1))]) hx hb dM_runs_208 rfl hl (by decide) rfl (fun ls hl => ?_)
                  refine lv_iinc (v := nI 2) (lv' := [(5, .int (nI 2)), (3, .int (nI (cr_bnd (cr_lol (cr_len c0)) 1 - 1))), (6, .int ((nI (cr_bnd (cr_lol (cr_len c0)) 1)) - (nI 1))), (0, .ref mo), (1, .int (nI c0)), (2, .int (nI e0)), (4, .int (nI (cr_lol (cr_len c0))))]) hx hb dM_runs_209 hl (k := 6) rfl (by decide) (by decide) rfl (fun ls hl => ?_)
                  refine lv_goto (tgt := 154) hx hb dM_runs_212 (by decide) ?_
                  exact ih154 2 (cr_bnd (cr_lol (cr_len c0)) 1 - 1) (nI (cr_len c0)) fr3 tt3 _ _ _ ⟨⟨by omega, ⟨by omega, by omega, hq⟩, cr_U_more hU (by omega), cr_U2_s (cr_U2_more hV (by omega)) (fun d hd _ _ => by omega)⟩, hP, hD, hS, lv_sub hl [3, 4, 5, 1, 6, 0] rfl⟩ (by omega)
              · refine lv_if_eq (tgt := 207) hx hb dM_runs_199 (by decide) (fun c_199 => ?_) (fun c_199 => ?_)
                · refine lv_iload_n hx hb dM_runs_207 rfl (lv_at hl 4 rfl) ?_
                  refine lv_istore_n (lv' := [(3, .int (nI bs)), (6, .int ((nI (cr_bnd (cr_lol (cr_len c0)) 1)) - (nI 1))), (0, .ref mo), (1, .int (nI c0)), (2, .int (nI e0)), (4, .int (nI (cr_lol (cr_len c0)))), (5, .int (nI 1))]) hx hb dM_runs_208 rfl hl (by decide) rfl (fun ls hl => ?_)
                  refine lv_iinc (v := nI 2) (lv' := [(5, .int (nI 2)), (3, .int (nI bs)), (6, .int ((nI (cr_bnd (cr_lol (cr_len c0)) 1)) - (nI 1))), (0, .ref mo), (1, .int (nI c0)), (2, .int (nI e0)), (4, .int (nI (cr_lol (cr_len c0))))]) hx hb dM_runs_209 hl (k := 6) rfl (by decide) (by decide) rfl (fun ls hl => ?_)
                  refine lv_goto (tgt := 154) hx hb dM_runs_212 (by decide) ?_
                  exact ih154 2 bs (nI (cr_len c0)) fr3 tt3 _ _ _ ⟨⟨by omega, hB, hU, cr_U2_s hV (fun d hd h _ => absurd (show cr_row c0 (cr_bnd (cr_lol (cr_len c0)) 1 - 1) by rw [show cr_bnd (cr_lol (cr_len c0)) 1 - 1 = d from (by omega)]; exact h) hq)⟩, hP, hD, hS, lv_sub hl [3, 4, 5, 1, 6, 0] rfl⟩ (by omega)
                · exact absurd (by decide) c_199
        · refine lv_iload hx hb dM_runs_160 (lv_at hl 4 rfl) ?_
          refine lv_iconst (v := nI 1) hx hb dM_runs_162 (by decide) ?_
          refine lv_iadd hx hb dM_runs_163 ?_
          refine cr_top (y := nI ((cr_lol (cr_len c0)) + 1)) (nI_add (cr_lol (cr_len c0)) 1) ?_
          refine lv_bipush (v := nI 6) hx hb dM_runs_164 (by decide) ?_
          refine lv_iload hx hb dM_runs_166 (lv_at hl 5 rfl) ?_
          refine lv_imul hx hb dM_runs_168 ?_
          refine cr_top (y := nI 12) (by decide) ?_
          refine lv_ishr hx hb dM_runs_169 ?_
          refine lv_bipush (v := nI 6) hx hb dM_runs_170 (by decide) ?_
          refine lv_iload hx hb dM_runs_172 (lv_at hl 5 rfl) ?_
          refine lv_imul hx hb dM_runs_174 ?_
          refine cr_top (y := nI 12) (by decide) ?_
          refine lv_ishl hx hb dM_runs_175 ?_
          refine cr_top (y := nI (cr_bnd (cr_lol (cr_len c0)) 2)) (cr_sh12 (by omega)) ?_
          refine lv_iconst (v := nI 1) hx hb dM_runs_176 (by decide) ?_
          refine lv_isub hx hb dM_runs_177 ?_
          refine lv_istore (lv' := [(6, .int ((nI (cr_bnd (cr_lol (cr_len c0)) 2)) - (nI 1))), (0, .ref mo), (1, .int (nI c0)), (2, .int (nI e0)), (3, .int (nI bs)), (4, .int (nI (cr_lol (cr_len c0)))), (5, .int (nI 2))]) hx hb dM_runs_178 hl (by decide) rfl (fun ls hl => ?_)
          refine lv_iload hx hb dM_runs_180 (lv_at hl 0 rfl) ?_
          refine lv_iload_n hx hb dM_runs_182 rfl (lv_at hl 4 rfl) ?_
          refine lv_icmp_le (tgt := 207) hx hb dM_runs_183 (by decide) (fun c_183 => ?_) (fun c_183 => ?_)
          · rw [Int32.le_iff_toInt_le, pk_sub_toInt (by omega) (by omega), nI_toInt (by omega)] at c_183
            refine lv_iload_n hx hb dM_runs_207 rfl (lv_at hl 4 rfl) ?_
            refine lv_istore_n (lv' := [(3, .int (nI bs)), (6, .int ((nI (cr_bnd (cr_lol (cr_len c0)) 2)) - (nI 1))), (0, .ref mo), (1, .int (nI c0)), (2, .int (nI e0)), (4, .int (nI (cr_lol (cr_len c0)))), (5, .int (nI 2))]) hx hb dM_runs_208 rfl hl (by decide) rfl (fun ls hl => ?_)
            refine lv_iinc (v := nI 3) (lv' := [(5, .int (nI 3)), (3, .int (nI bs)), (6, .int ((nI (cr_bnd (cr_lol (cr_len c0)) 2)) - (nI 1))), (0, .ref mo), (1, .int (nI c0)), (2, .int (nI e0)), (4, .int (nI (cr_lol (cr_len c0))))]) hx hb dM_runs_209 hl (k := 6) rfl (by decide) (by decide) rfl (fun ls hl => ?_)
            refine lv_goto (tgt := 154) hx hb dM_runs_212 (by decide) ?_
            exact ih154 3 bs b1 fr1 tt1 _ _ _ ⟨⟨by omega, hB, hU, cr_U2_s hV (fun d hd _ _ => by omega)⟩, hP, hD, hS, lv_sub hl [3, 4, 5, 1, 6, 0] rfl⟩ (by omega)
          · rw [Int32.le_iff_toInt_le, pk_sub_toInt (by omega) (by omega), nI_toInt (by omega)] at c_183
            refine lv_iload hx hb dM_runs_186 (lv_at hl 0 rfl) ?_
            refine lv_iload_n hx hb dM_runs_188 rfl (lv_at hl 3 rfl) ?_
            refine lv_icmp_gt (tgt := 207) hx hb dM_runs_189 (by decide) (fun c_189 => ?_) (fun c_189 => ?_)
            · rw [Int32.lt_iff_toInt_lt, pk_sub_toInt (by omega) (by omega), nI_toInt (by omega)] at c_189
              refine lv_iload_n hx hb dM_runs_207 rfl (lv_at hl 4 rfl) ?_
              refine lv_istore_n (lv' := [(3, .int (nI bs)), (6, .int ((nI (cr_bnd (cr_lol (cr_len c0)) 2)) - (nI 1))), (0, .ref mo), (1, .int (nI c0)), (2, .int (nI e0)), (4, .int (nI (cr_lol (cr_len c0)))), (5, .int (nI 2))]) hx hb dM_runs_208 rfl hl (by decide) rfl (fun ls hl => ?_)
              refine lv_iinc (v := nI 3) (lv' := [(5, .int (nI 3)), (3, .int (nI bs)), (6, .int ((nI (cr_bnd (cr_lol (cr_len c0)) 2)) - (nI 1))), (0, .ref mo), (1, .int (nI c0)), (2, .int (nI e0)), (4, .int (nI (cr_lol (cr_len c0))))]) hx hb dM_runs_209 hl (k := 6) rfl (by decide) (by decide) rfl (fun ls hl => ?_)
              refine lv_goto (tgt := 154) hx hb dM_runs_212 (by decide) ?_
              exact ih154 3 bs b1 fr1 tt1 _ _ _ ⟨⟨by omega, hB, hU, cr_U2_s hV (fun d hd _ h => absurd h (by omega))⟩, hP, hD, hS, lv_sub hl [3, 4, 5, 1, 6, 0] rfl⟩ (by omega)
            · rw [Int32.lt_iff_toInt_lt, pk_sub_toInt (by omega) (by omega), nI_toInt (by omega)] at c_189
              refine lv_aload_n hx hb dM_runs_192 rfl (lv_at hl 1 rfl) ?_
              refine lv_iload_n hx hb dM_runs_193 rfl (lv_at hl 2 rfl) ?_
              refine lv_iload hx hb dM_runs_194 (lv_at hl 0 rfl) ?_
              refine cr_top (y := nI (cr_bnd (cr_lol (cr_len c0)) 2 - 1)) (pk_sub (by omega)) ?_
              have hPc := hP.sub (ws' := [(mo, .inr (2, [.int th, .ref l1, .ref l2, .int (nI n), .ref l3, .ref l4, .int (nI nk), .ref l5, .ref l6, .int (nI mn), .ref l7, .ref l8, .ref l9, .int b1, .int fd])), (l1, .inl (cI, 2400, .inl f)), (l2, .inl (cI, 2400, .inl g)), (l3, .inl (cI, 2400, .inl kf)), (l4, .inl (cI, 2400, .inl kg)), (l5, .inl (cI, 4800, .inl ef)), (l6, .inl (cI, 4800, .inl eg)), (l7, .inl (cZ, 1120, .inl mt)), (l8, .inl (cI, 4, .inl fr1)), (l9, .inl (cI, 4, .inl tt1))]) [0, 1, 2, 3, 4, 5, 6, 7, 8, 9] rfl
              have hDc := hD.sub (ws' := [(mo, .inr (2, [.int th, .ref l1, .ref l2, .int (nI n), .ref l3, .ref l4, .int (nI nk), .ref l5, .ref l6, .int (nI mn), .ref l7, .ref l8, .ref l9, .int b1, .int fd])), (l1, .inl (cI, 2400, .inl f)), (l2, .inl (cI, 2400, .inl g)), (l3, .inl (cI, 2400, .inl kf)), (l4, .inl (cI, 2400, .inl kg)), (l5, .inl (cI, 4800, .inl ef)), (l6, .inl (cI, 4800, .inl eg)), (l7, .inl (cZ, 1120, .inl mt)), (l8, .inl (cI, 4, .inl fr1)), (l9, .inl (cI, 4, .inl tt1))]) [0, 1, 2, 3, 4, 5, 6, 7, 8, 9] (by decide) rfl
              have hFc := va_free (wc := [(mo, .inr (2, [.int th, .ref l1, .ref l2, .int (nI n), .ref l3, .ref l4, .int (nI nk), .ref l5, .ref l6, .int (nI mn), .ref l7, .ref l8, .ref l9, .int b1, .int fd])), (l1, .inl (cI, 2400, .inl f)), (l2, .inl (cI, 2400, .inl g)), (l3, .inl (cI, 2400, .inl kf)), (l4, .inl (cI, 2400, .inl kg)), (l5, .inl (cI, 4800, .inl ef)), (l6, .inl (cI, 4800, .inl eg)), (l7, .inl (cZ, 1120, .inl mt)), (l8, .inl (cI, 4, .inl fr1)), (l9, .inl (cI, 4, .inl tt1))]) hD hS hA [0, 1, 2, 3, 4, 5, 6, 7, 8, 9] rfl
              refine va_calli (va_runV (As := [.int (nI c0), .int (nI (cr_bnd (cr_lol (cr_len c0)) 2 - 1))]) (rest := []) ⟨hx, hb, hml, hown, hts⟩ (m_isRow l dC dI _ mo l1 l2 l3 l4 l5 l6 l7 l8 l9 cI cZ th b1 fd n nk mn f g kf kg ef eg mt fr1 tt1 c0 (cr_bnd (cr_lol (cr_len c0)) 2 - 1) (by omega) (by omega)) (cwV 2 hts gM_runs_M_isRow rfl rfl rfl (by decide +kernel) ⟨Nat.le_of_ble_eq_true rfl, Nat.le_of_ble_eq_true rfl⟩) (cr_preV hPc hK hDc (ci := 2) (q0 := 0) rfl rfl) rfl rfl hl.1 rfl (lv_room (Nat.le_of_ble_eq_true rfl)) dM_runs_196 ⟨Nat.zero_le _, Nat.zero_le _⟩) hS (fun q _ h => hFc q h) hFc (fun r_196 u_196 t_196 H_196 locs ht_196 hvm_196 hw_196 hB_196 hz_196 hk_196 hS => ?_)
              obtain ⟨fr3, tt3, rfl, hzr, _⟩ := hw_196
              obtain ⟨hP, hD⟩ := cr_back (wr := []) (w1 := [(mo, .inr (2, [.int th, .ref l1, .ref l2, .int (nI n), .ref l3, .ref l4, .int (nI nk), .ref l5, .ref l6, .int (nI mn), .ref l7, .ref l8, .ref l9, .int (nI (cr_len c0)), .int fd])), (l1, .inl (cI, 2400, .inl f)), (l2, .inl (cI, 2400, .inl g)), (l3, .inl (cI, 2400, .inl kf)), (l4, .inl (cI, 2400, .inl kg)), (l5, .inl (cI, 4800, .inl ef)), (l6, .inl (cI, 4800, .inl eg)), (l7, .inl (cZ, 1120, .inl mt)), (l8, .inl (cI, 4, .inl fr3)), (l9, .inl (cI, 4, .inl tt3))]) hP hD [0, 1, 2, 3, 4, 5, 6, 7, 8, 9] [] rfl rfl (by decide) (by decide) hk_196 hFc hB_196 ht_196
              clear hPc hDc hFc
              generalize H_196 = H at hP hS ⊢
              have hP := hP.sub (ws' := [(mo, .inr (2, [.int th, .ref l1, .ref l2, .int (nI n), .ref l3, .ref l4, .int (nI nk), .ref l5, .ref l6, .int (nI mn), .ref l7, .ref l8, .ref l9, .int (nI (cr_len c0)), .int fd])), (l1, .inl (cI, 2400, .inl f)), (l2, .inl (cI, 2400, .inl g)), (l3, .inl (cI, 2400, .inl kf)), (l4, .inl (cI, 2400, .inl kg)), (l5, .inl (cI, 4800, .inl ef)), (l6, .inl (cI, 4800, .inl eg)), (l7, .inl (cZ, 1120, .inl mt)), (l8, .inl (cI, 4, .inl fr3)), (l9, .inl (cI, 4, .inl tt3))]) [0, 1, 2, 3, 4, 5, 6, 7, 8, 9] rfl
              have hD := hD.sub (ws' := [(mo, .inr (2, [.int th, .ref l1, .ref l2, .int (nI n), .ref l3, .ref l4, .int (nI nk), .ref l5, .ref l6, .int (nI mn), .ref l7, .ref l8, .ref l9, .int (nI (cr_len c0)), .int fd])), (l1, .inl (cI, 2400, .inl f)), (l2, .inl (cI, 2400, .inl g)), (l3, .inl (cI, 2400, .inl kf)), (l4, .inl (cI, 2400, .inl kg)), (l5, .inl (cI, 4800, .inl ef)), (l6, .inl (cI, 4800, .inl eg)), (l7, .inl (cZ, 1120, .inl mt)), (l8, .inl (cI, 4, .inl fr3)), (l9, .inl (cI, 4, .inl tt3))]) [0, 1, 2, 3, 4, 5, 6, 7, 8, 9] (by decide) rfl
              rcases hzr with ⟨rfl, hq⟩ | ⟨rfl, hq⟩
              · refine lv_if_eq (tgt := 207) hx hb dM_runs_199 (by decide) (fun c_199 => ?_) (fun c_199 => ?_)
                · exact absurd c_199 (by decide)
                · refine lv_iload hx hb dM_runs_202 (lv_at hl 0 rfl) ?_
                  refine cr_top (y := nI (cr_bnd (cr_lol (cr_len c0)) 2 - 1)) (pk_sub (by omega)) ?_
                  refine lv_goto (tgt := 208) hx hb dM_runs_204 (by decide) ?_
                  refine lv_istore_n (lv' := [(3, .int (nI (cr_bnd (cr_lol (cr_len c0)) 2 - 1))), (6, .int ((nI (cr_bnd (cr_lol (cr_len c0)) 2)) - (nI 1))), (0, .ref mo), (1, .int (nI c0)), (2, .int (nI e0)), (4, .int (nI (cr_lol (cr_len c0)))), (5, .int (nI 2))]) hx hb dM_runs_208 rfl hl (by decide) rfl (fun ls hl => ?_)
                  refine lv_iinc (v := nI 3) (lv' := [(5, .int (nI 3)), (3, .int (nI (cr_bnd (cr_lol (cr_len c0)) 2 - 1))), (6, .int ((nI (cr_bnd (cr_lol (cr_len c0)) 2)) - (nI 1))), (0, .ref mo), (1, .int (nI c0)), (2, .int (nI e0)), (4, .int (nI (cr_lol (cr_len c0))))]) hx hb dM_runs_209 hl (k := 6) rfl (by decide) (by decide) rfl (fun ls hl => ?_)
                  refine lv_goto (tgt := 154) hx hb dM_runs_212 (by decide) ?_
                  exact ih154 3 (cr_bnd (cr_lol (cr_len c0)) 2 - 1) (nI (cr_len c0)) fr3 tt3 _ _ _ ⟨⟨by omega, ⟨by omega, by omega, hq⟩, cr_U_more hU (by omega), cr_U2_s (cr_U2_more hV (by omega)) (fun d hd _ _ => by omega)⟩, hP, hD, hS, lv_sub hl [3, 4, 5, 1, 6, 0] rfl⟩ (by omega)
              · refine lv_if_eq (tgt := 207) hx hb dM_runs_199 (by decide) (fun c_199 => ?_) (fun c_199 => ?_)
                · refine lv_iload_n hx hb dM_runs_207 rfl (lv_at hl 4 rfl) ?_
                  refine lv_istore_n (lv' := [(3, .int (nI bs)), (6, .int ((nI (cr_bnd (cr_lol (cr_len c0)) 2)) - (nI 1))), (0, .ref mo), (1, .int (nI c0)), (2, .int (nI e0)), (4, .int (nI (cr_lol (cr_len c0)))), (5, .int (nI 2))]) hx hb dM_runs_208 rfl hl (by decide) rfl (fun ls hl => ?_)
                  refine lv_iinc (v := nI 3) (lv' := [(5, .int (nI 3)), (3, .int (nI bs)), (6, .int ((nI (cr_bnd (cr_lol (cr_len c0)) 2)) - (nI 1))), (0, .ref mo), (1, .int (nI c0)), (2, .int (nI e0)), (4, .int (nI (cr_lol (cr_len c0))))]) hx hb dM_runs_209 hl (k := 6) rfl (by decide) (by decide) rfl (fun ls hl => ?_)
                  refine lv_goto (tgt := 154) hx hb dM_runs_212 (by decide) ?_
                  exact ih154 3 bs (nI (cr_len c0)) fr3 tt3 _ _ _ ⟨⟨by omega, hB, hU, cr_U2_s hV (fun d hd h _ => absurd (show cr_row c0 (cr_bnd (cr_lol (cr_len c0)) 2 - 1) by rw [show cr_bnd (cr_lol (cr_len c0)) 2 - 1 = d from (by omega)]; exact h) hq)⟩, hP, hD, hS, lv_sub hl [3, 4, 5, 1, 6, 0] rfl⟩ (by omega)
                · exact absurd (by decide) c_199
        · refine lv_iload hx hb dM_runs_160 (lv_at hl 4 rfl) ?_
          refine lv_iconst (v := nI 1) hx hb dM_runs_162 (by decide) ?_
          refine lv_iadd hx hb dM_runs_163 ?_
          refine cr_top (y := nI ((cr_lol (cr_len c0)) + 1)) (nI_add (cr_lol (cr_len c0)) 1) ?_
          refine lv_bipush (v := nI 6) hx hb dM_runs_164 (by decide) ?_
          refine lv_iload hx hb dM_runs_166 (lv_at hl 5 rfl) ?_
          refine lv_imul hx hb dM_runs_168 ?_
          refine cr_top (y := nI 18) (by decide) ?_
          refine lv_ishr hx hb dM_runs_169 ?_
          refine lv_bipush (v := nI 6) hx hb dM_runs_170 (by decide) ?_
          refine lv_iload hx hb dM_runs_172 (lv_at hl 5 rfl) ?_
          refine lv_imul hx hb dM_runs_174 ?_
          refine cr_top (y := nI 18) (by decide) ?_
          refine lv_ishl hx hb dM_runs_175 ?_
          refine cr_top (y := nI (cr_bnd (cr_lol (cr_len c0)) 3)) (cr_sh18 (by omega)) ?_
          refine lv_iconst (v := nI 1) hx hb dM_runs_176 (by decide) ?_
          refine lv_isub hx hb dM_runs_177 ?_
          refine lv_istore (lv' := [(6, .int ((nI (cr_bnd (cr_lol (cr_len c0)) 3)) - (nI 1))), (0, .ref mo), (1, .int (nI c0)), (2, .int (nI e0)), (3, .int (nI bs)), (4, .int (nI (cr_lol (cr_len c0)))), (5, .int (nI 3))]) hx hb dM_runs_178 hl (by decide) rfl (fun ls hl => ?_)
          refine lv_iload hx hb dM_runs_180 (lv_at hl 0 rfl) ?_
          refine lv_iload_n hx hb dM_runs_182 rfl (lv_at hl 4 rfl) ?_
          refine lv_icmp_le (tgt := 207) hx hb dM_runs_183 (by decide) (fun c_183 => ?_) (fun c_183 => ?_)
          · rw [Int32.le_iff_toInt_le, pk_sub_toInt (by omega) (by omega), nI_toInt (by omega)] at c_183
            refine lv_iload_n hx hb dM_runs_207 rfl (lv_at hl 4 rfl) ?_
            refine lv_istore_n (lv' := [(3, .int (nI bs)), (6, .int ((nI (cr_bnd (cr_lol (cr_len c0)) 3)) - (nI 1))), (0, .ref mo), (1, .int (nI c0)), (2, .int (nI e0)), (4, .int (nI (cr_lol (cr_len c0)))), (5, .int (nI 3))]) hx hb dM_runs_208 rfl hl (by decide) rfl (fun ls hl => ?_)
            refine lv_iinc (v := nI 4) (lv' := [(5, .int (nI 4)), (3, .int (nI bs)), (6, .int ((nI (cr_bnd (cr_lol (cr_len c0)) 3)) - (nI 1))), (0, .ref mo), (1, .int (nI c0)), (2, .int (nI e0)), (4, .int (nI (cr_lol (cr_len c0))))]) hx hb dM_runs_209 hl (k := 6) rfl (by decide) (by decide) rfl (fun ls hl => ?_)
            refine lv_goto (tgt := 154) hx hb dM_runs_212 (by decide) ?_
            exact ih154 4 bs b1 fr1 tt1 _ _ _ ⟨⟨by omega, hB, hU, cr_U2_s hV (fun d hd _ _ => by omega)⟩, hP, hD, hS, lv_sub hl [3, 4, 5, 1, 6, 0] rfl⟩ (by omega)
          · rw [Int32.le_iff_toInt_le, pk_sub_toInt (by omega) (by omega), nI_toInt (by omega)] at c_183
            refine lv_iload hx hb dM_runs_186 (lv_at hl 0 rfl) ?_
            refine lv_iload_n hx hb dM_runs_188 rfl (lv_at hl 3 rfl) ?_
            refine lv_icmp_gt (tgt := 207) hx hb dM_runs_189 (by decide) (fun c_189 => ?_) (fun c_189 => ?_)
            · rw [Int32.lt_iff_toInt_lt, pk_sub_toInt (by omega) (by omega), nI_toInt (by omega)] at c_189
              refine lv_iload_n hx hb dM_runs_207 rfl (lv_at hl 4 rfl) ?_
              refine lv_istore_n (lv' := [(3, .int (nI bs)), (6, .int ((nI (cr_bnd (cr_lol (cr_len c0)) 3)) - (nI 1))), (0, .ref mo), (1, .int (nI c0)), (2, .int (nI e0)), (4, .int (nI (cr_lol (cr_len c0)))), (5, .int (nI 3))]) hx hb dM_runs_208 rfl hl (by decide) rfl (fun ls hl => ?_)
              refine lv_iinc (v := nI 4) (lv' := [(5, .int (nI 4)), (3, .int (nI bs)), (6, .int ((nI (cr_bnd (cr_lol (cr_len c0)) 3)) - (nI 1))), (0, .ref mo), (1, .int (nI c0)), (2, .int (nI e0)), (4, .int (nI (cr_lol (cr_len c0))))]) hx hb dM_runs_209 hl (k := 6) rfl (by decide) (by decide) rfl (fun ls hl => ?_)
              refine lv_goto (tgt := 154) hx hb dM_runs_212 (by decide) ?_
              exact ih154 4 bs b1 fr1 tt1 _ _ _ ⟨⟨by omega, hB, hU, cr_U2_s hV (fun d hd _ h => absurd h (by omega))⟩, hP, hD, hS, lv_sub hl [3, 4, 5, 1, 6, 0] rfl⟩ (by omega)
            · rw [Int32.lt_iff_toInt_lt, pk_sub_toInt (by omega) (by omega), nI_toInt (by omega)] at c_189
              refine lv_aload_n hx hb dM_runs_192 rfl (lv_at hl 1 rfl) ?_
              refine lv_iload_n hx hb dM_runs_193 rfl (lv_at hl 2 rfl) ?_
              refine lv_iload hx hb dM_runs_194 (lv_at hl 0 rfl) ?_
              refine cr_top (y := nI (cr_bnd (cr_lol (cr_len c0)) 3 - 1)) (pk_sub (by omega)) ?_
              have hPc := hP.sub (ws' := [(mo, .inr (2, [.int th, .ref l1, .ref l2, .int (nI n), .ref l3, .ref l4, .int (nI nk), .ref l5, .ref l6, .int (nI mn), .ref l7, .ref l8, .ref l9, .int b1, .int fd])), (l1, .inl (cI, 2400, .inl f)), (l2, .inl (cI, 2400, .inl g)), (l3, .inl (cI, 2400, .inl kf)), (l4, .inl (cI, 2400, .inl kg)), (l5, .inl (cI, 4800, .inl ef)), (l6, .inl (cI, 4800, .inl eg)), (l7, .inl (cZ, 1120, .inl mt)), (l8, .inl (cI, 4, .inl fr1)), (l9, .inl (cI, 4, .inl tt1))]) [0, 1, 2, 3, 4, 5, 6, 7, 8, 9] rfl
              have hDc := hD.sub (ws' := [(mo, .inr (2, [.int th, .ref l1, .ref l2, .int (nI n), .ref l3, .ref l4, .int (nI nk), .ref l5, .ref l6, .int (nI mn), .ref l7, .ref l8, .ref l9, .int b1, .int fd])), (l1, .inl (cI, 2400, .inl f)), (l2, .inl (cI, 2400, .inl g)), (l3, .inl (cI, 2400, .inl kf)), (l4, .inl (cI, 2400, .inl kg)), (l5, .inl (cI, 4800, .inl ef)), (l6, .inl (cI, 4800, .inl eg)), (l7, .inl (cZ, 1120, .inl mt)), (l8, .inl (cI, 4, .inl fr1)), (l9, .inl (cI, 4, .inl tt1))]) [0, 1, 2, 3, 4, 5, 6, 7, 8, 9] (by decide) rfl
              have hFc := va_free (wc := [(mo, .inr (2, [.int th, .ref l1, .ref l2, .int (nI n), .ref l3, .ref l4, .int (nI nk), .ref l5, .ref l6, .int (nI mn), .ref l7, .ref l8, .ref l9, .int b1, .int fd])), (l1, .inl (cI, 2400, .inl f)), (l2, .inl (cI, 2400, .inl g)), (l3, .inl (cI, 2400, .inl kf)), (l4, .inl (cI, 2400, .inl kg)), (l5, .inl (cI, 4800, .inl ef)), (l6, .inl (cI, 4800, .inl eg)), (l7, .inl (cZ, 1120, .inl mt)), (l8, .inl (cI, 4, .inl fr1)), (l9, .inl (cI, 4, .inl tt1))]) hD hS hA [0, 1, 2, 3, 4, 5, 6, 7, 8, 9] rfl
              refine va_calli (va_runV (As := [.int (nI c0), .int (nI (cr_bnd (cr_lol (cr_len c0)) 3 - 1))]) (rest := []) ⟨hx, hb, hml, hown, hts⟩ (m_isRow l dC dI _ mo l1 l2 l3 l4 l5 l6 l7 l8 l9 cI cZ th b1 fd n nk mn f g kf kg ef eg mt fr1 tt1 c0 (cr_bnd (cr_lol (cr_len c0)) 3 - 1) (by omega) (by omega)) (cwV 2 hts gM_runs_M_isRow rfl rfl rfl (by decide +kernel) ⟨Nat.le_of_ble_eq_true rfl, Nat.le_of_ble_eq_true rfl⟩) (cr_preV hPc hK hDc (ci := 2) (q0 := 0) rfl rfl) rfl rfl hl.1 rfl (lv_room (Nat.le_of_ble_eq_true rfl)) dM_runs_196 ⟨Nat.zero_le _, Nat.zero_le _⟩) hS (fun q _ h => hFc q h) hFc (fun r_196 u_196 t_196 H_196 locs ht_196 hvm_196 hw_196 hB_196 hz_196 hk_196 hS => ?_)
              obtain ⟨fr3, tt3, rfl, hzr, _⟩ := hw_196
              obtain ⟨hP, hD⟩ := cr_back (wr := []) (w1 := [(mo, .inr (2, [.int th, .ref l1, .ref l2, .int (nI n), .ref l3, .ref l4, .int (nI nk), .ref l5, .ref l6, .int (nI mn), .ref l7, .ref l8, .ref l9, .int (nI (cr_len c0)), .int fd])), (l1, .inl (cI, 2400, .inl f)), (l2, .inl (cI, 2400, .inl g)), (l3, .inl (cI, 2400, .inl kf)), (l4, .inl (cI, 2400, .inl kg)), (l5, .inl (cI, 4800, .inl ef)), (l6, .inl (cI, 4800, .inl eg)), (l7, .inl (cZ, 1120, .inl mt)), (l8, .inl (cI, 4, .inl fr3)), (l9, .inl (cI, 4, .inl tt3))]) hP hD [0, 1, 2, 3, 4, 5, 6, 7, 8, 9] [] rfl rfl (by decide) (by decide) hk_196 hFc hB_196 ht_196
              clear hPc hDc hFc
              generalize H_196 = H at hP hS ⊢
              have hP := hP.sub (ws' := [(mo, .inr (2, [.int th, .ref l1, .ref l2, .int (nI n), .ref l3, .ref l4, .int (nI nk), .ref l5, .ref l6, .int (nI mn), .ref l7, .ref l8, .ref l9, .int (nI (cr_len c0)), .int fd])), (l1, .inl (cI, 2400, .inl f)), (l2, .inl (cI, 2400, .inl g)), (l3, .inl (cI, 2400, .inl kf)), (l4, .inl (cI, 2400, .inl kg)), (l5, .inl (cI, 4800, .inl ef)), (l6, .inl (cI, 4800, .inl eg)), (l7, .inl (cZ, 1120, .inl mt)), (l8, .inl (cI, 4, .inl fr3)), (l9, .inl (cI, 4, .inl tt3))]) [0, 1, 2, 3, 4, 5, 6, 7, 8, 9] rfl
              have hD := hD.sub (ws' := [(mo, .inr (2, [.int th, .ref l1, .ref l2, .int (nI n), .ref l3, .ref l4, .int (nI nk), .ref l5, .ref l6, .int (nI mn), .ref l7, .ref l8, .ref l9, .int (nI (cr_len c0)), .int fd])), (l1, .inl (cI, 2400, .inl f)), (l2, .inl (cI, 2400, .inl g)), (l3, .inl (cI, 2400, .inl kf)), (l4, .inl (cI, 2400, .inl kg)), (l5, .inl (cI, 4800, .inl ef)), (l6, .inl (cI, 4800, .inl eg)), (l7, .inl (cZ, 1120, .inl mt)), (l8, .inl (cI, 4, .inl fr3)), (l9, .inl (cI, 4, .inl tt3))]) [0, 1, 2, 3, 4, 5, 6, 7, 8, 9] (by decide) rfl
              rcases hzr with ⟨rfl, hq⟩ | ⟨rfl, hq⟩
              · refine lv_if_eq (tgt := 207) hx hb dM_runs_199 (by decide) (fun c_199 => ?_) (fun c_199 => ?_)
                · exact absurd c_199 (by decide)
                · refine lv_iload hx hb dM_runs_202 (lv_at hl 0 rfl) ?_
                  refine cr_top (y := nI (cr_bnd (cr_lol (cr_len c0)) 3 - 1)) (pk_sub (by omega)) ?_
                  refine lv_goto (tgt := 208) hx hb dM_runs_204 (by decide) ?_
                  refine lv_istore_n (lv' := [(3, .int (nI (cr_bnd (cr_lol (cr_len c0)) 3 - 1))), (6, .int ((nI (cr_bnd (cr_lol (cr_len c0)) 3)) - (nI 1))), (0, .ref mo), (1, .int (nI c0)), (2, .int (nI e0)), (4, .int (nI (cr_lol (cr_len c0)))), (5, .int (nI 3))]) hx hb dM_runs_208 rfl hl (by decide) rfl (fun ls hl => ?_)
                  refine lv_iinc (v := nI 4) (lv' := [(5, .int (nI 4)), (3, .int (nI (cr_bnd (cr_lol (cr_len c0)) 3 - 1))), (6, .int ((nI (cr_bnd (cr_lol (cr_len c0)) 3)) - (nI 1))), (0, .ref mo), (1, .int (nI c0)), (2, .int (nI e0)), (4, .int (nI (cr_lol (cr_len c0))))]) hx hb dM_runs_209 hl (k := 6) rfl (by decide) (by decide) rfl (fun ls hl => ?_)
                  refine lv_goto (tgt := 154) hx hb dM_runs_212 (by decide) ?_
                  exact ih154 4 (cr_bnd (cr_lol (cr_len c0)) 3 - 1) (nI (cr_len c0)) fr3 tt3 _ _ _ ⟨⟨by omega, ⟨by omega, by omega, hq⟩, cr_U_more hU (by omega), cr_U2_s (cr_U2_more hV (by omega)) (fun d hd _ _ => by omega)⟩, hP, hD, hS, lv_sub hl [3, 4, 5, 1, 6, 0] rfl⟩ (by omega)
              · refine lv_if_eq (tgt := 207) hx hb dM_runs_199 (by decide) (fun c_199 => ?_) (fun c_199 => ?_)
                · refine lv_iload_n hx hb dM_runs_207 rfl (lv_at hl 4 rfl) ?_
                  refine lv_istore_n (lv' := [(3, .int (nI bs)), (6, .int ((nI (cr_bnd (cr_lol (cr_len c0)) 3)) - (nI 1))), (0, .ref mo), (1, .int (nI c0)), (2, .int (nI e0)), (4, .int (nI (cr_lol (cr_len c0)))), (5, .int (nI 3))]) hx hb dM_runs_208 rfl hl (by decide) rfl (fun ls hl => ?_)
                  refine lv_iinc (v := nI 4) (lv' := [(5, .int (nI 4)), (3, .int (nI bs)), (6, .int ((nI (cr_bnd (cr_lol (cr_len c0)) 3)) - (nI 1))), (0, .ref mo), (1, .int (nI c0)), (2, .int (nI e0)), (4, .int (nI (cr_lol (cr_len c0))))]) hx hb dM_runs_209 hl (k := 6) rfl (by decide) (by decide) rfl (fun ls hl => ?_)
                  refine lv_goto (tgt := 154) hx hb dM_runs_212 (by decide) ?_
                  exact ih154 4 bs (nI (cr_len c0)) fr3 tt3 _ _ _ ⟨⟨by omega, hB, hU, cr_U2_s hV (fun d hd h _ => absurd (show cr_row c0 (cr_bnd (cr_lol (cr_len c0)) 3 - 1) by rw [show cr_bnd (cr_lol (cr_len c0)) 3 - 1 = d from (by omega)]; exact h) hq)⟩, hP, hD, hS, lv_sub hl [3, 4, 5, 1, 6, 0] rfl⟩ (by omega)
                · exact absurd (by decide) c_199
    · refine lv_iload_n hx hb dM_runs_107 rfl (lv_at hl 1 rfl) ?_
      have hPc := hP.sub (ws' := []) [] rfl
      have hDc := hD.sub (ws' := []) [] (by decide) rfl
      have hFc := va_free (wc := []) hD hS hA [] rfl
      refine va_calli (va_runS (As := [.int (nI c0)]) (rest := []) ⟨hx, hb, hml, hown, hts⟩ (m_length l dC dI _ c0 (by omega)) (va_cwS 1 hts gM_runs_M_length rfl rfl rfl (by decide +kernel) ⟨Nat.le_of_ble_eq_true rfl, Nat.le_of_ble_eq_true rfl⟩) (cr_preS hPc (hK.sub (tys' := []) [] rfl) hDc) rfl rfl hl.1 rfl (lv_room (Nat.le_of_ble_eq_true rfl)) dM_runs_108 ⟨Nat.zero_le _, Nat.zero_le _⟩) hS (fun q _ h => hFc q h) hFc (fun r_108 u_108 t_108 H_108 locs ht_108 hvm_108 hw_108 hB_108 hz_108 hk_108 hS => ?_)
      obtain ⟨rfl, rfl⟩ := hw_108
      obtain ⟨hP, hD⟩ := cr_back (wr := [(mo, .inr (2, [.int th, .ref l1, .ref l2, .int (nI n), .ref l3, .ref l4, .int (nI nk), .ref l5, .ref l6, .int (nI mn), .ref l7, .ref l8, .ref l9, .int b1, .int fd])), (l1, .inl (cI, 2400, .inl f)), (l2, .inl (cI, 2400, .inl g)), (l3, .inl (cI, 2400, .inl kf)), (l4, .inl (cI, 2400, .inl kg)), (l5, .inl (cI, 4800, .inl ef)), (l6, .inl (cI, 4800, .inl eg)), (l7, .inl (cZ, 1120, .inl mt)), (l8, .inl (cI, 4, .inl fr1)), (l9, .inl (cI, 4, .inl tt1))]) (w1 := []) hP hD [] [0, 1, 2, 3, 4, 5, 6, 7, 8, 9] rfl rfl (by decide) (by decide) hk_108 hFc hB_108 ht_108
      clear hPc hDc hFc
      generalize H_108 = H at hP hS ⊢
      have hP := hP.sub (ws' := [(mo, .inr (2, [.int th, .ref l1, .ref l2, .int (nI n), .ref l3, .ref l4, .int (nI nk), .ref l5, .ref l6, .int (nI mn), .ref l7, .ref l8, .ref l9, .int b1, .int fd])), (l1, .inl (cI, 2400, .inl f)), (l2, .inl (cI, 2400, .inl g)), (l3, .inl (cI, 2400, .inl kf)), (l4, .inl (cI, 2400, .inl kg)), (l5, .inl (cI, 4800, .inl ef)), (l6, .inl (cI, 4800, .inl eg)), (l7, .inl (cZ, 1120, .inl mt)), (l8, .inl (cI, 4, .inl fr1)), (l9, .inl (cI, 4, .inl tt1))]) [0, 1, 2, 3, 4, 5, 6, 7, 8, 9] rfl
      have hD := hD.sub (ws' := [(mo, .inr (2, [.int th, .ref l1, .ref l2, .int (nI n), .ref l3, .ref l4, .int (nI nk), .ref l5, .ref l6, .int (nI mn), .ref l7, .ref l8, .ref l9, .int b1, .int fd])), (l1, .inl (cI, 2400, .inl f)), (l2, .inl (cI, 2400, .inl g)), (l3, .inl (cI, 2400, .inl kf)), (l4, .inl (cI, 2400, .inl kg)), (l5, .inl (cI, 4800, .inl ef)), (l6, .inl (cI, 4800, .inl eg)), (l7, .inl (cZ, 1120, .inl mt)), (l8, .inl (cI, 4, .inl fr1)), (l9, .inl (cI, 4, .inl tt1))]) [0, 1, 2, 3, 4, 5, 6, 7, 8, 9] (by decide) rfl
      refine lv_iconst (v := nI 1) hx hb dM_runs_111 (by decide) ?_
      refine lv_icmp_ne (tgt := 120) hx hb dM_runs_112 (by decide) (fun c_112 => ?_) (fun c_112 => ?_)
      · rw [nI_eq (by omega) (by omega)] at c_112
        refine lv_iload_n hx hb dM_runs_120 rfl (lv_at hl 1 rfl) ?_
        have hPc := hP.sub (ws' := []) [] rfl
        have hDc := hD.sub (ws' := []) [] (by decide) rfl
        have hFc := va_free (wc := []) hD hS hA [] rfl
        refine va_calli (va_runS (As := [.int (nI c0)]) (rest := []) ⟨hx, hb, hml, hown, hts⟩ (m_length l dC dI _ c0 (by omega)) (va_cwS 1 hts gM_runs_M_length rfl rfl rfl (by decide +kernel) ⟨Nat.le_of_ble_eq_true rfl, Nat.le_of_ble_eq_true rfl⟩) (cr_preS hPc (hK.sub (tys' := []) [] rfl) hDc) rfl rfl hl.1 rfl (lv_room (Nat.le_of_ble_eq_true rfl)) dM_runs_121 ⟨Nat.zero_le _, Nat.zero_le _⟩) hS (fun q _ h => hFc q h) hFc (fun r_121 u_121 t_121 H_121 locs ht_121 hvm_121 hw_121 hB_121 hz_121 hk_121 hS => ?_)
        obtain ⟨rfl, rfl⟩ := hw_121
        obtain ⟨hP, hD⟩ := cr_back (wr := [(mo, .inr (2, [.int th, .ref l1, .ref l2, .int (nI n), .ref l3, .ref l4, .int (nI nk), .ref l5, .ref l6, .int (nI mn), .ref l7, .ref l8, .ref l9, .int b1, .int fd])), (l1, .inl (cI, 2400, .inl f)), (l2, .inl (cI, 2400, .inl g)), (l3, .inl (cI, 2400, .inl kf)), (l4, .inl (cI, 2400, .inl kg)), (l5, .inl (cI, 4800, .inl ef)), (l6, .inl (cI, 4800, .inl eg)), (l7, .inl (cZ, 1120, .inl mt)), (l8, .inl (cI, 4, .inl fr1)), (l9, .inl (cI, 4, .inl tt1))]) (w1 := []) hP hD [] [0, 1, 2, 3, 4, 5, 6, 7, 8, 9] rfl rfl (by decide) (by decide) hk_121 hFc hB_121 ht_121
        clear hPc hDc hFc
        generalize H_121 = H at hP hS ⊢
        have hP := hP.sub (ws' := [(mo, .inr (2, [.int th, .ref l1, .ref l2, .int (nI n), .ref l3, .ref l4, .int (nI nk), .ref l5, .ref l6, .int (nI mn), .ref l7, .ref l8, .ref l9, .int b1, .int fd])), (l1, .inl (cI, 2400, .inl f)), (l2, .inl (cI, 2400, .inl g)), (l3, .inl (cI, 2400, .inl kf)), (l4, .inl (cI, 2400, .inl kg)), (l5, .inl (cI, 4800, .inl ef)), (l6, .inl (cI, 4800, .inl eg)), (l7, .inl (cZ, 1120, .inl mt)), (l8, .inl (cI, 4, .inl fr1)), (l9, .inl (cI, 4, .inl tt1))]) [0, 1, 2, 3, 4, 5, 6, 7, 8, 9] rfl
        have hD := hD.sub (ws' := [(mo, .inr (2, [.int th, .ref l1, .ref l2, .int (nI n), .ref l3, .ref l4, .int (nI nk), .ref l5, .ref l6, .int (nI mn), .ref l7, .ref l8, .ref l9, .int b1, .int fd])), (l1, .inl (cI, 2400, .inl f)), (l2, .inl (cI, 2400, .inl g)), (l3, .inl (cI, 2400, .inl kf)), (l4, .inl (cI, 2400, .inl kg)), (l5, .inl (cI, 4800, .inl ef)), (l6, .inl (cI, 4800, .inl eg)), (l7, .inl (cZ, 1120, .inl mt)), (l8, .inl (cI, 4, .inl fr1)), (l9, .inl (cI, 4, .inl tt1))]) [0, 1, 2, 3, 4, 5, 6, 7, 8, 9] (by decide) rfl
        refine lv_iconst (v := nI 2) hx hb dM_runs_124 (by decide) ?_
        refine lv_icmp_ne (tgt := 134) hx hb dM_runs_125 (by decide) (fun c_125 => ?_) (fun c_125 => ?_)
        · rw [nI_eq (by omega) (by omega)] at c_125
          refine lv_iload_n hx hb dM_runs_134 rfl (lv_at hl 1 rfl) ?_
          have hPc := hP.sub (ws' := []) [] rfl
          have hDc := hD.sub (ws' := []) [] (by decide) rfl
          have hFc := va_free (wc := []) hD hS hA [] rfl
          refine va_calli (va_runS (As := [.int (nI c0)]) (rest := []) ⟨hx, hb, hml, hown, hts⟩ (m_length l dC dI _ c0 (by omega)) (va_cwS 1 hts gM_runs_M_length rfl rfl rfl (by decide +kernel) ⟨Nat.le_of_ble_eq_true rfl, Nat.le_of_ble_eq_true rfl⟩) (cr_preS hPc (hK.sub (tys' := []) [] rfl) hDc) rfl rfl hl.1 rfl (lv_room (Nat.le_of_ble_eq_true rfl)) dM_runs_135 ⟨Nat.zero_le _, Nat.zero_le _⟩) hS (fun q _ h => hFc q h) hFc (fun r_135 u_135 t_135 H_135 locs ht_135 hvm_135 hw_135 hB_135 hz_135 hk_135 hS => ?_)
          obtain ⟨rfl, rfl⟩ := hw_135
          obtain ⟨hP, hD⟩ := cr_back (wr := [(mo, .inr (2, [.int th, .ref l1, .ref l2, .int (nI n), .ref l3, .ref l4, .int (nI nk), .ref l5, .ref l6, .int (nI mn), .ref l7, .ref l8, .ref l9, .int b1, .int fd])), (l1, .inl (cI, 2400, .inl f)), (l2, .inl (cI, 2400, .inl g)), (l3, .inl (cI, 2400, .inl kf)), (l4, .inl (cI, 2400, .inl kg)), (l5, .inl (cI, 4800, .inl ef)), (l6, .inl (cI, 4800, .inl eg)), (l7, .inl (cZ, 1120, .inl mt)), (l8, .inl (cI, 4, .inl fr1)), (l9, .inl (cI, 4, .inl tt1))]) (w1 := []) hP hD [] [0, 1, 2, 3, 4, 5, 6, 7, 8, 9] rfl rfl (by decide) (by decide) hk_135 hFc hB_135 ht_135
          clear hPc hDc hFc
          generalize H_135 = H at hP hS ⊢
          have hP := hP.sub (ws' := [(mo, .inr (2, [.int th, .ref l1, .ref l2, .int (nI n), .ref l3, .ref l4, .int (nI nk), .ref l5, .ref l6, .int (nI mn), .ref l7, .ref l8, .ref l9, .int b1, .int fd])), (l1, .inl (cI, 2400, .inl f)), (l2, .inl (cI, 2400, .inl g)), (l3, .inl (cI, 2400, .inl kf)), (l4, .inl (cI, 2400, .inl kg)), (l5, .inl (cI, 4800, .inl ef)), (l6, .inl (cI, 4800, .inl eg)), (l7, .inl (cZ, 1120, .inl mt)), (l8, .inl (cI, 4, .inl fr1)), (l9, .inl (cI, 4, .inl tt1))]) [0, 1, 2, 3, 4, 5, 6, 7, 8, 9] rfl
          have hD := hD.sub (ws' := [(mo, .inr (2, [.int th, .ref l1, .ref l2, .int (nI n), .ref l3, .ref l4, .int (nI nk), .ref l5, .ref l6, .int (nI mn), .ref l7, .ref l8, .ref l9, .int b1, .int fd])), (l1, .inl (cI, 2400, .inl f)), (l2, .inl (cI, 2400, .inl g)), (l3, .inl (cI, 2400, .inl kf)), (l4, .inl (cI, 2400, .inl kg)), (l5, .inl (cI, 4800, .inl ef)), (l6, .inl (cI, 4800, .inl eg)), (l7, .inl (cZ, 1120, .inl mt)), (l8, .inl (cI, 4, .inl fr1)), (l9, .inl (cI, 4, .inl tt1))]) [0, 1, 2, 3, 4, 5, 6, 7, 8, 9] (by decide) rfl
          refine lv_iconst (v := nI 3) hx hb dM_runs_138 (by decide) ?_
          refine lv_icmp_ne (tgt := 147) hx hb dM_runs_139 (by decide) (fun c_139 => ?_) (fun c_139 => ?_)
          · rw [nI_eq (by omega) (by omega)] at c_139
            refine lv_ldc (v := nI 1114111) hx hb hown (hts (.constant RX2 52 (nI 1114111)) (by decide +kernel)) dM_runs_147 ?_
            refine cr_top (y := nI (cr_lol (cr_len c0))) (congrArg nI (by rw [show cr_len c0 = 4 from (by omega)]; rfl)) ?_
            refine lv_istore (lv' := [(4, .int (nI (cr_lol (cr_len c0)))), (0, .ref mo), (1, .int (nI c0)), (2, .int (nI e0)), (3, .int (nI bs))]) hx hb dM_runs_149 hl (by decide) rfl (fun ls hl => ?_)
            exact jn151 0 _ _ _ ⟨rfl, hP, hD, hS, lv_sub hl [1, 2, 3, 4, 0] rfl⟩
          · rw [nI_eq (by omega) (by omega)] at c_139
            refine lv_ldc (v := nI 65535) hx hb hown (hts (.constant RX2 89 (nI 65535)) (by decide +kernel)) dM_runs_142 ?_
            refine lv_goto (tgt := 149) hx hb dM_runs_144 (by decide) ?_
            refine cr_top (y := nI (cr_lol (cr_len c0))) (congrArg nI (by rw [c_139]; rfl)) ?_
            refine lv_istore (lv' := [(4, .int (nI (cr_lol (cr_len c0)))), (0, .ref mo), (1, .int (nI c0)), (2, .int (nI e0)), (3, .int (nI bs))]) hx hb dM_runs_149 hl (by decide) rfl (fun ls hl => ?_)
            exact jn151 0 _ _ _ ⟨rfl, hP, hD, hS, lv_sub hl [1, 2, 3, 4, 0] rfl⟩
        · rw [nI_eq (by omega) (by omega)] at c_125
          refine lv_sipush (v := nI 2047) hx hb dM_runs_128 (by decide) ?_
          refine lv_goto (tgt := 149) hx hb dM_runs_131 (by decide) ?_
          refine cr_top (y := nI (cr_lol (cr_len c0))) (congrArg nI (by rw [c_125]; rfl)) ?_
          refine lv_istore (lv' := [(4, .int (nI (cr_lol (cr_len c0)))), (0, .ref mo), (1, .int (nI c0)), (2, .int (nI e0)), (3, .int (nI bs))]) hx hb dM_runs_149 hl (by decide) rfl (fun ls hl => ?_)
          exact jn151 0 _ _ _ ⟨rfl, hP, hD, hS, lv_sub hl [1, 2, 3, 4, 0] rfl⟩
      · rw [nI_eq (by omega) (by omega)] at c_112
        refine lv_bipush (v := nI 127) hx hb dM_runs_115 (by decide) ?_
        refine lv_goto (tgt := 149) hx hb dM_runs_117 (by decide) ?_
        refine cr_top (y := nI (cr_lol (cr_len c0))) (congrArg nI (by rw [c_112]; rfl)) ?_
        refine lv_istore (lv' := [(4, .int (nI (cr_lol (cr_len c0)))), (0, .ref mo), (1, .int (nI c0)), (2, .int (nI e0)), (3, .int (nI bs))]) hx hb dM_runs_149 hl (by decide) rfl (fun ls hl => ?_)
        exact jn151 0 _ _ _ ⟨rfl, hP, hD, hS, lv_sub hl [1, 2, 3, 4, 0] rfl⟩
  · rw [nI_leI (by omega) (by omega)] at c_8
    rcases (show t = 0 ∨ t = 1 ∨ t = 2 ∨ t = 3 by omega) with rfl | rfl | rfl | rfl
    · refine lv_iload_n hx hb dM_runs_11 rfl (lv_at hl 1 rfl) ?_
      refine lv_iconst (v := nI 1) hx hb dM_runs_12 (by decide) ?_
      refine lv_bipush (v := nI 6) hx hb dM_runs_13 (by decide) ?_
      refine lv_iload hx hb dM_runs_15 (lv_at hl 4 rfl) ?_
      refine lv_imul hx hb dM_runs_17 ?_
      refine cr_top (y := nI 0) (by decide) ?_
      refine lv_ishl hx hb dM_runs_18 ?_
      refine cr_top (y := nI 1) (by decide) ?_
      refine lv_iconst (v := nI 1) hx hb dM_runs_19 (by decide) ?_
      refine lv_isub hx hb dM_runs_20 ?_
      refine cr_top (y := nI 0) (by decide) ?_
      refine lv_ior hx hb dM_runs_21 ?_
      refine cr_top (y := nI (cr_one c0 0)) ((cr_or0 c0).trans (by rw [cr_one_0])) ?_
      refine lv_istore (lv' := [(5, .int (nI (cr_one c0 0))), (0, .ref mo), (1, .int (nI c0)), (2, .int (nI e0)), (3, .int (nI bs)), (4, .int (nI 0))]) hx hb dM_runs_22 hl (by decide) rfl (fun ls hl => ?_)
      refine lv_iload_n hx hb dM_runs_24 rfl (lv_at hl 3 rfl) ?_
      refine lv_iconst (v := nI 1) hx hb dM_runs_25 (by decide) ?_
      refine lv_iadd hx hb dM_runs_26 ?_
      refine cr_top (y := nI (e0 + 1)) (nI_add e0 1) ?_
      refine lv_bipush (v := nI 6) hx hb dM_runs_27 (by decide) ?_
      refine lv_iload hx hb dM_runs_29 (lv_at hl 5 rfl) ?_
      refine lv_imul hx hb dM_runs_31 ?_
      refine cr_top (y := nI 0) (by decide) ?_
      refine lv_ishr hx hb dM_runs_32 ?_
      refine lv_bipush (v := nI 6) hx hb dM_runs_33 (by decide) ?_
      refine lv_iload hx hb dM_runs_35 (lv_at hl 5 rfl) ?_
      refine lv_imul hx hb dM_runs_37 ?_
      refine cr_top (y := nI 0) (by decide) ?_
      refine lv_ishl hx hb dM_runs_38 ?_
      refine cr_top (y := nI (cr_bnd e0 0)) ((cr_sh0 (by omega)).trans (by rw [cr_bnd_0])) ?_
      refine lv_iconst (v := nI 1) hx hb dM_runs_39 (by decide) ?_
      refine lv_isub hx hb dM_runs_40 ?_
      refine lv_istore (lv' := [(6, .int ((nI (cr_bnd e0 0)) - (nI 1))), (5, .int (nI (cr_one c0 0))), (0, .ref mo), (1, .int (nI c0)), (2, .int (nI e0)), (3, .int (nI bs)), (4, .int (nI 0))]) hx hb dM_runs_41 hl (by decide) rfl (fun ls hl => ?_)
      refine cr_cut4 72 [] (fun (bs2 : Nat) (b2 : Int32) (fr2 : Nat → Int32) (tt2 : Nat → Int32) H locs ls => (cr_Bs c0 e0 bs2 ∧ cr_U c0 e0 bs2 0 ∧ (cr_row c0 (cr_one c0 0) → cr_one c0 0 ≤ e0 → cr_one c0 0 ≤ bs2)) ∧ va_P (dC, dI) crCl [(mo, .inr (2, [.int th, .ref l1, .ref l2, .int (nI n), .ref l3, .ref l4, .int (nI nk), .ref l5, .ref l6, .int (nI mn), .ref l7, .ref l8, .ref l9, .int b2, .int fd])), (l1, .inl (cI, 2400, .inl f)), (l2, .inl (cI, 2400, .inl g)), (l3, .inl (cI, 2400, .inl kf)), (l4, .inl (cI, 2400, .inl kg)), (l5, .inl (cI, 4800, .inl ef)), (l6, .inl (cI, 4800, .inl eg)), (l7, .inl (cZ, 1120, .inl mt)), (l8, .inl (cI, 4, .inl fr2)), (l9, .inl (cI, 4, .inl tt2))] H ∧ va_D A [(mo, .inr (2, [.int th, .ref l1, .ref l2, .int (nI n), .ref l3, .ref l4, .int (nI nk), .ref l5, .ref l6, .int (nI mn), .ref l7, .ref l8, .ref l9, .int b2, .int fd])), (l1, .inl (cI, 2400, .inl f)), (l2, .inl (cI, 2400, .inl g)), (l3, .inl (cI, 2400, .inl kf)), (l4, .inl (cI, 2400, .inl kg)), (l5, .inl (cI, 4800, .inl ef)), (l6, .inl (cI, 4800, .inl eg)), (l7, .inl (cZ, 1120, .inl mt)), (l8, .inl (cI, 4, .inl fr2)), (l9, .inl (cI, 4, .inl tt2))] ∧ va_S A s.heap H locs ∧ lv_has ls 7 [(0, .ref mo), (1, .int (nI c0)), (2, .int (nI e0)), (3, .int (nI bs2)), (4, .int (nI 0)), (5, .int (nI (cr_one c0 0))), (6, .int ((nI (cr_bnd e0 0)) - (nI 1)))]) ?_ (fun jn72 => ?_)
      · intro bs2 b2 fr2 tt2 H locs ls hJ72
        obtain ⟨⟨hB2, hU2, h1⟩, hP, hD, hS, hl⟩ := hJ72
        obtain ⟨hC1, hC2, hC3⟩ := id hB2
        refine lv_iload hx hb dM_runs_72 (lv_at hl 6 rfl) ?_
        refine lv_iload_n hx hb dM_runs_74 rfl (lv_at hl 3 rfl) ?_
        refine lv_icmp_le (tgt := 99) hx hb dM_runs_75 (by decide) (fun c_75 => ?_) (fun c_75 => ?_)
        · rw [Int32.le_iff_toInt_le, pk_sub_toInt (by omega) (by omega), nI_toInt (by omega)] at c_75
          refine lv_iload_n hx hb dM_runs_99 rfl (lv_at hl 3 rfl) ?_
          refine lv_istore_n (lv' := [(3, .int (nI bs2)), (0, .ref mo), (1, .int (nI c0)), (2, .int (nI e0)), (4, .int (nI 0)), (5, .int (nI (cr_one c0 0))), (6, .int ((nI (cr_bnd e0 0)) - (nI 1)))]) hx hb dM_runs_100 rfl hl (by decide) rfl (fun ls hl => ?_)
          refine lv_iinc (v := nI 1) (lv' := [(4, .int (nI 1)), (3, .int (nI bs2)), (0, .ref mo), (1, .int (nI c0)), (2, .int (nI e0)), (5, .int (nI (cr_one c0 0))), (6, .int ((nI (cr_bnd e0 0)) - (nI 1)))]) hx hb dM_runs_101 hl (k := 4) rfl (by decide) (by decide) rfl (fun ls hl => ?_)
          refine lv_goto (tgt := 5) hx hb dM_runs_104 (by decide) ?_
          exact ih5 1 bs2 b2 fr2 tt2 _ _ _ ⟨⟨by omega, hB2, cr_U_s hU2 h1 (fun d hd _ _ => by omega)⟩, hP, hD, hS, lv_sub hl [2, 3, 4, 1, 0] rfl⟩ (by omega)
        · rw [Int32.le_iff_toInt_le, pk_sub_toInt (by omega) (by omega), nI_toInt (by omega)] at c_75
          refine lv_iload hx hb dM_runs_78 (lv_at hl 6 rfl) ?_
          refine lv_iload_n hx hb dM_runs_80 rfl (lv_at hl 2 rfl) ?_
          refine lv_icmp_gt (tgt := 99) hx hb dM_runs_81 (by decide) (fun c_81 => ?_) (fun c_81 => ?_)
          · rw [Int32.lt_iff_toInt_lt, pk_sub_toInt (by omega) (by omega), nI_toInt (by omega)] at c_81
            refine lv_iload_n hx hb dM_runs_99 rfl (lv_at hl 3 rfl) ?_
            refine lv_istore_n (lv' := [(3, .int (nI bs2)), (0, .ref mo), (1, .int (nI c0)), (2, .int (nI e0)), (4, .int (nI 0)), (5, .int (nI (cr_one c0 0))), (6, .int ((nI (cr_bnd e0 0)) - (nI 1)))]) hx hb dM_runs_100 rfl hl (by decide) rfl (fun ls hl => ?_)
            refine lv_iinc (v := nI 1) (lv' := [(4, .int (nI 1)), (3, .int (nI bs2)), (0, .ref mo), (1, .int (nI c0)), (2, .int (nI e0)), (5, .int (nI (cr_one c0 0))), (6, .int ((nI (cr_bnd e0 0)) - (nI 1)))]) hx hb dM_runs_101 hl (k := 4) rfl (by decide) (by decide) rfl (fun ls hl => ?_)
            refine lv_goto (tgt := 5) hx hb dM_runs_104 (by decide) ?_
            exact ih5 1 bs2 b2 fr2 tt2 _ _ _ ⟨⟨by omega, hB2, cr_U_s hU2 h1 (fun d hd _ h => absurd h (by omega))⟩, hP, hD, hS, lv_sub hl [2, 3, 4, 1, 0] rfl⟩ (by omega)
          · rw [Int32.lt_iff_toInt_lt, pk_sub_toInt (by omega) (by omega), nI_toInt (by omega)] at c_81
            refine lv_aload_n hx hb dM_runs_84 rfl (lv_at hl 0 rfl) ?_
            refine lv_iload_n hx hb dM_runs_85 rfl (lv_at hl 1 rfl) ?_
            refine lv_iload hx hb dM_runs_86 (lv_at hl 6 rfl) ?_
            refine cr_top (y := nI (cr_bnd e0 0 - 1)) (pk_sub (by omega)) ?_
            have hPc := hP.sub (ws' := [(mo, .inr (2, [.int th, .ref l1, .ref l2, .int (nI n), .ref l3, .ref l4, .int (nI nk), .ref l5, .ref l6, .int (nI mn), .ref l7, .ref l8, .ref l9, .int b2, .int fd])), (l1, .inl (cI, 2400, .inl f)), (l2, .inl (cI, 2400, .inl g)), (l3, .inl (cI, 2400, .inl kf)), (l4, .inl (cI, 2400, .inl kg)), (l5, .inl (cI, 4800, .inl ef)), (l6, .inl (cI, 4800, .inl eg)), (l7, .inl (cZ, 1120, .inl mt)), (l8, .inl (cI, 4, .inl fr2)), (l9, .inl (cI, 4, .inl tt2))]) [0, 1, 2, 3, 4, 5, 6, 7, 8, 9] rfl
            have hDc := hD.sub (ws' := [(mo, .inr (2, [.int th, .ref l1, .ref l2, .int (nI n), .ref l3, .ref l4, .int (nI nk), .ref l5, .ref l6, .int (nI mn), .ref l7, .ref l8, .ref l9, .int b2, .int fd])), (l1, .inl (cI, 2400, .inl f)), (l2, .inl (cI, 2400, .inl g)), (l3, .inl (cI, 2400, .inl kf)), (l4, .inl (cI, 2400, .inl kg)), (l5, .inl (cI, 4800, .inl ef)), (l6, .inl (cI, 4800, .inl eg)), (l7, .inl (cZ, 1120, .inl mt)), (l8, .inl (cI, 4, .inl fr2)), (l9, .inl (cI, 4, .inl tt2))]) [0, 1, 2, 3, 4, 5, 6, 7, 8, 9] (by decide) rfl
            have hFc := va_free (wc := [(mo, .inr (2, [.int th, .ref l1, .ref l2, .int (nI n), .ref l3, .ref l4, .int (nI nk), .ref l5, .ref l6, .int (nI mn), .ref l7, .ref l8, .ref l9, .int b2, .int fd])), (l1, .inl (cI, 2400, .inl f)), (l2, .inl (cI, 2400, .inl g)), (l3, .inl (cI, 2400, .inl kf)), (l4, .inl (cI, 2400, .inl kg)), (l5, .inl (cI, 4800, .inl ef)), (l6, .inl (cI, 4800, .inl eg)), (l7, .inl (cZ, 1120, .inl mt)), (l8, .inl (cI, 4, .inl fr2)), (l9, .inl (cI, 4, .inl tt2))]) hD hS hA [0, 1, 2, 3, 4, 5, 6, 7, 8, 9] rfl
            refine va_calli (va_runV (As := [.int (nI c0), .int (nI (cr_bnd e0 0 - 1))]) (rest := []) ⟨hx, hb, hml, hown, hts⟩ (m_isRow l dC dI _ mo l1 l2 l3 l4 l5 l6 l7 l8 l9 cI cZ th b2 fd n nk mn f g kf kg ef eg mt fr2 tt2 c0 (cr_bnd e0 0 - 1) (by omega) (by omega)) (cwV 2 hts gM_runs_M_isRow rfl rfl rfl (by decide +kernel) ⟨Nat.le_of_ble_eq_true rfl, Nat.le_of_ble_eq_true rfl⟩) (cr_preV hPc hK hDc (ci := 2) (q0 := 0) rfl rfl) rfl rfl hl.1 rfl (lv_room (Nat.le_of_ble_eq_true rfl)) dM_runs_88 ⟨Nat.zero_le _, Nat.zero_le _⟩) hS (fun q _ h => hFc q h) hFc (fun r_88 u_88 t_88 H_88 locs ht_88 hvm_88 hw_88 hB_88 hz_88 hk_88 hS => ?_)
            obtain ⟨fr3, tt3, rfl, hzr, _⟩ := hw_88
            obtain ⟨hP, hD⟩ := cr_back (wr := []) (w1 := [(mo, .inr (2, [.int th, .ref l1, .ref l2, .int (nI n), .ref l3, .ref l4, .int (nI nk), .ref l5, .ref l6, .int (nI mn), .ref l7, .ref l8, .ref l9, .int (nI (cr_len c0)), .int fd])), (l1, .inl (cI, 2400, .inl f)), (l2, .inl (cI, 2400, .inl g)), (l3, .inl (cI, 2400, .inl kf)), (l4, .inl (cI, 2400, .inl kg)), (l5, .inl (cI, 4800, .inl ef)), (l6, .inl (cI, 4800, .inl eg)), (l7, .inl (cZ, 1120, .inl mt)), (l8, .inl (cI, 4, .inl fr3)), (l9, .inl (cI, 4, .inl tt3))]) hP hD [0, 1, 2, 3, 4, 5, 6, 7, 8, 9] [] rfl rfl (by decide) (by decide) hk_88 hFc hB_88 ht_88
            clear hPc hDc hFc
            generalize H_88 = H at hP hS ⊢
            have hP := hP.sub (ws' := [(mo, .inr (2, [.int th, .ref l1, .ref l2, .int (nI n), .ref l3, .ref l4, .int (nI nk), .ref l5, .ref l6, .int (nI mn), .ref l7, .ref l8, .ref l9, .int (nI (cr_len c0)), .int fd])), (l1, .inl (cI, 2400, .inl f)), (l2, .inl (cI, 2400, .inl g)), (l3, .inl (cI, 2400, .inl kf)), (l4, .inl (cI, 2400, .inl kg)), (l5, .inl (cI, 4800, .inl ef)), (l6, .inl (cI, 4800, .inl eg)), (l7, .inl (cZ, 1120, .inl mt)), (l8, .inl (cI, 4, .inl fr3)), (l9, .inl (cI, 4, .inl tt3))]) [0, 1, 2, 3, 4, 5, 6, 7, 8, 9] rfl
            have hD := hD.sub (ws' := [(mo, .inr (2, [.int th, .ref l1, .ref l2, .int (nI n), .ref l3, .ref l4, .int (nI nk), .ref l5, .ref l6, .int (nI mn), .ref l7, .ref l8, .ref l9, .int (nI (cr_len c0)), .int fd])), (l1, .inl (cI, 2400, .inl f)), (l2, .inl (cI, 2400, .inl g)), (l3, .inl (cI, 2400, .inl kf)), (l4, .inl (cI, 2400, .inl kg)), (l5, .inl (cI, 4800, .inl ef)), (l6, .inl (cI, 4800, .inl eg)), (l7, .inl (cZ, 1120, .inl mt)), (l8, .inl (cI, 4, .inl fr3)), (l9, .inl (cI, 4, .inl tt3))]) [0, 1, 2, 3, 4, 5, 6, 7, 8, 9] (by decide) rfl
            rcases hzr with ⟨rfl, hq⟩ | ⟨rfl, hq⟩
            · refine lv_if_eq (tgt := 99) hx hb dM_runs_91 (by decide) (fun c_91 => ?_) (fun c_91 => ?_)
              · exact absurd c_91 (by decide)
              · refine lv_iload hx hb dM_runs_94 (lv_at hl 6 rfl) ?_
                refine cr_top (y := nI (cr_bnd e0 0 - 1)) (pk_sub (by omega)) ?_
                refine lv_goto (tgt := 100) hx hb dM_runs_96 (by decide) ?_
                refine lv_istore_n (lv' := [(3, .int (nI (cr_bnd e0 0 - 1))), (0, .ref mo), (1, .int (nI c0)), (2, .int (nI e0)), (4, .int (nI 0)), (5, .int (nI (cr_one c0 0))), (6, .int ((nI (cr_bnd e0 0)) - (nI 1)))]) hx hb dM_runs_100 rfl hl (by decide) rfl (fun ls hl => ?_)
                refine lv_iinc (v := nI 1) (lv' := [(4, .int (nI 1)), (3, .int (nI (cr_bnd e0 0 - 1))), (0, .ref mo), (1, .int (nI c0)), (2, .int (nI e0)), (5, .int (nI (cr_one c0 0))), (6, .int ((nI (cr_bnd e0 0)) - (nI 1)))]) hx hb dM_runs_101 hl (k := 4) rfl (by decide) (by decide) rfl (fun ls hl => ?_)
                refine lv_goto (tgt := 5) hx hb dM_runs_104 (by decide) ?_
                exact ih5 1 (cr_bnd e0 0 - 1) (nI (cr_len c0)) fr3 tt3 _ _ _ ⟨⟨by omega, ⟨by omega, by omega, hq⟩, cr_U_s (cr_U_more hU2 (by omega)) (fun a h => Nat.le_trans (h1 a h) (by omega)) (fun d hd _ _ => by omega)⟩, hP, hD, hS, lv_sub hl [2, 3, 4, 1, 0] rfl⟩ (by omega)
            · refine lv_if_eq (tgt := 99) hx hb dM_runs_91 (by decide) (fun c_91 => ?_) (fun c_91 => ?_)
              · refine lv_iload_n hx hb dM_runs_99 rfl (lv_at hl 3 rfl) ?_
                refine lv_istore_n (lv' := [(3, .int (nI bs2)), (0, .ref mo), (1, .int (nI c0)), (2, .int (nI e0)), (4, .int (nI 0)), (5, .int (nI (cr_one c0 0))), (6, .int ((nI (cr_bnd e0 0)) - (nI 1)))]) hx hb dM_runs_100 rfl hl (by decide) rfl (fun ls hl => ?_)
                refine lv_iinc (v := nI 1) (lv' := [(4, .int (nI 1)), (3, .int (nI bs2)), (0, .ref mo), (1, .int (nI c0)), (2, .int (nI e0)), (5, .int (nI (cr_one c0 0))), (6, .int ((nI (cr_bnd e0 0)) - (nI 1)))]) hx hb dM_runs_101 hl (k := 4) rfl (by decide) (by decide) rfl (fun ls hl => ?_)
                refine lv_goto (tgt := 5) hx hb dM_runs_104 (by decide) ?_
                exact ih5 1 bs2 (nI (cr_len c0)) fr3 tt3 _ _ _ ⟨⟨by omega, hB2, cr_U_s hU2 h1 (fun d hd h _ => absurd (show cr_row c0 (cr_bnd e0 0 - 1) by rw [show cr_bnd e0 0 - 1 = d from (by omega)]; exact h) hq)⟩, hP, hD, hS, lv_sub hl [2, 3, 4, 1, 0] rfl⟩ (by omega)
              · exact absurd (by decide) c_91
      · refine lv_iload hx hb dM_runs_43 (lv_at hl 1 rfl) ?_
        refine lv_iload_n hx hb dM_runs_45 rfl (lv_at hl 5 rfl) ?_
        refine lv_icmp_le (tgt := 70) hx hb dM_runs_46 (by decide) (fun c_46 => ?_) (fun c_46 => ?_)
        · rw [nI_leI (by omega) (by omega)] at c_46
          refine lv_iload_n hx hb dM_runs_70 rfl (lv_at hl 5 rfl) ?_
          refine lv_istore_n (lv' := [(3, .int (nI bs)), (6, .int ((nI (cr_bnd e0 0)) - (nI 1))), (5, .int (nI (cr_one c0 0))), (0, .ref mo), (1, .int (nI c0)), (2, .int (nI e0)), (4, .int (nI 0))]) hx hb dM_runs_71 rfl hl (by decide) rfl (fun ls hl => ?_)
          exact jn72 bs b1 fr1 tt1 _ _ _ ⟨⟨hB, hU, fun _ _ => c_46⟩, hP, hD, hS, lv_sub hl [3, 4, 5, 0, 6, 2, 1] rfl⟩
        · rw [nI_leI (by omega) (by omega)] at c_46
          refine lv_iload hx hb dM_runs_49 (lv_at hl 1 rfl) ?_
          refine lv_iload_n hx hb dM_runs_51 rfl (lv_at hl 4 rfl) ?_
          refine lv_icmp_gt (tgt := 70) hx hb dM_runs_52 (by decide) (fun c_52 => ?_) (fun c_52 => ?_)
          · rw [nI_ltI (by omega) (by omega)] at c_52
            refine lv_iload_n hx hb dM_runs_70 rfl (lv_at hl 5 rfl) ?_
            refine lv_istore_n (lv' := [(3, .int (nI bs)), (6, .int ((nI (cr_bnd e0 0)) - (nI 1))), (5, .int (nI (cr_one c0 0))), (0, .ref mo), (1, .int (nI c0)), (2, .int (nI e0)), (4, .int (nI 0))]) hx hb dM_runs_71 rfl hl (by decide) rfl (fun ls hl => ?_)
            exact jn72 bs b1 fr1 tt1 _ _ _ ⟨⟨hB, hU, fun _ h => absurd h (by omega)⟩, hP, hD, hS, lv_sub hl [3, 4, 5, 0, 6, 2, 1] rfl⟩
          · rw [nI_ltI (by omega) (by omega)] at c_52
            refine lv_aload_n hx hb dM_runs_55 rfl (lv_at hl 2 rfl) ?_
            refine lv_iload_n hx hb dM_runs_56 rfl (lv_at hl 3 rfl) ?_
            refine lv_iload hx hb dM_runs_57 (lv_at hl 1 rfl) ?_
            have hPc := hP.sub (ws' := [(mo, .inr (2, [.int th, .ref l1, .ref l2, .int (nI n), .ref l3, .ref l4, .int (nI nk), .ref l5, .ref l6, .int (nI mn), .ref l7, .ref l8, .ref l9, .int b1, .int fd])), (l1, .inl (cI, 2400, .inl f)), (l2, .inl (cI, 2400, .inl g)), (l3, .inl (cI, 2400, .inl kf)), (l4, .inl (cI, 2400, .inl kg)), (l5, .inl (cI, 4800, .inl ef)), (l6, .inl (cI, 4800, .inl eg)), (l7, .inl (cZ, 1120, .inl mt)), (l8, .inl (cI, 4, .inl fr1)), (l9, .inl (cI, 4, .inl tt1))]) [0, 1, 2, 3, 4, 5, 6, 7, 8, 9] rfl
            have hDc := hD.sub (ws' := [(mo, .inr (2, [.int th, .ref l1, .ref l2, .int (nI n), .ref l3, .ref l4, .int (nI nk), .ref l5, .ref l6, .int (nI mn), .ref l7, .ref l8, .ref l9, .int b1, .int fd])), (l1, .inl (cI, 2400, .inl f)), (l2, .inl (cI, 2400, .inl g)), (l3, .inl (cI, 2400, .inl kf)), (l4, .inl (cI, 2400, .inl kg)), (l5, .inl (cI, 4800, .inl ef)), (l6, .inl (cI, 4800, .inl eg)), (l7, .inl (cZ, 1120, .inl mt)), (l8, .inl (cI, 4, .inl fr1)), (l9, .inl (cI, 4, .inl tt1))]) [0, 1, 2, 3, 4, 5, 6, 7, 8, 9] (by decide) rfl
            have hFc := va_free (wc := [(mo, .inr (2, [.int th, .ref l1, .ref l2, .int (nI n), .ref l3, .ref l4, .int (nI nk), .ref l5, .ref l6, .int (nI mn), .ref l7, .ref l8, .ref l9, .int b1, .int fd])), (l1, .inl (cI, 2400, .inl f)), (l2, .inl (cI, 2400, .inl g)), (l3, .inl (cI, 2400, .inl kf)), (l4, .inl (cI, 2400, .inl kg)), (l5, .inl (cI, 4800, .inl ef)), (l6, .inl (cI, 4800, .inl eg)), (l7, .inl (cZ, 1120, .inl mt)), (l8, .inl (cI, 4, .inl fr1)), (l9, .inl (cI, 4, .inl tt1))]) hD hS hA [0, 1, 2, 3, 4, 5, 6, 7, 8, 9] rfl
            refine va_calli (va_runV (As := [.int (nI c0), .int (nI (cr_one c0 0))]) (rest := []) ⟨hx, hb, hml, hown, hts⟩ (m_isRow l dC dI _ mo l1 l2 l3 l4 l5 l6 l7 l8 l9 cI cZ th b1 fd n nk mn f g kf kg ef eg mt fr1 tt1 c0 (cr_one c0 0) (by omega) (by omega)) (cwV 2 hts gM_runs_M_isRow rfl rfl rfl (by decide +kernel) ⟨Nat.le_of_ble_eq_true rfl, Nat.le_of_ble_eq_true rfl⟩) (cr_preV hPc hK hDc (ci := 2) (q0 := 0) rfl rfl) rfl rfl hl.1 rfl (lv_room (Nat.le_of_ble_eq_true rfl)) dM_runs_59 ⟨Nat.zero_le _, Nat.zero_le _⟩) hS (fun q _ h => hFc q h) hFc (fun r_59 u_59 t_59 H_59 locs ht_59 hvm_59 hw_59 hB_59 hz_59 hk_59 hS => ?_)
            obtain ⟨fr3, tt3, rfl, hzr, _⟩ := hw_59
            obtain ⟨hP, hD⟩ := cr_back (wr := []) (w1 := [(mo, .inr (2, [.int th, .ref l1, .ref l2, .int (nI n), .ref l3, .ref l4, .int (nI nk), .ref l5, .ref l6, .int (nI mn), .ref l7, .ref l8, .ref l9, .int (nI (cr_len c0)), .int fd])), (l1, .inl (cI, 2400, .inl f)), (l2, .inl (cI, 2400, .inl g)), (l3, .inl (cI, 2400, .inl kf)), (l4, .inl (cI, 2400, .inl kg)), (l5, .inl (cI, 4800, .inl ef)), (l6, .inl (cI, 4800, .inl eg)), (l7, .inl (cZ, 1120, .inl mt)), (l8, .inl (cI, 4, .inl fr3)), (l9, .inl (cI, 4, .inl tt3))]) hP hD [0, 1, 2, 3, 4, 5, 6, 7, 8, 9] [] rfl rfl (by decide) (by decide) hk_59 hFc hB_59 ht_59
            clear hPc hDc hFc
            generalize H_59 = H at hP hS ⊢
            have hP := hP.sub (ws' := [(mo, .inr (2, [.int th, .ref l1, .ref l2, .int (nI n), .ref l3, .ref l4, .int (nI nk), .ref l5, .ref l6, .int (nI mn), .ref l7, .ref l8, .ref l9, .int (nI (cr_len c0)), .int fd])), (l1, .inl (cI, 2400, .inl f)), (l2, .inl (cI, 2400, .inl g)), (l3, .inl (cI, 2400, .inl kf)), (l4, .inl (cI, 2400, .inl kg)), (l5, .inl (cI, 4800, .inl ef)), (l6, .inl (cI, 4800, .inl eg)), (l7, .inl (cZ, 1120, .inl mt)), (l8, .inl (cI, 4, .inl fr3)), (l9, .inl (cI, 4, .inl tt3))]) [0, 1, 2, 3, 4, 5, 6, 7, 8, 9] rfl
            have hD := hD.sub (ws' := [(mo, .inr (2, [.int th, .ref l1, .ref l2, .int (nI n), .ref l3, .ref l4, .int (nI nk), .ref l5, .ref l6, .int (nI mn), .ref l7, .ref l8, .ref l9, .int (nI (cr_len c0)), .int fd])), (l1, .inl (cI, 2400, .inl f)), (l2, .inl (cI, 2400, .inl g)), (l3, .inl (cI, 2400, .inl kf)), (l4, .inl (cI, 2400, .inl kg)), (l5, .inl (cI, 4800, .inl ef)), (l6, .inl (cI, 4800, .inl eg)), (l7, .inl (cZ, 1120, .inl mt)), (l8, .inl (cI, 4, .inl fr3)), (l9, .inl (cI, 4, .inl tt3))]) [0, 1, 2, 3, 4, 5, 6, 7, 8, 9] (by decide) rfl
            rcases hzr with ⟨rfl, hq⟩ | ⟨rfl, hq⟩
            · refine lv_if_eq (tgt := 70) hx hb dM_runs_62 (by decide) (fun c_62 => ?_) (fun c_62 => ?_)
              · exact absurd c_62 (by decide)
              · refine lv_iload hx hb dM_runs_65 (lv_at hl 1 rfl) ?_
                refine lv_goto (tgt := 71) hx hb dM_runs_67 (by decide) ?_
                refine lv_istore_n (lv' := [(3, .int (nI (cr_one c0 0))), (6, .int ((nI (cr_bnd e0 0)) - (nI 1))), (5, .int (nI (cr_one c0 0))), (0, .ref mo), (1, .int (nI c0)), (2, .int (nI e0)), (4, .int (nI 0))]) hx hb dM_runs_71 rfl hl (by decide) rfl (fun ls hl => ?_)
                exact jn72 (cr_one c0 0) (nI (cr_len c0)) fr3 tt3 _ _ _ ⟨⟨⟨by omega, by omega, hq⟩, cr_U_more hU (by omega), fun _ _ => Nat.le_refl _⟩, hP, hD, hS, lv_sub hl [3, 4, 5, 0, 6, 2, 1] rfl⟩
            · refine lv_if_eq (tgt := 70) hx hb dM_runs_62 (by decide) (fun c_62 => ?_) (fun c_62 => ?_)
              · refine lv_iload_n hx hb dM_runs_70 rfl (lv_at hl 5 rfl) ?_
                refine lv_istore_n (lv' := [(3, .int (nI bs)), (6, .int ((nI (cr_bnd e0 0)) - (nI 1))), (5, .int (nI (cr_one c0 0))), (0, .ref mo), (1, .int (nI c0)), (2, .int (nI e0)), (4, .int (nI 0))]) hx hb dM_runs_71 rfl hl (by decide) rfl (fun ls hl => ?_)
                exact jn72 bs (nI (cr_len c0)) fr3 tt3 _ _ _ ⟨⟨hB, hU, fun h _ => absurd h hq⟩, hP, hD, hS, lv_sub hl [3, 4, 5, 0, 6, 2, 1] rfl⟩
              · exact absurd (by decide) c_62
    · refine lv_iload_n hx hb dM_runs_11 rfl (lv_at hl 1 rfl) ?_
      refine lv_iconst (v := nI 1) hx hb dM_runs_12 (by decide) ?_
      refine lv_bipush (v := nI 6) hx hb dM_runs_13 (by decide) ?_
      refine lv_iload hx hb dM_runs_15 (lv_at hl 4 rfl) ?_
      refine lv_imul hx hb dM_runs_17 ?_
      refine cr_top (y := nI 6) (by decide) ?_
      refine lv_ishl hx hb dM_runs_18 ?_
      refine cr_top (y := nI 64) (by decide) ?_
      refine lv_iconst (v := nI 1) hx hb dM_runs_19 (by decide) ?_
      refine lv_isub hx hb dM_runs_20 ?_
      refine cr_top (y := nI 63) (by decide) ?_
      refine lv_ior hx hb dM_runs_21 ?_
      refine cr_top (y := nI (cr_one c0 1)) (cr_or63 c0) ?_
      refine lv_istore (lv' := [(5, .int (nI (cr_one c0 1))), (0, .ref mo), (1, .int (nI c0)), (2, .int (nI e0)), (3, .int (nI bs)), (4, .int (nI 1))]) hx hb dM_runs_22 hl (by decide) rfl (fun ls hl => ?_)
      refine lv_iload_n hx hb dM_runs_24 rfl (lv_at hl 3 rfl) ?_
      refine lv_iconst (v := nI 1) hx hb dM_runs_25 (by decide) ?_
      refine lv_iadd hx hb dM_runs_26 ?_
      refine cr_top (y := nI (e0 + 1)) (nI_add e0 1) ?_
      refine lv_bipush (v := nI 6) hx hb dM_runs_27 (by decide) ?_
      refine lv_iload hx hb dM_runs_29 (lv_at hl 5 rfl) ?_
      refine lv_imul hx hb dM_runs_31 ?_
      refine cr_top (y := nI 6) (by decide) ?_
      refine lv_ishr hx hb dM_runs_32 ?_
      refine lv_bipush (v := nI 6) hx hb dM_runs_33 (by decide) ?_
      refine lv_iload hx hb dM_runs_35 (lv_at hl 5 rfl) ?_
      refine lv_imul hx hb dM_runs_37 ?_
      refine cr_top (y := nI 6) (by decide) ?_
      refine lv_ishl hx hb dM_runs_38 ?_
      refine cr_top (y := nI (cr_bnd e0 1)) (cr_sh6 (by omega)) ?_
      refine lv_iconst (v := nI 1) hx hb dM_runs_39 (by decide) ?_
      refine lv_isub hx hb dM_runs_40 ?_
      refine lv_istore (lv' := [(6, .int ((nI (cr_bnd e0 1)) - (nI 1))), (5, .int (nI (cr_one c0 1))), (0, .ref mo), (1, .int (nI c0)), (2, .int (nI e0)), (3, .int (nI bs)), (4, .int (nI 1))]) hx hb dM_runs_41 hl (by decide) rfl (fun ls hl => ?_)
      refine cr_cut4 72 [] (fun (bs2 : Nat) (b2 : Int32) (fr2 : Nat → Int32) (tt2 : Nat → Int32) H locs ls => (cr_Bs c0 e0 bs2 ∧ cr_U c0 e0 bs2 1 ∧ (cr_row c0 (cr_one c0 1) → cr_one c0 1 ≤ e0 → cr_one c0 1 ≤ bs2)) ∧ va_P (dC, dI) crCl [(mo, .inr (2, [.int th, .ref l1, .ref l2, .int (nI n), .ref l3, .ref l4, .int (nI nk), .ref l5, .ref l6, .int (nI mn), .ref l7, .ref l8, .ref l9, .int b2, .int fd])), (l1, .inl (cI, 2400, .inl f)), (l2, .inl (cI, 2400, .inl g)), (l3, .inl (cI, 2400, .inl kf)), (l4, .inl (cI, 2400, .inl kg)), (l5, .inl (cI, 4800, .inl ef)), (l6, .inl (cI, 4800, .inl eg)), (l7, .inl (cZ, 1120, .inl mt)), (l8, .inl (cI, 4, .inl fr2)), (l9, .inl (cI, 4, .inl tt2))] H ∧ va_D A [(mo, .inr (2, [.int th, .ref l1, .ref l2, .int (nI n), .ref l3, .ref l4, .int (nI nk), .ref l5, .ref l6, .int (nI mn), .ref l7, .ref l8, .ref l9, .int b2, .int fd])), (l1, .inl (cI, 2400, .inl f)), (l2, .inl (cI, 2400, .inl g)), (l3, .inl (cI, 2400, .inl kf)), (l4, .inl (cI, 2400, .inl kg)), (l5, .inl (cI, 4800, .inl ef)), (l6, .inl (cI, 4800, .inl eg)), (l7, .inl (cZ, 1120, .inl mt)), (l8, .inl (cI, 4, .inl fr2)), (l9, .inl (cI, 4, .inl tt2))] ∧ va_S A s.heap H locs ∧ lv_has ls 7 [(0, .ref mo), (1, .int (nI c0)), (2, .int (nI e0)), (3, .int (nI bs2)), (4, .int (nI 1)), (5, .int (nI (cr_one c0 1))), (6, .int ((nI (cr_bnd e0 1)) - (nI 1)))]) ?_ (fun jn72 => ?_)
      · intro bs2 b2 fr2 tt2 H locs ls hJ72
        obtain ⟨⟨hB2, hU2, h1⟩, hP, hD, hS, hl⟩ := hJ72
        obtain ⟨hC1, hC2, hC3⟩ := id hB2
        refine lv_iload hx hb dM_runs_72 (lv_at hl 6 rfl) ?_
        refine lv_iload_n hx hb dM_runs_74 rfl (lv_at hl 3 rfl) ?_
        refine lv_icmp_le (tgt := 99) hx hb dM_runs_75 (by decide) (fun c_75 => ?_) (fun c_75 => ?_)
        · rw [Int32.le_iff_toInt_le, pk_sub_toInt (by omega) (by omega), nI_toInt (by omega)] at c_75
          refine lv_iload_n hx hb dM_runs_99 rfl (lv_at hl 3 rfl) ?_
          refine lv_istore_n (lv' := [(3, .int (nI bs2)), (0, .ref mo), (1, .int (nI c0)), (2, .int (nI e0)), (4, .int (nI 1)), (5, .int (nI (cr_one c0 1))), (6, .int ((nI (cr_bnd e0 1)) - (nI 1)))]) hx hb dM_runs_100 rfl hl (by decide) rfl (fun ls hl => ?_)
          refine lv_iinc (v := nI 2) (lv' := [(4, .int (nI 2)), (3, .int (nI bs2)), (0, .ref mo), (1, .int (nI c0)), (2, .int (nI e0)), (5, .int (nI (cr_one c0 1))), (6, .int ((nI (cr_bnd e0 1)) - (nI 1)))]) hx hb dM_runs_101 hl (k := 4) rfl (by decide) (by decide) rfl (fun ls hl => ?_)
          refine lv_goto (tgt := 5) hx hb dM_runs_104 (by decide) ?_
          exact ih5 2 bs2 b2 fr2 tt2 _ _ _ ⟨⟨by omega, hB2, cr_U_s hU2 h1 (fun d hd _ _ => by omega)⟩, hP, hD, hS, lv_sub hl [2, 3, 4, 1, 0] rfl⟩ (by omega)
        · rw [Int32.le_iff_toInt_le, pk_sub_toInt (by omega) (by omega), nI_toInt (by omega)] at c_75
          refine lv_iload hx hb dM_runs_78 (lv_at hl 6 rfl) ?_
          refine lv_iload_n hx hb dM_runs_80 rfl (lv_at hl 2 rfl) ?_
          refine lv_icmp_gt (tgt := 99) hx hb dM_runs_81 (by decide) (fun c_81 => ?_) (fun c_81 => ?_)
          · rw [Int32.lt_iff_toInt_lt, pk_sub_toInt (by omega) (by omega), nI_toInt (by omega)] at c_81
            refine lv_iload_n hx hb dM_runs_99 rfl (lv_at hl 3 rfl) ?_
            refine lv_istore_n (lv' := [(3, .int (nI bs2)), (0, .ref mo), (1, .int (nI c0)), (2, .int (nI e0)), (4, .int (nI 1)), (5, .int (nI (cr_one c0 1))), (6, .int ((nI (cr_bnd e0 1)) - (nI 1)))]) hx hb dM_runs_100 rfl hl (by decide) rfl (fun ls hl => ?_)
            refine lv_iinc (v := nI 2) (lv' := [(4, .int (nI 2)), (3, .int (nI bs2)), (0, .ref mo), (1, .int (nI c0)), (2, .int (nI e0)), (5, .int (nI (cr_one c0 1))), (6, .int ((nI (cr_bnd e0 1)) - (nI 1)))]) hx hb dM_runs_101 hl (k := 4) rfl (by decide) (by decide) rfl (fun ls hl => ?_)
            refine lv_goto (tgt := 5) hx hb dM_runs_104 (by decide) ?_
            exact ih5 2 bs2 b2 fr2 tt2 _ _ _ ⟨⟨by omega, hB2, cr_U_s hU2 h1 (fun d hd _ h => absurd h (by omega))⟩, hP, hD, hS, lv_sub hl [2, 3, 4, 1, 0] rfl⟩ (by omega)
          · rw [Int32.lt_iff_toInt_lt, pk_sub_toInt (by omega) (by omega), nI_toInt (by omega)] at c_81
            refine lv_aload_n hx hb dM_runs_84 rfl (lv_at hl 0 rfl) ?_
            refine lv_iload_n hx hb dM_runs_85 rfl (lv_at hl 1 rfl) ?_
            refine lv_iload hx hb dM_runs_86 (lv_at hl 6 rfl) ?_
            refine cr_top (y := nI (cr_bnd e0 1 - 1)) (pk_sub (by omega)) ?_
            have hPc := hP.sub (ws' := [(mo, .inr (2, [.int th, .ref l1, .ref l2, .int (nI n), .ref l3, .ref l4, .int (nI nk), .ref l5, .ref l6, .int (nI mn), .ref l7, .ref l8, .ref l9, .int b2, .int fd])), (l1, .inl (cI, 2400, .inl f)), (l2, .inl (cI, 2400, .inl g)), (l3, .inl (cI, 2400, .inl kf)), (l4, .inl (cI, 2400, .inl kg)), (l5, .inl (cI, 4800, .inl ef)), (l6, .inl (cI, 4800, .inl eg)), (l7, .inl (cZ, 1120, .inl mt)), (l8, .inl (cI, 4, .inl fr2)), (l9, .inl (cI, 4, .inl tt2))]) [0, 1, 2, 3, 4, 5, 6, 7, 8, 9] rfl
            have hDc := hD.sub (ws' := [(mo, .inr (2, [.int th, .ref l1, .ref l2, .int (nI n), .ref l3, .ref l4, .int (nI nk), .ref l5, .ref l6, .int (nI mn), .ref l7, .ref l8, .ref l9, .int b2, .int fd])), (l1, .inl (cI, 2400, .inl f)), (l2, .inl (cI, 2400, .inl g)), (l3, .inl (cI, 2400, .inl kf)), (l4, .inl (cI, 2400, .inl kg)), (l5, .inl (cI, 4800, .inl ef)), (l6, .inl (cI, 4800, .inl eg)), (l7, .inl (cZ, 1120, .inl mt)), (l8, .inl (cI, 4, .inl fr2)), (l9, .inl (cI, 4, .inl tt2))]) [0, 1, 2, 3, 4, 5, 6, 7, 8, 9] (by decide) rfl
            have hFc := va_free (wc := [(mo, .inr (2, [.int th, .ref l1, .ref l2, .int (nI n), .ref l3, .ref l4, .int (nI nk), .ref l5, .ref l6, .int (nI mn), .ref l7, .ref l8, .ref l9, .int b2, .int fd])), (l1, .inl (cI, 2400, .inl f)), (l2, .inl (cI, 2400, .inl g)), (l3, .inl (cI, 2400, .inl kf)), (l4, .inl (cI, 2400, .inl kg)), (l5, .inl (cI, 4800, .inl ef)), (l6, .inl (cI, 4800, .inl eg)), (l7, .inl (cZ, 1120, .inl mt)), (l8, .inl (cI, 4, .inl fr2)), (l9, .inl (cI, 4, .inl tt2))]) hD hS hA [0, 1, 2, 3, 4, 5, 6, 7, 8, 9] rfl
            refine va_calli (va_runV (As := [.int (nI c0), .int (nI (cr_bnd e0 1 - 1))]) (rest := []) ⟨hx, hb, hml, hown, hts⟩ (m_isRow l dC dI _ mo l1 l2 l3 l4 l5 l6 l7 l8 l9 cI cZ th b2 fd n nk mn f g kf kg ef eg mt fr2 tt2 c0 (cr_bnd e0 1 - 1) (by omega) (by omega)) (cwV 2 hts gM_runs_M_isRow rfl rfl rfl (by decide +kernel) ⟨Nat.le_of_ble_eq_true rfl, Nat.le_of_ble_eq_true rfl⟩) (cr_preV hPc hK hDc (ci := 2) (q0 := 0) rfl rfl) rfl rfl hl.1 rfl (lv_room (Nat.le_of_ble_eq_true rfl)) dM_runs_88 ⟨Nat.zero_le _, Nat.zero_le _⟩) hS (fun q _ h => hFc q h) hFc (fun r_88 u_88 t_88 H_88 locs ht_88 hvm_88 hw_88 hB_88 hz_88 hk_88 hS => ?_)
            obtain ⟨fr3, tt3, rfl, hzr, _⟩ := hw_88
            obtain ⟨hP, hD⟩ := cr_back (wr := []) (w1 := [(mo, .inr (2, [.int th, .ref l1, .ref l2, .int (nI n), .ref l3, .ref l4, .int (nI nk), .ref l5, .ref l6, .int (nI mn), .ref l7, .ref l8, .ref l9, .int (nI (cr_len c0)), .int fd])), (l1, .inl (cI, 2400, .inl f)), (l2, .inl (cI, 2400, .inl g)), (l3, .inl (cI, 2400, .inl kf)), (l4, .inl (cI, 2400, .inl kg)), (l5, .inl (cI, 4800, .inl ef)), (l6, .inl (cI, 4800, .inl eg)), (l7, .inl (cZ, 1120, .inl mt)), (l8, .inl (cI, 4, .inl fr3)), (l9, .inl (cI, 4, .inl tt3))]) hP hD [0, 1, 2, 3, 4, 5, 6, 7, 8, 9] [] rfl rfl (by decide) (by decide) hk_88 hFc hB_88 ht_88
            clear hPc hDc hFc
            generalize H_88 = H at hP hS ⊢
            have hP := hP.sub (ws' := [(mo, .inr (2, [.int th, .ref l1, .ref l2, .int (nI n), .ref l3, .ref l4, .int (nI nk), .ref l5, .ref l6, .int (nI mn), .ref l7, .ref l8, .ref l9, .int (nI (cr_len c0)), .int fd])), (l1, .inl (cI, 2400, .inl f)), (l2, .inl (cI, 2400, .inl g)), (l3, .inl (cI, 2400, .inl kf)), (l4, .inl (cI, 2400, .inl kg)), (l5, .inl (cI, 4800, .inl ef)), (l6, .inl (cI, 4800, .inl eg)), (l7, .inl (cZ, 1120, .inl mt)), (l8, .inl (cI, 4, .inl fr3)), (l9, .inl (cI, 4, .inl tt3))]) [0, 1, 2, 3, 4, 5, 6, 7, 8, 9] rfl
            have hD := hD.sub (ws' := [(mo, .inr (2, [.int th, .ref l1, .ref l2, .int (nI n), .ref l3, .ref l4, .int (nI nk), .ref l5, .ref l6, .int (nI mn), .ref l7, .ref l8, .ref l9, .int (nI (cr_len c0)), .int fd])), (l1, .inl (cI, 2400, .inl f)), (l2, .inl (cI, 2400, .inl g)), (l3, .inl (cI, 2400, .inl kf)), (l4, .inl (cI, 2400, .inl kg)), (l5, .inl (cI, 4800, .inl ef)), (l6, .inl (cI, 4800, .inl eg)), (l7, .inl (cZ, 1120, .inl mt)), (l8, .inl (cI, 4, .inl fr3)), (l9, .inl (cI, 4, .inl tt3))]) [0, 1, 2, 3, 4, 5, 6, 7, 8, 9] (by decide) rfl
            rcases hzr with ⟨rfl, hq⟩ | ⟨rfl, hq⟩
            · refine lv_if_eq (tgt := 99) hx hb dM_runs_91 (by decide) (fun c_91 => ?_) (fun c_91 => ?_)
              · exact absurd c_91 (by decide)
              · refine lv_iload hx hb dM_runs_94 (lv_at hl 6 rfl) ?_
                refine cr_top (y := nI (cr_bnd e0 1 - 1)) (pk_sub (by omega)) ?_
                refine lv_goto (tgt := 100) hx hb dM_runs_96 (by decide) ?_
                refine lv_istore_n (lv' := [(3, .int (nI (cr_bnd e0 1 - 1))), (0, .ref mo), (1, .int (nI c0)), (2, .int (nI e0)), (4, .int (nI 1)), (5, .int (nI (cr_one c0 1))), (6, .int ((nI (cr_bnd e0 1)) - (nI 1)))]) hx hb dM_runs_100 rfl hl (by decide) rfl (fun ls hl => ?_)
                refine lv_iinc (v := nI 2) (lv' := [(4, .int (nI 2)), (3, .int (nI (cr_bnd e0 1 - 1))), (0, .ref mo), (1, .int (nI c0)), (2, .int (nI e0)), (5, .int (nI (cr_one c0 1))), (6, .int ((nI (cr_bnd e0 1)) - (nI 1)))]) hx hb dM_runs_101 hl (k := 4) rfl (by decide) (by decide) rfl (fun ls hl => ?_)
                refine lv_goto (tgt := 5) hx hb dM_runs_104 (by decide) ?_
                exact ih5 2 (cr_bnd e0 1 - 1) (nI (cr_len c0)) fr3 tt3 _ _ _ ⟨⟨by omega, ⟨by omega, by omega, hq⟩, cr_U_s (cr_U_more hU2 (by omega)) (fun a h => Nat.le_trans (h1 a h) (by omega)) (fun d hd _ _ => by omega)⟩, hP, hD, hS, lv_sub hl [2, 3, 4, 1, 0] rfl⟩ (by omega)
            · refine lv_if_eq (tgt := 99) hx hb dM_runs_91 (by decide) (fun c_91 => ?_) (fun c_91 => ?_)
              · refine lv_iload_n hx hb dM_runs_99 rfl (lv_at hl 3 rfl) ?_
                refine lv_istore_n (lv' := [(3, .int (nI bs2)), (0, .ref mo), (1, .int (nI c0)), (2, .int (nI e0)), (4, .int (nI 1)), (5, .int (nI (cr_one c0 1))), (6, .int ((nI (cr_bnd e0 1)) - (nI 1)))]) hx hb dM_runs_100 rfl hl (by decide) rfl (fun ls hl => ?_)
                refine lv_iinc (v := nI 2) (lv' := [(4, .int (nI 2)), (3, .int (nI bs2)), (0, .ref mo), (1, .int (nI c0)), (2, .int (nI e0)), (5, .int (nI (cr_one c0 1))), (6, .int ((nI (cr_bnd e0 1)) - (nI 1)))]) hx hb dM_runs_101 hl (k := 4) rfl (by decide) (by decide) rfl (fun ls hl => ?_)
                refine lv_goto (tgt := 5) hx hb dM_runs_104 (by decide) ?_
                exact ih5 2 bs2 (nI (cr_len c0)) fr3 tt3 _ _ _ ⟨⟨by omega, hB2, cr_U_s hU2 h1 (fun d hd h _ => absurd (show cr_row c0 (cr_bnd e0 1 - 1) by rw [show cr_bnd e0 1 - 1 = d from (by omega)]; exact h) hq)⟩, hP, hD, hS, lv_sub hl [2, 3, 4, 1, 0] rfl⟩ (by omega)
              · exact absurd (by decide) c_91
      · refine lv_iload hx hb dM_runs_43 (lv_at hl 1 rfl) ?_
        refine lv_iload_n hx hb dM_runs_45 rfl (lv_at hl 5 rfl) ?_
        refine lv_icmp_le (tgt := 70) hx hb dM_runs_46 (by decide) (fun c_46 => ?_) (fun c_46 => ?_)
        · rw [nI_leI (by omega) (by omega)] at c_46
          refine lv_iload_n hx hb dM_runs_70 rfl (lv_at hl 5 rfl) ?_
          refine lv_istore_n (lv' := [(3, .int (nI bs)), (6, .int ((nI (cr_bnd e0 1)) - (nI 1))), (5, .int (nI (cr_one c0 1))), (0, .ref mo), (1, .int (nI c0)), (2, .int (nI e0)), (4, .int (nI 1))]) hx hb dM_runs_71 rfl hl (by decide) rfl (fun ls hl => ?_)
          exact jn72 bs b1 fr1 tt1 _ _ _ ⟨⟨hB, hU, fun _ _ => c_46⟩, hP, hD, hS, lv_sub hl [3, 4, 5, 0, 6, 2, 1] rfl⟩
        · rw [nI_leI (by omega) (by omega)] at c_46
          refine lv_iload hx hb dM_runs_49 (lv_at hl 1 rfl) ?_
          refine lv_iload_n hx hb dM_runs_51 rfl (lv_at hl 4 rfl) ?_
          refine lv_icmp_gt (tgt := 70) hx hb dM_runs_52 (by decide) (fun c_52 => ?_) (fun c_52 => ?_)
          · rw [nI_ltI (by omega) (by omega)] at c_52
            refine lv_iload_n hx hb dM_runs_70 rfl (lv_at hl 5 rfl) ?_
            refine lv_istore_n (lv' := [(3, .int (nI bs)), (6, .int ((nI (cr_bnd e0 1)) - (nI 1))), (5, .int (nI (cr_one c0 1))), (0, .ref mo), (1, .int (nI c0)), (2, .int (nI e0)), (4, .int (nI 1))]) hx hb dM_runs_71 rfl hl (by decide) rfl (fun ls hl => ?_)
            exact jn72 bs b1 fr1 tt1 _ _ _ ⟨⟨hB, hU, fun _ h => absurd h (by omega)⟩, hP, hD, hS, lv_sub hl [3, 4, 5, 0, 6, 2, 1] rfl⟩
          · rw [nI_ltI (by omega) (by omega)] at c_52
            refine lv_aload_n hx hb dM_runs_55 rfl (lv_at hl 2 rfl) ?_
            refine lv_iload_n hx hb dM_runs_56 rfl (lv_at hl 3 rfl) ?_
            refine lv_iload hx hb dM_runs_57 (lv_at hl 1 rfl) ?_
            have hPc := hP.sub (ws' := [(mo, .inr (2, [.int th, .ref l1, .ref l2, .int (nI n), .ref l3, .ref l4, .int (nI nk), .ref l5, .ref l6, .int (nI mn), .ref l7, .ref l8, .ref l9, .int b1, .int fd])), (l1, .inl (cI, 2400, .inl f)), (l2, .inl (cI, 2400, .inl g)), (l3, .inl (cI, 2400, .inl kf)), (l4, .inl (cI, 2400, .inl kg)), (l5, .inl (cI, 4800, .inl ef)), (l6, .inl (cI, 4800, .inl eg)), (l7, .inl (cZ, 1120, .inl mt)), (l8, .inl (cI, 4, .inl fr1)), (l9, .inl (cI, 4, .inl tt1))]) [0, 1, 2, 3, 4, 5, 6, 7, 8, 9] rfl
            have hDc := hD.sub (ws' := [(mo, .inr (2, [.int th, .ref l1, .ref l2, .int (nI n), .ref l3, .ref l4, .int (nI nk), .ref l5, .ref l6, .int (nI mn), .ref l7, .ref l8, .ref l9, .int b1, .int fd])), (l1, .inl (cI, 2400, .inl f)), (l2, .inl (cI, 2400, .inl g)), (l3, .inl (cI, 2400, .inl kf)), (l4, .inl (cI, 2400, .inl kg)), (l5, .inl (cI, 4800, .inl ef)), (l6, .inl (cI, 4800, .inl eg)), (l7, .inl (cZ, 1120, .inl mt)), (l8, .inl (cI, 4, .inl fr1)), (l9, .inl (cI, 4, .inl tt1))]) [0, 1, 2, 3, 4, 5, 6, 7, 8, 9] (by decide) rfl
            have hFc := va_free (wc := [(mo, .inr (2, [.int th, .ref l1, .ref l2, .int (nI n), .ref l3, .ref l4, .int (nI nk), .ref l5, .ref l6, .int (nI mn), .ref l7, .ref l8, .ref l9, .int b1, .int fd])), (l1, .inl (cI, 2400, .inl f)), (l2, .inl (cI, 2400, .inl g)), (l3, .inl (cI, 2400, .inl kf)), (l4, .inl (cI, 2400, .inl kg)), (l5, .inl (cI, 4800, .inl ef)), (l6, .inl (cI, 4800, .inl eg)), (l7, .inl (cZ, 1120, .inl mt)), (l8, .inl (cI, 4, .inl fr1)), (l9, .inl (cI, 4, .inl tt1))]) hD hS hA [0, 1, 2, 3, 4, 5, 6, 7, 8, 9] rfl
            refine va_calli (va_runV (As := [.int (nI c0), .int (nI (cr_one c0 1))]) (rest := []) ⟨hx, hb, hml, hown, hts⟩ (m_isRow l dC dI _ mo l1 l2 l3 l4 l5 l6 l7 l8 l9 cI cZ th b1 fd n nk mn f g kf kg ef eg mt fr1 tt1 c0 (cr_one c0 1) (by omega) (by omega)) (cwV 2 hts gM_runs_M_isRow rfl rfl rfl (by decide +kernel) ⟨Nat.le_of_ble_eq_true rfl, Nat.le_of_ble_eq_true rfl⟩) (cr_preV hPc hK hDc (ci := 2) (q0 := 0) rfl rfl) rfl rfl hl.1 rfl (lv_room (Nat.le_of_ble_eq_true rfl)) dM_runs_59 ⟨Nat.zero_le _, Nat.zero_le _⟩) hS (fun q _ h => hFc q h) hFc (fun r_59 u_59 t_59 H_59 locs ht_59 hvm_59 hw_59 hB_59 hz_59 hk_59 hS => ?_)
            obtain ⟨fr3, tt3, rfl, hzr, _⟩ := hw_59
            obtain ⟨hP, hD⟩ := cr_back (wr := []) (w1 := [(mo, .inr (2, [.int th, .ref l1, .ref l2, .int (nI n), .ref l3, .ref l4, .int (nI nk), .ref l5, .ref l6, .int (nI mn), .ref l7, .ref l8, .ref l9, .int (nI (cr_len c0)), .int fd])), (l1, .inl (cI, 2400, .inl f)), (l2, .inl (cI, 2400, .inl g)), (l3, .inl (cI, 2400, .inl kf)), (l4, .inl (cI, 2400, .inl kg)), (l5, .inl (cI, 4800, .inl ef)), (l6, .inl (cI, 4800, .inl eg)), (l7, .inl (cZ, 1120, .inl mt)), (l8, .inl (cI, 4, .inl fr3)), (l9, .inl (cI, 4, .inl tt3))]) hP hD [0, 1, 2, 3, 4, 5, 6, 7, 8, 9] [] rfl rfl (by decide) (by decide) hk_59 hFc hB_59 ht_59
            clear hPc hDc hFc
            generalize H_59 = H at hP hS ⊢
            have hP := hP.sub (ws' := [(mo, .inr (2, [.int th, .ref l1, .ref l2, .int (nI n), .ref l3, .ref l4, .int (nI nk), .ref l5, .ref l6, .int (nI mn), .ref l7, .ref l8, .ref l9, .int (nI (cr_len c0)), .int fd])), (l1, .inl (cI, 2400, .inl f)), (l2, .inl (cI, 2400, .inl g)), (l3, .inl (cI, 2400, .inl kf)), (l4, .inl (cI, 2400, .inl kg)), (l5, .inl (cI, 4800, .inl ef)), (l6, .inl (cI, 4800, .inl eg)), (l7, .inl (cZ, 1120, .inl mt)), (l8, .inl (cI, 4, .inl fr3)), (l9, .inl (cI, 4, .inl tt3))]) [0, 1, 2, 3, 4, 5, 6, 7, 8, 9] rfl
            have hD := hD.sub (ws' := [(mo, .inr (2, [.int th, .ref l1, .ref l2, .int (nI n), .ref l3, .ref l4, .int (nI nk), .ref l5, .ref l6, .int (nI mn), .ref l7, .ref l8, .ref l9, .int (nI (cr_len c0)), .int fd])), (l1, .inl (cI, 2400, .inl f)), (l2, .inl (cI, 2400, .inl g)), (l3, .inl (cI, 2400, .inl kf)), (l4, .inl (cI, 2400, .inl kg)), (l5, .inl (cI, 4800, .inl ef)), (l6, .inl (cI, 4800, .inl eg)), (l7, .inl (cZ, 1120, .inl mt)), (l8, .inl (cI, 4, .inl fr3)), (l9, .inl (cI, 4, .inl tt3))]) [0, 1, 2, 3, 4, 5, 6, 7, 8, 9] (by decide) rfl
            rcases hzr with ⟨rfl, hq⟩ | ⟨rfl, hq⟩
            · refine lv_if_eq (tgt := 70) hx hb dM_runs_62 (by decide) (fun c_62 => ?_) (fun c_62 => ?_)
              · exact absurd c_62 (by decide)
              · refine lv_iload hx hb dM_runs_65 (lv_at hl 1 rfl) ?_
                refine lv_goto (tgt := 71) hx hb dM_runs_67 (by decide) ?_
                refine lv_istore_n (lv' := [(3, .int (nI (cr_one c0 1))), (6, .int ((nI (cr_bnd e0 1)) - (nI 1))), (5, .int (nI (cr_one c0 1))), (0, .ref mo), (1, .int (nI c0)), (2, .int (nI e0)), (4, .int (nI 1))]) hx hb dM_runs_71 rfl hl (by decide) rfl (fun ls hl => ?_)
                exact jn72 (cr_one c0 1) (nI (cr_len c0)) fr3 tt3 _ _ _ ⟨⟨⟨by omega, by omega, hq⟩, cr_U_more hU (by omega), fun _ _ => Nat.le_refl _⟩, hP, hD, hS, lv_sub hl [3, 4, 5, 0, 6, 2, 1] rfl⟩
            · refine lv_if_eq (tgt := 70) hx hb dM_runs_62 (by decide) (fun c_62 => ?_) (fun c_62 => ?_)
              · refine lv_iload_n hx hb dM_runs_70 rfl (lv_at hl 5 rfl) ?_
                refine lv_istore_n (lv' := [(3, .int (nI bs)), (6, .int ((nI (cr_bnd e0 1)) - (nI 1))), (5, .int (nI (cr_one c0 1))), (0, .ref mo), (1, .int (nI c0)), (2, .int (nI e0)), (4, .int (nI 1))]) hx hb dM_runs_71 rfl hl (by decide) rfl (fun ls hl => ?_)
                exact jn72 bs (nI (cr_len c0)) fr3 tt3 _ _ _ ⟨⟨hB, hU, fun h _ => absurd h hq⟩, hP, hD, hS, lv_sub hl [3, 4, 5, 0, 6, 2, 1] rfl⟩
              · exact absurd (by decide) c_62
    · refine lv_iload_n hx hb dM_runs_11 rfl (lv_at hl 1 rfl) ?_
      refine lv_iconst (v := nI 1) hx hb dM_runs_12 (by decide) ?_
      refine lv_bipush (v := nI 6) hx hb dM_runs_13 (by decide) ?_
      refine lv_iload hx hb dM_runs_15 (lv_at hl 4 rfl) ?_
      refine lv_imul hx hb dM_runs_17 ?_
      refine cr_top (y := nI 12) (by decide) ?_
      refine lv_ishl hx hb dM_runs_18 ?_
      refine cr_top (y := nI 4096) (by decide) ?_
      refine lv_iconst (v := nI 1) hx hb dM_runs_19 (by decide) ?_
      refine lv_isub hx hb dM_runs_20 ?_
      refine cr_top (y := nI 4095) (by decide) ?_
      refine lv_ior hx hb dM_runs_21 ?_
      refine cr_top (y := nI (cr_one c0 2)) (cr_or4095 c0) ?_
      refine lv_istore (lv' := [(5, .int (nI (cr_one c0 2))), (0, .ref mo), (1, .int (nI c0)), (2, .int (nI e0)), (3, .int (nI bs)), (4, .int (nI 2))]) hx hb dM_runs_22 hl (by decide) rfl (fun ls hl => ?_)
      refine lv_iload_n hx hb dM_runs_24 rfl (lv_at hl 3 rfl) ?_
      refine lv_iconst (v := nI 1) hx hb dM_runs_25 (by decide) ?_
      refine lv_iadd hx hb dM_runs_26 ?_
      refine cr_top (y := nI (e0 + 1)) (nI_add e0 1) ?_
      refine lv_bipush (v := nI 6) hx hb dM_runs_27 (by decide) ?_
      refine lv_iload hx hb dM_runs_29 (lv_at hl 5 rfl) ?_
      refine lv_imul hx hb dM_runs_31 ?_
      refine cr_top (y := nI 12) (by decide) ?_
      refine lv_ishr hx hb dM_runs_32 ?_
      refine lv_bipush (v := nI 6) hx hb dM_runs_33 (by decide) ?_
      refine lv_iload hx hb dM_runs_35 (lv_at hl 5 rfl) ?_
      refine lv_imul hx hb dM_runs_37 ?_
      refine cr_top (y := nI 12) (by decide) ?_
      refine lv_ishl hx hb dM_runs_38 ?_
      refine cr_top (y := nI (cr_bnd e0 2)) (cr_sh12 (by omega)) ?_
      refine lv_iconst (v := nI 1) hx hb dM_runs_39 (by decide) ?_
      refine lv_isub hx hb dM_runs_40 ?_
      refine lv_istore (lv' := [(6, .int ((nI (cr_bnd e0 2)) - (nI 1))), (5, .int (nI (cr_one c0 2))), (0, .ref mo), (1, .int (nI c0)), (2, .int (nI e0)), (3, .int (nI bs)), (4, .int (nI 2))]) hx hb dM_runs_41 hl (by decide) rfl (fun ls hl => ?_)
      refine cr_cut4 72 [] (fun (bs2 : Nat) (b2 : Int32) (fr2 : Nat → Int32) (tt2 : Nat → Int32) H locs ls => (cr_Bs c0 e0 bs2 ∧ cr_U c0 e0 bs2 2 ∧ (cr_row c0 (cr_one c0 2) → cr_one c0 2 ≤ e0 → cr_one c0 2 ≤ bs2)) ∧ va_P (dC, dI) crCl [(mo, .inr (2, [.int th, .ref l1, .ref l2, .int (nI n), .ref l3, .ref l4, .int (nI nk), .ref l5, .ref l6, .int (nI mn), .ref l7, .ref l8, .ref l9, .int b2, .int fd])), (l1, .inl (cI, 2400, .inl f)), (l2, .inl (cI, 2400, .inl g)), (l3, .inl (cI, 2400, .inl kf)), (l4, .inl (cI, 2400, .inl kg)), (l5, .inl (cI, 4800, .inl ef)), (l6, .inl (cI, 4800, .inl eg)), (l7, .inl (cZ, 1120, .inl mt)), (l8, .inl (cI, 4, .inl fr2)), (l9, .inl (cI, 4, .inl tt2))] H ∧ va_D A [(mo, .inr (2, [.int th, .ref l1, .ref l2, .int (nI n), .ref l3, .ref l4, .int (nI nk), .ref l5, .ref l6, .int (nI mn), .ref l7, .ref l8, .ref l9, .int b2, .int fd])), (l1, .inl (cI, 2400, .inl f)), (l2, .inl (cI, 2400, .inl g)), (l3, .inl (cI, 2400, .inl kf)), (l4, .inl (cI, 2400, .inl kg)), (l5, .inl (cI, 4800, .inl ef)), (l6, .inl (cI, 4800, .inl eg)), (l7, .inl (cZ, 1120, .inl mt)), (l8, .inl (cI, 4, .inl fr2)), (l9, .inl (cI, 4, .inl tt2))] ∧ va_S A s.heap H locs ∧ lv_has ls 7 [(0, .ref mo), (1, .int (nI c0)), (2, .int (nI e0)), (3, .int (nI bs2)), (4, .int (nI 2)), (5, .int (nI (cr_one c0 2))), (6, .int ((nI (cr_bnd e0 2)) - (nI 1)))]) ?_ (fun jn72 => ?_)
      · intro bs2 b2 fr2 tt2 H locs ls hJ72
        obtain ⟨⟨hB2, hU2, h1⟩, hP, hD, hS, hl⟩ := hJ72
        obtain ⟨hC1, hC2, hC3⟩ := id hB2
        refine lv_iload hx hb dM_runs_72 (lv_at hl 6 rfl) ?_
        refine lv_iload_n hx hb dM_runs_74 rfl (lv_at hl 3 rfl) ?_
        refine lv_icmp_le (tgt := 99) hx hb dM_runs_75 (by decide) (fun c_75 => ?_) (fun c_75 => ?_)
        · rw [Int32.le_iff_toInt_le, pk_sub_toInt (by omega) (by omega), nI_toInt (by omega)] at c_75
          refine lv_iload_n hx hb dM_runs_99 rfl (lv_at hl 3 rfl) ?_
          refine lv_istore_n (lv' := [(3, .int (nI bs2)), (0, .ref mo), (1, .int (nI c0)), (2, .int (nI e0)), (4, .int (nI 2)), (5, .int (nI (cr_one c0 2))), (6, .int ((nI (cr_bnd e0 2)) - (nI 1)))]) hx hb dM_runs_100 rfl hl (by decide) rfl (fun ls hl => ?_)
          refine lv_iinc (v := nI 3) (lv' := [(4, .int (nI 3)), (3, .int (nI bs2)), (0, .ref mo), (1, .int (nI c0)), (2, .int (nI e0)), (5, .int (nI (cr_one c0 2))), (6, .int ((nI (cr_bnd e0 2)) - (nI 1)))]) hx hb dM_runs_101 hl (k := 4) rfl (by decide) (by decide) rfl (fun ls hl => ?_)
          refine lv_goto (tgt := 5) hx hb dM_runs_104 (by decide) ?_
          exact ih5 3 bs2 b2 fr2 tt2 _ _ _ ⟨⟨by omega, hB2, cr_U_s hU2 h1 (fun d hd _ _ => by omega)⟩, hP, hD, hS, lv_sub hl [2, 3, 4, 1, 0] rfl⟩ (by omega)
        · rw [Int32.le_iff_toInt_le, pk_sub_toInt (by omega) (by omega), nI_toInt (by omega)] at c_75
          refine lv_iload hx hb dM_runs_78 (lv_at hl 6 rfl) ?_
          refine lv_iload_n hx hb dM_runs_80 rfl (lv_at hl 2 rfl) ?_
          refine lv_icmp_gt (tgt := 99) hx hb dM_runs_81 (by decide) (fun c_81 => ?_) (fun c_81 => ?_)
          · rw [Int32.lt_iff_toInt_lt, pk_sub_toInt (by omega) (by omega), nI_toInt (by omega)] at c_81
            refine lv_iload_n hx hb dM_runs_99 rfl (lv_at hl 3 rfl) ?_
            refine lv_istore_n (lv' := [(3, .int (nI bs2)), (0, .ref mo), (1, .int (nI c0)), (2, .int (nI e0)), (4, .int (nI 2)), (5, .int (nI (cr_one c0 2))), (6, .int ((nI (cr_bnd e0 2)) - (nI 1)))]) hx hb dM_runs_100 rfl hl (by decide) rfl (fun ls hl => ?_)
            refine lv_iinc (v := nI 3) (lv' := [(4, .int (nI 3)), (3, .int (nI bs2)), (0, .ref mo), (1, .int (nI c0)), (2, .int (nI e0)), (5, .int (nI (cr_one c0 2))), (6, .int ((nI (cr_bnd e0 2)) - (nI 1)))]) hx hb dM_runs_101 hl (k := 4) rfl (by decide) (by decide) rfl (fun ls hl => ?_)
            refine lv_goto (tgt := 5) hx hb dM_runs_104 (by decide) ?_
            exact ih5 3 bs2 b2 fr2 tt2 _ _ _ ⟨⟨by omega, hB2, cr_U_s hU2 h1 (fun d hd _ h => absurd h (by omega))⟩, hP, hD, hS, lv_sub hl [2, 3, 4, 1, 0] rfl⟩ (by omega)
          · rw [Int32.lt_iff_toInt_lt, pk_sub_toInt (by omega) (by omega), nI_toInt (by omega)] at c_81
            refine lv_aload_n hx hb dM_runs_84 rfl (lv_at hl 0 rfl) ?_
            refine lv_iload_n hx hb dM_runs_85 rfl (lv_at hl 1 rfl) ?_
            refine lv_iload hx hb dM_runs_86 (lv_at hl 6 rfl) ?_
            refine cr_top (y := nI (cr_bnd e0 2 - 1)) (pk_sub (by omega)) ?_
            have hPc := hP.sub (ws' := [(mo, .inr (2, [.int th, .ref l1, .ref l2, .int (nI n), .ref l3, .ref l4, .int (nI nk), .ref l5, .ref l6, .int (nI mn), .ref l7, .ref l8, .ref l9, .int b2, .int fd])), (l1, .inl (cI, 2400, .inl f)), (l2, .inl (cI, 2400, .inl g)), (l3, .inl (cI, 2400, .inl kf)), (l4, .inl (cI, 2400, .inl kg)), (l5, .inl (cI, 4800, .inl ef)), (l6, .inl (cI, 4800, .inl eg)), (l7, .inl (cZ, 1120, .inl mt)), (l8, .inl (cI, 4, .inl fr2)), (l9, .inl (cI, 4, .inl tt2))]) [0, 1, 2, 3, 4, 5, 6, 7, 8, 9] rfl
            have hDc := hD.sub (ws' := [(mo, .inr (2, [.int th, .ref l1, .ref l2, .int (nI n), .ref l3, .ref l4, .int (nI nk), .ref l5, .ref l6, .int (nI mn), .ref l7, .ref l8, .ref l9, .int b2, .int fd])), (l1, .inl (cI, 2400, .inl f)), (l2, .inl (cI, 2400, .inl g)), (l3, .inl (cI, 2400, .inl kf)), (l4, .inl (cI, 2400, .inl kg)), (l5, .inl (cI, 4800, .inl ef)), (l6, .inl (cI, 4800, .inl eg)), (l7, .inl (cZ, 1120, .inl mt)), (l8, .inl (cI, 4, .inl fr2)), (l9, .inl (cI, 4, .inl tt2))]) [0, 1, 2, 3, 4, 5, 6, 7, 8, 9] (by decide) rfl
            have hFc := va_free (wc := [(mo, .inr (2, [.int th, .ref l1, .ref l2, .int (nI n), .ref l3, .ref l4, .int (nI nk), .ref l5, .ref l6, .int (nI mn), .ref l7, .ref l8, .ref l9, .int b2, .int fd])), (l1, .inl (cI, 2400, .inl f)), (l2, .inl (cI, 2400, .inl g)), (l3, .inl (cI, 2400, .inl kf)), (l4, .inl (cI, 2400, .inl kg)), (l5, .inl (cI, 4800, .inl ef)), (l6, .inl (cI, 4800, .inl eg)), (l7, .inl (cZ, 1120, .inl mt)), (l8, .inl (cI, 4, .inl fr2)), (l9, .inl (cI, 4, .inl tt2))]) hD hS hA [0, 1, 2, 3, 4, 5, 6, 7, 8, 9] rfl
            refine va_calli (va_runV (As := [.int (nI c0), .int (nI (cr_bnd e0 2 - 1))]) (rest := []) ⟨hx, hb, hml, hown, hts⟩ (m_isRow l dC dI _ mo l1 l2 l3 l4 l5 l6 l7 l8 l9 cI cZ th b2 fd n nk mn f g kf kg ef eg mt fr2 tt2 c0 (cr_bnd e0 2 - 1) (by omega) (by omega)) (cwV 2 hts gM_runs_M_isRow rfl rfl rfl (by decide +kernel) ⟨Nat.le_of_ble_eq_true rfl, Nat.le_of_ble_eq_true rfl⟩) (cr_preV hPc hK hDc (ci := 2) (q0 := 0) rfl rfl) rfl rfl hl.1 rfl (lv_room (Nat.le_of_ble_eq_true rfl)) dM_runs_88 ⟨Nat.zero_le _, Nat.zero_le _⟩) hS (fun q _ h => hFc q h) hFc (fun r_88 u_88 t_88 H_88 locs ht_88 hvm_88 hw_88 hB_88 hz_88 hk_88 hS => ?_)
            obtain ⟨fr3, tt3, rfl, hzr, _⟩ := hw_88
            obtain ⟨hP, hD⟩ := cr_back (wr := []) (w1 := [(mo, .inr (2, [.int th, .ref l1, .ref l2, .int (nI n), .ref l3, .ref l4, .int (nI nk), .ref l5, .ref l6, .int (nI mn), .ref l7, .ref l8, .ref l9, .int (nI (cr_len c0)), .int fd])), (l1, .inl (cI, 2400, .inl f)), (l2, .inl (cI, 2400, .inl g)), (l3, .inl (cI, 2400, .inl kf)), (l4, .inl (cI, 2400, .inl kg)), (l5, .inl (cI, 4800, .inl ef)), (l6, .inl (cI, 4800, .inl eg)), (l7, .inl (cZ, 1120, .inl mt)), (l8, .inl (cI, 4, .inl fr3)), (l9, .inl (cI, 4, .inl tt3))]) hP hD [0, 1, 2, 3, 4, 5, 6, 7, 8, 9] [] rfl rfl (by decide) (by decide) hk_88 hFc hB_88 ht_88
            clear hPc hDc hFc
            generalize H_88 = H at hP hS ⊢
            have hP := hP.sub (ws' := [(mo, .inr (2, [.int th, .ref l1, .ref l2, .int (nI n), .ref l3, .ref l4, .int (nI nk), .ref l5, .ref l6, .int (nI mn), .ref l7, .ref l8, .ref l9, .int (nI (cr_len c0)), .int fd])), (l1, .inl (cI, 2400, .inl f)), (l2, .inl (cI, 2400, .inl g)), (l3, .inl (cI, 2400, .inl kf)), (l4, .inl (cI, 2400, .inl kg)), (l5, .inl (cI, 4800, .inl ef)), (l6, .inl (cI, 4800, .inl eg)), (l7, .inl (cZ, 1120, .inl mt)), (l8, .inl (cI, 4, .inl fr3)), (l9, .inl (cI, 4, .inl tt3))]) [0, 1, 2, 3, 4, 5, 6, 7, 8, 9] rfl
            have hD := hD.sub (ws' := [(mo, .inr (2, [.int th, .ref l1, .ref l2, .int (nI n), .ref l3, .ref l4, .int (nI nk), .ref l5, .ref l6, .int (nI mn), .ref l7, .ref l8, .ref l9, .int (nI (cr_len c0)), .int fd])), (l1, .inl (cI, 2400, .inl f)), (l2, .inl (cI, 2400, .inl g)), (l3, .inl (cI, 2400, .inl kf)), (l4, .inl (cI, 2400, .inl kg)), (l5, .inl (cI, 4800, .inl ef)), (l6, .inl (cI, 4800, .inl eg)), (l7, .inl (cZ, 1120, .inl mt)), (l8, .inl (cI, 4, .inl fr3)), (l9, .inl (cI, 4, .inl tt3))]) [0, 1, 2, 3, 4, 5, 6, 7, 8, 9] (by decide) rfl
            rcases hzr with ⟨rfl, hq⟩ | ⟨rfl, hq⟩
            · refine lv_if_eq (tgt := 99) hx hb dM_runs_91 (by decide) (fun c_91 => ?_) (fun c_91 => ?_)
              · exact absurd c_91 (by decide)
              · refine lv_iload hx hb dM_runs_94 (lv_at hl 6 rfl) ?_
                refine cr_top (y := nI (cr_bnd e0 2 - 1)) (pk_sub (by omega)) ?_
                refine lv_goto (tgt := 100) hx hb dM_runs_96 (by decide) ?_
                refine lv_istore_n (lv' := [(3, .int (nI (cr_bnd e0 2 - 1))), (0, .ref mo), (1, .int (nI c0)), (2, .int (nI e0)), (4, .int (nI 2)), (5, .int (nI (cr_one c0 2))), (6, .int ((nI (cr_bnd e0 2)) - (nI 1)))]) hx hb dM_runs_100 rfl hl (by decide) rfl (fun ls hl => ?_)
                refine lv_iinc (v := nI 3) (lv' := [(4, .int (nI 3)), (3, .int (nI (cr_bnd e0 2 - 1))), (0, .ref mo), (1, .int (nI c0)), (2, .int (nI e0)), (5, .int (nI (cr_one c0 2))), (6, .int ((nI (cr_bnd e0 2)) - (nI 1)))]) hx hb dM_runs_101 hl (k := 4) rfl (by decide) (by decide) rfl (fun ls hl => ?_)
                refine lv_goto (tgt := 5) hx hb dM_runs_104 (by decide) ?_
                exact ih5 3 (cr_bnd e0 2 - 1) (nI (cr_len c0)) fr3 tt3 _ _ _ ⟨⟨by omega, ⟨by omega, by omega, hq⟩, cr_U_s (cr_U_more hU2 (by omega)) (fun a h => Nat.le_trans (h1 a h) (by omega)) (fun d hd _ _ => by omega)⟩, hP, hD, hS, lv_sub hl [2, 3, 4, 1, 0] rfl⟩ (by omega)
            · refine lv_if_eq (tgt := 99) hx hb dM_runs_91 (by decide) (fun c_91 => ?_) (fun c_91 => ?_)
              · refine lv_iload_n hx hb dM_runs_99 rfl (lv_at hl 3 rfl) ?_
                refine lv_istore_n (lv' := [(3, .int (nI bs2)), (0, .ref mo), (1, .int (nI c0)), (2, .int (nI e0)), (4, .int (nI 2)), (5, .int (nI (cr_one c0 2))), (6, .int ((nI (cr_bnd e0 2)) - (nI 1)))]) hx hb dM_runs_100 rfl hl (by decide) rfl (fun ls hl => ?_)
                refine lv_iinc (v := nI 3) (lv' := [(4, .int (nI 3)), (3, .int (nI bs2)), (0, .ref mo), (1, .int (nI c0)), (2, .int (nI e0)), (5, .int (nI (cr_one c0 2))), (6, .int ((nI (cr_bnd e0 2)) - (nI 1)))]) hx hb dM_runs_101 hl (k := 4) rfl (by decide) (by decide) rfl (fun ls hl => ?_)
                refine lv_goto (tgt := 5) hx hb dM_runs_104 (by decide) ?_
                exact ih5 3 bs2 (nI (cr_len c0)) fr3 tt3 _ _ _ ⟨⟨by omega, hB2, cr_U_s hU2 h1 (fun d hd h _ => absurd (show cr_row c0 (cr_bnd e0 2 - 1) by rw [show cr_bnd e0 2 - 1 = d from (by omega)]; exact h) hq)⟩, hP, hD, hS, lv_sub hl [2, 3, 4, 1, 0] rfl⟩ (by omega)
              · exact absurd (by decide) c_91
      · refine lv_iload hx hb dM_runs_43 (lv_at hl 1 rfl) ?_
        refine lv_iload_n hx hb dM_runs_45 rfl (lv_at hl 5 rfl) ?_
        refine lv_icmp_le (tgt := 70) hx hb dM_runs_46 (by decide) (fun c_46 => ?_) (fun c_46 => ?_)
        · rw [nI_leI (by omega) (by omega)] at c_46
          refine lv_iload_n hx hb dM_runs_70 rfl (lv_at hl 5 rfl) ?_
          refine lv_istore_n (lv' := [(3, .int (nI bs)), (6, .int ((nI (cr_bnd e0 2)) - (nI 1))), (5, .int (nI (cr_one c0 2))), (0, .ref mo), (1, .int (nI c0)), (2, .int (nI e0)), (4, .int (nI 2))]) hx hb dM_runs_71 rfl hl (by decide) rfl (fun ls hl => ?_)
          exact jn72 bs b1 fr1 tt1 _ _ _ ⟨⟨hB, hU, fun _ _ => c_46⟩, hP, hD, hS, lv_sub hl [3, 4, 5, 0, 6, 2, 1] rfl⟩
        · rw [nI_leI (by omega) (by omega)] at c_46
          refine lv_iload hx hb dM_runs_49 (lv_at hl 1 rfl) ?_
          refine lv_iload_n hx hb dM_runs_51 rfl (lv_at hl 4 rfl) ?_
          refine lv_icmp_gt (tgt := 70) hx hb dM_runs_52 (by decide) (fun c_52 => ?_) (fun c_52 => ?_)
          · rw [nI_ltI (by omega) (by omega)] at c_52
            refine lv_iload_n hx hb dM_runs_70 rfl (lv_at hl 5 rfl) ?_
            refine lv_istore_n (lv' := [(3, .int (nI bs)), (6, .int ((nI (cr_bnd e0 2)) - (nI 1))), (5, .int (nI (cr_one c0 2))), (0, .ref mo), (1, .int (nI c0)), (2, .int (nI e0)), (4, .int (nI 2))]) hx hb dM_runs_71 rfl hl (by decide) rfl (fun ls hl => ?_)
            exact jn72 bs b1 fr1 tt1 _ _ _ ⟨⟨hB, hU, fun _ h => absurd h (by omega)⟩, hP, hD, hS, lv_sub hl [3, 4, 5, 0, 6, 2, 1] rfl⟩
          · rw [nI_ltI (by omega) (by omega)] at c_52
            refine lv_aload_n hx hb dM_runs_55 rfl (lv_at hl 2 rfl) ?_
            refine lv_iload_n hx hb dM_runs_56 rfl (lv_at hl 3 rfl) ?_
            refine lv_iload hx hb dM_runs_57 (lv_at hl 1 rfl) ?_
            have hPc := hP.sub (ws' := [(mo, .inr (2, [.int th, .ref l1, .ref l2, .int (nI n), .ref l3, .ref l4, .int (nI nk), .ref l5, .ref l6, .int (nI mn), .ref l7, .ref l8, .ref l9, .int b1, .int fd])), (l1, .inl (cI, 2400, .inl f)), (l2, .inl (cI, 2400, .inl g)), (l3, .inl (cI, 2400, .inl kf)), (l4, .inl (cI, 2400, .inl kg)), (l5, .inl (cI, 4800, .inl ef)), (l6, .inl (cI, 4800, .inl eg)), (l7, .inl (cZ, 1120, .inl mt)), (l8, .inl (cI, 4, .inl fr1)), (l9, .inl (cI, 4, .inl tt1))]) [0, 1, 2, 3, 4, 5, 6, 7, 8, 9] rfl
            have hDc := hD.sub (ws' := [(mo, .inr (2, [.int th, .ref l1, .ref l2, .int (nI n), .ref l3, .ref l4, .int (nI nk), .ref l5, .ref l6, .int (nI mn), .ref l7, .ref l8, .ref l9, .int b1, .int fd])), (l1, .inl (cI, 2400, .inl f)), (l2, .inl (cI, 2400, .inl g)), (l3, .inl (cI, 2400, .inl kf)), (l4, .inl (cI, 2400, .inl kg)), (l5, .inl (cI, 4800, .inl ef)), (l6, .inl (cI, 4800, .inl eg)), (l7, .inl (cZ, 1120, .inl mt)), (l8, .inl (cI, 4, .inl fr1)), (l9, .inl (cI, 4, .inl tt1))]) [0, 1, 2, 3, 4, 5, 6, 7, 8, 9] (by decide) rfl
            have hFc := va_free (wc := [(mo, .inr (2, [.int th, .ref l1, .ref l2, .int (nI n), .ref l3, .ref l4, .int (nI nk), .ref l5, .ref l6, .int (nI mn), .ref l7, .ref l8, .ref l9, .int b1, .int fd])), (l1, .inl (cI, 2400, .inl f)), (l2, .inl (cI, 2400, .inl g)), (l3, .inl (cI, 2400, .inl kf)), (l4, .inl (cI, 2400, .inl kg)), (l5, .inl (cI, 4800, .inl ef)), (l6, .inl (cI, 4800, .inl eg)), (l7, .inl (cZ, 1120, .inl mt)), (l8, .inl (cI, 4, .inl fr1)), (l9, .inl (cI, 4, .inl tt1))]) hD hS hA [0, 1, 2, 3, 4, 5, 6, 7, 8, 9] rfl
            refine va_calli (va_runV (As := [.int (nI c0), .int (nI (cr_one c0 2))]) (rest := []) ⟨hx, hb, hml, hown, hts⟩ (m_isRow l dC dI _ mo l1 l2 l3 l4 l5 l6 l7 l8 l9 cI cZ th b1 fd n nk mn f g kf kg ef eg mt fr1 tt1 c0 (cr_one c0 2) (by omega) (by omega)) (cwV 2 hts gM_runs_M_isRow rfl rfl rfl (by decide +kernel) ⟨Nat.le_of_ble_eq_true rfl, Nat.le_of_ble_eq_true rfl⟩) (cr_preV hPc hK hDc (ci := 2) (q0 := 0) rfl rfl) rfl rfl hl.1 rfl (lv_room (Nat.le_of_ble_eq_true rfl)) dM_runs_59 ⟨Nat.zero_le _, Nat.zero_le _⟩) hS (fun q _ h => hFc q h) hFc (fun r_59 u_59 t_59 H_59 locs ht_59 hvm_59 hw_59 hB_59 hz_59 hk_59 hS => ?_)
            obtain ⟨fr3, tt3, rfl, hzr, _⟩ := hw_59
            obtain ⟨hP, hD⟩ := cr_back (wr := []) (w1 := [(mo, .inr (2, [.int th, .ref l1, .ref l2, .int (nI n), .ref l3, .ref l4, .int (nI nk), .ref l5, .ref l6, .int (nI mn), .ref l7, .ref l8, .ref l9, .int (nI (cr_len c0)), .int fd])), (l1, .inl (cI, 2400, .inl f)), (l2, .inl (cI, 2400, .inl g)), (l3, .inl (cI, 2400, .inl kf)), (l4, .inl (cI, 2400, .inl kg)), (l5, .inl (cI, 4800, .inl ef)), (l6, .inl (cI, 4800, .inl eg)), (l7, .inl (cZ, 1120, .inl mt)), (l8, .inl (cI, 4, .inl fr3)), (l9, .inl (cI, 4, .inl tt3))]) hP hD [0, 1, 2, 3, 4, 5, 6, 7, 8, 9] [] rfl rfl (by decide) (by decide) hk_59 hFc hB_59 ht_59
            clear hPc hDc hFc
            generalize H_59 = H at hP hS ⊢
            have hP := hP.sub (ws' := [(mo, .inr (2, [.int th, .ref l1, .ref l2, .int (nI n), .ref l3, .ref l4, .int (nI nk), .ref l5, .ref l6, .int (nI mn), .ref l7, .ref l8, .ref l9, .int (nI (cr_len c0)), .int fd])), (l1, .inl (cI, 2400, .inl f)), (l2, .inl (cI, 2400, .inl g)), (l3, .inl (cI, 2400, .inl kf)), (l4, .inl (cI, 2400, .inl kg)), (l5, .inl (cI, 4800, .inl ef)), (l6, .inl (cI, 4800, .inl eg)), (l7, .inl (cZ, 1120, .inl mt)), (l8, .inl (cI, 4, .inl fr3)), (l9, .inl (cI, 4, .inl tt3))]) [0, 1, 2, 3, 4, 5, 6, 7, 8, 9] rfl
            have hD := hD.sub (ws' := [(mo, .inr (2, [.int th, .ref l1, .ref l2, .int (nI n), .ref l3, .ref l4, .int (nI nk), .ref l5, .ref l6, .int (nI mn), .ref l7, .ref l8, .ref l9, .int (nI (cr_len c0)), .int fd])), (l1, .inl (cI, 2400, .inl f)), (l2, .inl (cI, 2400, .inl g)), (l3, .inl (cI, 2400, .inl kf)), (l4, .inl (cI, 2400, .inl kg)), (l5, .inl (cI, 4800, .inl ef)), (l6, .inl (cI, 4800, .inl eg)), (l7, .inl (cZ, 1120, .inl mt)), (l8, .inl (cI, 4, .inl fr3)), (l9, .inl (cI, 4, .inl tt3))]) [0, 1, 2, 3, 4, 5, 6, 7, 8, 9] (by decide) rfl
            rcases hzr with ⟨rfl, hq⟩ | ⟨rfl, hq⟩
            · refine lv_if_eq (tgt := 70) hx hb dM_runs_62 (by decide) (fun c_62 => ?_) (fun c_62 => ?_)
              · exact absurd c_62 (by decide)
              · refine lv_iload hx hb dM_runs_65 (lv_at hl 1 rfl) ?_
                refine lv_goto (tgt := 71) hx hb dM_runs_67 (by decide) ?_
                refine lv_istore_n (lv' := [(3, .int (nI (cr_one c0 2))), (6, .int ((nI (cr_bnd e0 2)) - (nI 1))), (5, .int (nI (cr_one c0 2))), (0, .ref mo), (1, .int (nI c0)), (2, .int (nI e0)), (4, .int (nI 2))]) hx hb dM_runs_71 rfl hl (by decide) rfl (fun ls hl => ?_)
                exact jn72 (cr_one c0 2) (nI (cr_len c0)) fr3 tt3 _ _ _ ⟨⟨⟨by omega, by omega, hq⟩, cr_U_more hU (by omega), fun _ _ => Nat.le_refl _⟩, hP, hD, hS, lv_sub hl [3, 4, 5, 0, 6, 2, 1] rfl⟩
            · refine lv_if_eq (tgt := 70) hx hb dM_runs_62 (by decide) (fun c_62 => ?_) (fun c_62 => ?_)
              · refine lv_iload_n hx hb dM_runs_70 rfl (lv_at hl 5 rfl) ?_
                refine lv_istore_n (lv' := [(3, .int (nI bs)), (6, .int ((nI (cr_bnd e0 2)) - (nI 1))), (5, .int (nI (cr_one c0 2))), (0, .ref mo), (1, .int (nI c0)), (2, .int (nI e0)), (4, .int (nI 2))]) hx hb dM_runs_71 rfl hl (by decide) rfl (fun ls hl => ?_)
                exact jn72 bs (nI (cr_len c0)) fr3 tt3 _ _ _ ⟨⟨hB, hU, fun h _ => absurd h hq⟩, hP, hD, hS, lv_sub hl [3, 4, 5, 0, 6, 2, 1] rfl⟩
              · exact absurd (by decide) c_62
    · refine lv_iload_n hx hb dM_runs_11 rfl (lv_at hl 1 rfl) ?_
      refine lv_iconst (v := nI 1) hx hb dM_runs_12 (by decide) ?_
      refine lv_bipush (v := nI 6) hx hb dM_runs_13 (by decide) ?_
      refine lv_iload hx hb dM_runs_15 (lv_at hl 4 rfl) ?_
      refine lv_imul hx hb dM_runs_17 ?_
      refine cr_top (y := nI 18) (by decide) ?_
      refine lv_ishl hx hb dM_runs_18 ?_
      refine cr_top (y := nI 262144) (by decide) ?_
      refine lv_iconst (v := nI 1) hx hb dM_runs_19 (by decide) ?_
      refine lv_isub hx hb dM_runs_20 ?_
      refine cr_top (y := nI 262143) (by decide) ?_
      refine lv_ior hx hb dM_runs_21 ?_
      refine cr_top (y := nI (cr_one c0 3)) (cr_or262143 c0) ?_
      refine lv_istore (lv' := [(5, .int (nI (cr_one c0 3))), (0, .ref mo), (1, .int (nI c0)), (2, .int (nI e0)), (3, .int (nI bs)), (4, .int (nI 3))]) hx hb dM_runs_22 hl (by decide) rfl (fun ls hl => ?_)
      refine lv_iload_n hx hb dM_runs_24 rfl (lv_at hl 3 rfl) ?_
      refine lv_iconst (v := nI 1) hx hb dM_runs_25 (by decide) ?_
      refine lv_iadd hx hb dM_runs_26 ?_
      refine cr_top (y := nI (e0 + 1)) (nI_add e0 1) ?_
      refine lv_bipush (v := nI 6) hx hb dM_runs_27 (by decide) ?_
      refine lv_iload hx hb dM_runs_29 (lv_at hl 5 rfl) ?_
      refine lv_imul hx hb dM_runs_31 ?_
      refine cr_top (y := nI 18) (by decide) ?_
      refine lv_ishr hx hb dM_runs_32 ?_
      refine lv_bipush (v := nI 6) hx hb dM_runs_33 (by decide) ?_
      refine lv_iload hx hb dM_runs_35 (lv_at hl 5 rfl) ?_
      refine lv_imul hx hb dM_runs_37 ?_
      refine cr_top (y := nI 18) (by decide) ?_
      refine lv_ishl hx hb dM_runs_38 ?_
      refine cr_top (y := nI (cr_bnd e0 3)) (cr_sh18 (by omega)) ?_
      refine lv_iconst (v := nI 1) hx hb dM_runs_39 (by decide) ?_
      refine lv_isub hx hb dM_runs_40 ?_
      refine lv_istore (lv' := [(6, .int ((nI (cr_bnd e0 3)) - (nI 1))), (5, .int (nI (cr_one c0 3))), (0, .ref mo), (1, .int (nI c0)), (2, .int (nI e0)), (3, .int (nI bs)), (4, .int (nI 3))]) hx hb dM_runs_41 hl (by decide) rfl (fun ls hl => ?_)
      refine cr_cut4 72 [] (fun (bs2 : Nat) (b2 : Int32) (fr2 : Nat → Int32) (tt2 : Nat → Int32) H locs ls => (cr_Bs c0 e0 bs2 ∧ cr_U c0 e0 bs2 3 ∧ (cr_row c0 (cr_one c0 3) → cr_one c0 3 ≤ e0 → cr_one c0 3 ≤ bs2)) ∧ va_P (dC, dI) crCl [(mo, .inr (2, [.int th, .ref l1, .ref l2, .int (nI n), .ref l3, .ref l4, .int (nI nk), .ref l5, .ref l6, .int (nI mn), .ref l7, .ref l8, .ref l9, .int b2, .int fd])), (l1, .inl (cI, 2400, .inl f)), (l2, .inl (cI, 2400, .inl g)), (l3, .inl (cI, 2400, .inl kf)), (l4, .inl (cI, 2400, .inl kg)), (l5, .inl (cI, 4800, .inl ef)), (l6, .inl (cI, 4800, .inl eg)), (l7, .inl (cZ, 1120, .inl mt)), (l8, .inl (cI, 4, .inl fr2)), (l9, .inl (cI, 4, .inl tt2))] H ∧ va_D A [(mo, .inr (2, [.int th, .ref l1, .ref l2, .int (nI n), .ref l3, .ref l4, .int (nI nk), .ref l5, .ref l6, .int (nI mn), .ref l7, .ref l8, .ref l9, .int b2, .int fd])), (l1, .inl (cI, 2400, .inl f)), (l2, .inl (cI, 2400, .inl g)), (l3, .inl (cI, 2400, .inl kf)), (l4, .inl (cI, 2400, .inl kg)), (l5, .inl (cI, 4800, .inl ef)), (l6, .inl (cI, 4800, .inl eg)), (l7, .inl (cZ, 1120, .inl mt)), (l8, .inl (cI, 4, .inl fr2)), (l9, .inl (cI, 4, .inl tt2))] ∧ va_S A s.heap H locs ∧ lv_has ls 7 [(0, .ref mo), (1, .int (nI c0)), (2, .int (nI e0)), (3, .int (nI bs2)), (4, .int (nI 3)), (5, .int (nI (cr_one c0 3))), (6, .int ((nI (cr_bnd e0 3)) - (nI 1)))]) ?_ (fun jn72 => ?_)
      · intro bs2 b2 fr2 tt2 H locs ls hJ72
        obtain ⟨⟨hB2, hU2, h1⟩, hP, hD, hS, hl⟩ := hJ72
        obtain ⟨hC1, hC2, hC3⟩ := id hB2
        refine lv_iload hx hb dM_runs_72 (lv_at hl 6 rfl) ?_
        refine lv_iload_n hx hb dM_runs_74 rfl (lv_at hl 3 rfl) ?_
        refine lv_icmp_le (tgt := 99) hx hb dM_runs_75 (by decide) (fun c_75 => ?_) (fun c_75 => ?_)
        · rw [Int32.le_iff_toInt_le, pk_sub_toInt (by omega) (by omega), nI_toInt (by omega)] at c_75
          refine lv_iload_n hx hb dM_runs_99 rfl (lv_at hl 3 rfl) ?_
          refine lv_istore_n (lv' := [(3, .int (nI bs2)), (0, .ref mo), (1, .int (nI c0)), (2, .int (nI e0)), (4, .int (nI 3)), (5, .int (nI (cr_one c0 3))), (6, .int ((nI (cr_bnd e0 3)) - (nI 1)))]) hx hb dM_runs_100 rfl hl (by decide) rfl (fun ls hl => ?_)
          refine lv_iinc (v := nI 4) (lv' := [(4, .int (nI 4)), (3, .int (nI bs2)), (0, .ref mo), (1, .int (nI c0)), (2, .int (nI e0)), (5, .int (nI (cr_one c0 3))), (6, .int ((nI (cr_bnd e0 3)) - (nI 1)))]) hx hb dM_runs_101 hl (k := 4) rfl (by decide) (by decide) rfl (fun ls hl => ?_)
          refine lv_goto (tgt := 5) hx hb dM_runs_104 (by decide) ?_
          exact ih5 4 bs2 b2 fr2 tt2 _ _ _ ⟨⟨by omega, hB2, cr_U_s hU2 h1 (fun d hd _ _ => by omega)⟩, hP, hD, hS, lv_sub hl [2, 3, 4, 1, 0] rfl⟩ (by omega)
        · rw [Int32.le_iff_toInt_le, pk_sub_toInt (by omega) (by omega), nI_toInt (by omega)] at c_75
          refine lv_iload hx hb dM_runs_78 (lv_at hl 6 rfl) ?_
          refine lv_iload_n hx hb dM_runs_80 rfl (lv_at hl 2 rfl) ?_
          refine lv_icmp_gt (tgt := 99) hx hb dM_runs_81 (by decide) (fun c_81 => ?_) (fun c_81 => ?_)
          · rw [Int32.lt_iff_toInt_lt, pk_sub_toInt (by omega) (by omega), nI_toInt (by omega)] at c_81
            refine lv_iload_n hx hb dM_runs_99 rfl (lv_at hl 3 rfl) ?_
            refine lv_istore_n (lv' := [(3, .int (nI bs2)), (0, .ref mo), (1, .int (nI c0)), (2, .int (nI e0)), (4, .int (nI 3)), (5, .int (nI (cr_one c0 3))), (6, .int ((nI (cr_bnd e0 3)) - (nI 1)))]) hx hb dM_runs_100 rfl hl (by decide) rfl (fun ls hl => ?_)
            refine lv_iinc (v := nI 4) (lv' := [(4, .int (nI 4)), (3, .int (nI bs2)), (0, .ref mo), (1, .int (nI c0)), (2, .int (nI e0)), (5, .int (nI (cr_one c0 3))), (6, .int ((nI (cr_bnd e0 3)) - (nI 1)))]) hx hb dM_runs_101 hl (k := 4) rfl (by decide) (by decide) rfl (fun ls hl => ?_)
            refine lv_goto (tgt := 5) hx hb dM_runs_104 (by decide) ?_
            exact ih5 4 bs2 b2 fr2 tt2 _ _ _ ⟨⟨by omega, hB2, cr_U_s hU2 h1 (fun d hd _ h => absurd h (by omega))⟩, hP, hD, hS, lv_sub hl [2, 3, 4, 1, 0] rfl⟩ (by omega)
          · rw [Int32.lt_iff_toInt_lt, pk_sub_toInt (by omega) (by omega), nI_toInt (by omega)] at c_81
            refine lv_aload_n hx hb dM_runs_84 rfl (lv_at hl 0 rfl) ?_
            refine lv_iload_n hx hb dM_runs_85 rfl (lv_at hl 1 rfl) ?_
            refine lv_iload hx hb dM_runs_86 (lv_at hl 6 rfl) ?_
            refine cr_top (y := nI (cr_bnd e0 3 - 1)) (pk_sub (by omega)) ?_
            have hPc := hP.sub (ws' := [(mo, .inr (2, [.int th, .ref l1, .ref l2, .int (nI n), .ref l3, .ref l4, .int (nI nk), .ref l5, .ref l6, .int (nI mn), .ref l7, .ref l8, .ref l9, .int b2, .int fd])), (l1, .inl (cI, 2400, .inl f)), (l2, .inl (cI, 2400, .inl g)), (l3, .inl (cI, 2400, .inl kf)), (l4, .inl (cI, 2400, .inl kg)), (l5, .inl (cI, 4800, .inl ef)), (l6, .inl (cI, 4800, .inl eg)), (l7, .inl (cZ, 1120, .inl mt)), (l8, .inl (cI, 4, .inl fr2)), (l9, .inl (cI, 4, .inl tt2))]) [0, 1, 2, 3, 4, 5, 6, 7, 8, 9] rfl
            have hDc := hD.sub (ws' := [(mo, .inr (2, [.int th, .ref l1, .ref l2, .int (nI n), .ref l3, .ref l4, .int (nI nk), .ref l5, .ref l6, .int (nI mn), .ref l7, .ref l8, .ref l9, .int b2, .int fd])), (l1, .inl (cI, 2400, .inl f)), (l2, .inl (cI, 2400, .inl g)), (l3, .inl (cI, 2400, .inl kf)), (l4, .inl (cI, 2400, .inl kg)), (l5, .inl (cI, 4800, .inl ef)), (l6, .inl (cI, 4800, .inl eg)), (l7, .inl (cZ, 1120, .inl mt)), (l8, .inl (cI, 4, .inl fr2)), (l9, .inl (cI, 4, .inl tt2))]) [0, 1, 2, 3, 4, 5, 6, 7, 8, 9] (by decide) rfl
            have hFc := va_free (wc := [(mo, .inr (2, [.int th, .ref l1, .ref l2, .int (nI n), .ref l3, .ref l4, .int (nI nk), .ref l5, .ref l6, .int (nI mn), .ref l7, .ref l8, .ref l9, .int b2, .int fd])), (l1, .inl (cI, 2400, .inl f)), (l2, .inl (cI, 2400, .inl g)), (l3, .inl (cI, 2400, .inl kf)), (l4, .inl (cI, 2400, .inl kg)), (l5, .inl (cI, 4800, .inl ef)), (l6, .inl (cI, 4800, .inl eg)), (l7, .inl (cZ, 1120, .inl mt)), (l8, .inl (cI, 4, .inl fr2)), (l9, .inl (cI, 4, .inl tt2))]) hD hS hA [0, 1, 2, 3, 4, 5, 6, 7, 8, 9] rfl
            refine va_calli (va_runV (As := [.int (nI c0), .int (nI (cr_bnd e0 3 - 1))]) (rest := []) ⟨hx, hb, hml, hown, hts⟩ (m_isRow l dC dI _ mo l1 l2 l3 l4 l5 l6 l7 l8 l9 cI cZ th b2 fd n nk mn f g kf kg ef eg mt fr2 tt2 c0 (cr_bnd e0 3 - 1) (by omega) (by omega)) (cwV 2 hts gM_runs_M_isRow rfl rfl rfl (by decide +kernel) ⟨Nat.le_of_ble_eq_true rfl, Nat.le_of_ble_eq_true rfl⟩) (cr_preV hPc hK hDc (ci := 2) (q0 := 0) rfl rfl) rfl rfl hl.1 rfl (lv_room (Nat.le_of_ble_eq_true rfl)) dM_runs_88 ⟨Nat.zero_le _, Nat.zero_le _⟩) hS (fun q _ h => hFc q h) hFc (fun r_88 u_88 t_88 H_88 locs ht_88 hvm_88 hw_88 hB_88 hz_88 hk_88 hS => ?_)
            obtain ⟨fr3, tt3, rfl, hzr, _⟩ := hw_88
            obtain ⟨hP, hD⟩ := cr_back (wr := []) (w1 := [(mo, .inr (2, [.int th, .ref l1, .ref l2, .int (nI n), .ref l3, .ref l4, .int (nI nk), .ref l5, .ref l6, .int (nI mn), .ref l7, .ref l8, .ref l9, .int (nI (cr_len c0)), .int fd])), (l1, .inl (cI, 2400, .inl f)), (l2, .inl (cI, 2400, .inl g)), (l3, .inl (cI, 2400, .inl kf)), (l4, .inl (cI, 2400, .inl kg)), (l5, .inl (cI, 4800, .inl ef)), (l6, .inl (cI, 4800, .inl eg)), (l7, .inl (cZ, 1120, .inl mt)), (l8, .inl (cI, 4, .inl fr3)), (l9, .inl (cI, 4, .inl tt3))]) hP hD [0, 1, 2, 3, 4, 5, 6, 7, 8, 9] [] rfl rfl (by decide) (by decide) hk_88 hFc hB_88 ht_88
            clear hPc hDc hFc
            generalize H_88 = H at hP hS ⊢
            have hP := hP.sub (ws' := [(mo, .inr (2, [.int th, .ref l1, .ref l2, .int (nI n), .ref l3, .ref l4, .int (nI nk), .ref l5, .ref l6, .int (nI mn), .ref l7, .ref l8, .ref l9, .int (nI (cr_len c0)), .int fd])), (l1, .inl (cI, 2400, .inl f)), (l2, .inl (cI, 2400, .inl g)), (l3, .inl (cI, 2400, .inl kf)), (l4, .inl (cI, 2400, .inl kg)), (l5, .inl (cI, 4800, .inl ef)), (l6, .inl (cI, 4800, .inl eg)), (l7, .inl (cZ, 1120, .inl mt)), (l8, .inl (cI, 4, .inl fr3)), (l9, .inl (cI, 4, .inl tt3))]) [0, 1, 2, 3, 4, 5, 6, 7, 8, 9] rfl
            have hD := hD.sub (ws' := [(mo, .inr (2, [.int th, .ref l1, .ref l2, .int (nI n), .ref l3, .ref l4, .int (nI nk), .ref l5, .ref l6, .int (nI mn), .ref l7, .ref l8, .ref l9, .int (nI (cr_len c0)), .int fd])), (l1, .inl (cI, 2400, .inl f)), (l2, .inl (cI, 2400, .inl g)), (l3, .inl (cI, 2400, .inl kf)), (l4, .inl (cI, 2400, .inl kg)), (l5, .inl (cI, 4800, .inl ef)), (l6, .inl (cI, 4800, .inl eg)), (l7, .inl (cZ, 1120, .inl mt)), (l8, .inl (cI, 4, .inl fr3)), (l9, .inl (cI, 4, .inl tt3))]) [0, 1, 2, 3, 4, 5, 6, 7, 8, 9] (by decide) rfl
            rcases hzr with ⟨rfl, hq⟩ | ⟨rfl, hq⟩
            · refine lv_if_eq (tgt := 99) hx hb dM_runs_91 (by decide) (fun c_91 => ?_) (fun c_91 => ?_)
              · exact absurd c_91 (by decide)
              · refine lv_iload hx hb dM_runs_94 (lv_at hl 6 rfl) ?_
                refine cr_top (y := nI (cr_bnd e0 3 - 1)) (pk_sub (by omega)) ?_
                refine lv_goto (tgt := 100) hx hb dM_runs_96 (by decide) ?_
                refine lv_istore_n (lv' := [(3, .int (nI (cr_bnd e0 3 - 1))), (0, .ref mo), (1, .int (nI c0)), (2, .int (nI e0)), (4, .int (nI 3)), (5, .int (nI (cr_one c0 3))), (6, .int ((nI (cr_bnd e0 3)) - (nI 1)))]) hx hb dM_runs_100 rfl hl (by decide) rfl (fun ls hl => ?_)
                refine lv_iinc (v := nI 4) (lv' := [(4, .int (nI 4)), (3, .int (nI (cr_bnd e0 3 - 1))), (0, .ref mo), (1, .int (nI c0)), (2, .int (nI e0)), (5, .int (nI (cr_one c0 3))), (6, .int ((nI (cr_bnd e0 3)) - (nI 1)))]) hx hb dM_runs_101 hl (k := 4) rfl (by decide) (by decide) rfl (fun ls hl => ?_)
                refine lv_goto (tgt := 5) hx hb dM_runs_104 (by decide) ?_
                exact ih5 4 (cr_bnd e0 3 - 1) (nI (cr_len c0)) fr3 tt3 _ _ _ ⟨⟨by omega, ⟨by omega, by omega, hq⟩, cr_U_s (cr_U_more hU2 (by omega)) (fun a h => Nat.le_trans (h1 a h) (by omega)) (fun d hd _ _ => by omega)⟩, hP, hD, hS, lv_sub hl [2, 3, 4, 1, 0] rfl⟩ (by omega)
            · refine lv_if_eq (tgt := 99) hx hb dM_runs_91 (by decide) (fun c_91 => ?_) (fun c_91 => ?_)
              · refine lv_iload_n hx hb dM_runs_99 rfl (lv_at hl 3 rfl) ?_
                refine lv_istore_n (lv' := [(3, .int (nI bs2)), (0, .ref mo), (1, .int (nI c0)), (2, .int (nI e0)), (4, .int (nI 3)), (5, .int (nI (cr_one c0 3))), (6, .int ((nI (cr_bnd e0 3)) - (nI 1)))]) hx hb dM_runs_100 rfl hl (by decide) rfl (fun ls hl => ?_)
                refine lv_iinc (v := nI 4) (lv' := [(4, .int (nI 4)), (3, .int (nI bs2)), (0, .ref mo), (1, .int (nI c0)), (2, .int (nI e0)), (5, .int (nI (cr_one c0 3))), (6, .int ((nI (cr_bnd e0 3)) - (nI 1)))]) hx hb dM_runs_101 hl (k := 4) rfl (by decide) (by decide) rfl (fun ls hl => ?_)
                refine lv_goto (tgt := 5) hx hb dM_runs_104 (by decide) ?_
                exact ih5 4 bs2 (nI (cr_len c0)) fr3 tt3 _ _ _ ⟨⟨by omega, hB2, cr_U_s hU2 h1 (fun d hd h _ => absurd (show cr_row c0 (cr_bnd e0 3 - 1) by rw [show cr_bnd e0 3 - 1 = d from (by omega)]; exact h) hq)⟩, hP, hD, hS, lv_sub hl [2, 3, 4, 1, 0] rfl⟩ (by omega)
              · exact absurd (by decide) c_91
      · refine lv_iload hx hb dM_runs_43 (lv_at hl 1 rfl) ?_
        refine lv_iload_n hx hb dM_runs_45 rfl (lv_at hl 5 rfl) ?_
        refine lv_icmp_le (tgt := 70) hx hb dM_runs_46 (by decide) (fun c_46 => ?_) (fun c_46 => ?_)
        · rw [nI_leI (by omega) (by omega)] at c_46
          refine lv_iload_n hx hb dM_runs_70 rfl (lv_at hl 5 rfl) ?_
          refine lv_istore_n (lv' := [(3, .int (nI bs)), (6, .int ((nI (cr_bnd e0 3)) - (nI 1))), (5, .int (nI (cr_one c0 3))), (0, .ref mo), (1, .int (nI c0)), (2, .int (nI e0)), (4, .int (nI 3))]) hx hb dM_runs_71 rfl hl (by decide) rfl (fun ls hl => ?_)
          exact jn72 bs b1 fr1 tt1 _ _ _ ⟨⟨hB, hU, fun _ _ => c_46⟩, hP, hD, hS, lv_sub hl [3, 4, 5, 0, 6, 2, 1] rfl⟩
        · rw [nI_leI (by omega) (by omega)] at c_46
          refine lv_iload hx hb dM_runs_49 (lv_at hl 1 rfl) ?_
          refine lv_iload_n hx hb dM_runs_51 rfl (lv_at hl 4 rfl) ?_
          refine lv_icmp_gt (tgt := 70) hx hb dM_runs_52 (by decide) (fun c_52 => ?_) (fun c_52 => ?_)
          · rw [nI_ltI (by omega) (by omega)] at c_52
            refine lv_iload_n hx hb dM_runs_70 rfl (lv_at hl 5 rfl) ?_
            refine lv_istore_n (lv' := [(3, .int (nI bs)), (6, .int ((nI (cr_bnd e0 3)) - (nI 1))), (5, .int (nI (cr_one c0 3))), (0, .ref mo), (1, .int (nI c0)), (2, .int (nI e0)), (4, .int (nI 3))]) hx hb dM_runs_71 rfl hl (by decide) rfl (fun ls hl => ?_)
            exact jn72 bs b1 fr1 tt1 _ _ _ ⟨⟨hB, hU, fun _ h => absurd h (by omega)⟩, hP, hD, hS, lv_sub hl [3, 4, 5, 0, 6, 2, 1] rfl⟩
          · rw [nI_ltI (by omega) (by omega)] at c_52
            refine lv_aload_n hx hb dM_runs_55 rfl (lv_at hl 2 rfl) ?_
            refine lv_iload_n hx hb dM_runs_56 rfl (lv_at hl 3 rfl) ?_
            refine lv_iload hx hb dM_runs_57 (lv_at hl 1 rfl) ?_
            have hPc := hP.sub (ws' := [(mo, .inr (2, [.int th, .ref l1, .ref l2, .int (nI n), .ref l3, .ref l4, .int (nI nk), .ref l5, .ref l6, .int (nI mn), .ref l7, .ref l8, .ref l9, .int b1, .int fd])), (l1, .inl (cI, 2400, .inl f)), (l2, .inl (cI, 2400, .inl g)), (l3, .inl (cI, 2400, .inl kf)), (l4, .inl (cI, 2400, .inl kg)), (l5, .inl (cI, 4800, .inl ef)), (l6, .inl (cI, 4800, .inl eg)), (l7, .inl (cZ, 1120, .inl mt)), (l8, .inl (cI, 4, .inl fr1)), (l9, .inl (cI, 4, .inl tt1))]) [0, 1, 2, 3, 4, 5, 6, 7, 8, 9] rfl
            have hDc := hD.sub (ws' := [(mo, .inr (2, [.int th, .ref l1, .ref l2, .int (nI n), .ref l3, .ref l4, .int (nI nk), .ref l5, .ref l6, .int (nI mn), .ref l7, .ref l8, .ref l9, .int b1, .int fd])), (l1, .inl (cI, 2400, .inl f)), (l2, .inl (cI, 2400, .inl g)), (l3, .inl (cI, 2400, .inl kf)), (l4, .inl (cI, 2400, .inl kg)), (l5, .inl (cI, 4800, .inl ef)), (l6, .inl (cI, 4800, .inl eg)), (l7, .inl (cZ, 1120, .inl mt)), (l8, .inl (cI, 4, .inl fr1)), (l9, .inl (cI, 4, .inl tt1))]) [0, 1, 2, 3, 4, 5, 6, 7, 8, 9] (by decide) rfl
            have hFc := va_free (wc := [(mo, .inr (2, [.int th, .ref l1, .ref l2, .int (nI n), .ref l3, .ref l4, .int (nI nk), .ref l5, .ref l6, .int (nI mn), .ref l7, .ref l8, .ref l9, .int b1, .int fd])), (l1, .inl (cI, 2400, .inl f)), (l2, .inl (cI, 2400, .inl g)), (l3, .inl (cI, 2400, .inl kf)), (l4, .inl (cI, 2400, .inl kg)), (l5, .inl (cI, 4800, .inl ef)), (l6, .inl (cI, 4800, .inl eg)), (l7, .inl (cZ, 1120, .inl mt)), (l8, .inl (cI, 4, .inl fr1)), (l9, .inl (cI, 4, .inl tt1))]) hD hS hA [0, 1, 2, 3, 4, 5, 6, 7, 8, 9] rfl
            refine va_calli (va_runV (As := [.int (nI c0), .int (nI (cr_one c0 3))]) (rest := []) ⟨hx, hb, hml, hown, hts⟩ (m_isRow l dC dI _ mo l1 l2 l3 l4 l5 l6 l7 l8 l9 cI cZ th b1 fd n nk mn f g kf kg ef eg mt fr1 tt1 c0 (cr_one c0 3) (by omega) (by omega)) (cwV 2 hts gM_runs_M_isRow rfl rfl rfl (by decide +kernel) ⟨Nat.le_of_ble_eq_true rfl, Nat.le_of_ble_eq_true rfl⟩) (cr_preV hPc hK hDc (ci := 2) (q0 := 0) rfl rfl) rfl rfl hl.1 rfl (lv_room (Nat.le_of_ble_eq_true rfl)) dM_runs_59 ⟨Nat.zero_le _, Nat.zero_le _⟩) hS (fun q _ h => hFc q h) hFc (fun r_59 u_59 t_59 H_59 locs ht_59 hvm_59 hw_59 hB_59 hz_59 hk_59 hS => ?_)
            obtain ⟨fr3, tt3, rfl, hzr, _⟩ := hw_59
            obtain ⟨hP, hD⟩ := cr_back (wr := []) (w1 := [(mo, .inr (2, [.int th, .ref l1, .ref l2, .int (nI n), .ref l3, .ref l4, .int (nI nk), .ref l5, .ref l6, .int (nI mn), .ref l7, .ref l8, .ref l9, .int (nI (cr_len c0)), .int fd])), (l1, .inl (cI, 2400, .inl f)), (l2, .inl (cI, 2400, .inl g)), (l3, .inl (cI, 2400, .inl kf)), (l4, .inl (cI, 2400, .inl kg)), (l5, .inl (cI, 4800, .inl ef)), (l6, .inl (cI, 4800, .inl eg)), (l7, .inl (cZ, 1120, .inl mt)), (l8, .inl (cI, 4, .inl fr3)), (l9, .inl (cI, 4, .inl tt3))]) hP hD [0, 1, 2, 3, 4, 5, 6, 7, 8, 9] [] rfl rfl (by decide) (by decide) hk_59 hFc hB_59 ht_59
            clear hPc hDc hFc
            generalize H_59 = H at hP hS ⊢
            have hP := hP.sub (ws' := [(mo, .inr (2, [.int th, .ref l1, .ref l2, .int (nI n), .ref l3, .ref l4, .int (nI nk), .ref l5, .ref l6, .int (nI mn), .ref l7, .ref l8, .ref l9, .int (nI (cr_len c0)), .int fd])), (l1, .inl (cI, 2400, .inl f)), (l2, .inl (cI, 2400, .inl g)), (l3, .inl (cI, 2400, .inl kf)), (l4, .inl (cI, 2400, .inl kg)), (l5, .inl (cI, 4800, .inl ef)), (l6, .inl (cI, 4800, .inl eg)), (l7, .inl (cZ, 1120, .inl mt)), (l8, .inl (cI, 4, .inl fr3)), (l9, .inl (cI, 4, .inl tt3))]) [0, 1, 2, 3, 4, 5, 6, 7, 8, 9] rfl
            have hD := hD.sub (ws' := [(mo, .inr (2, [.int th, .ref l1, .ref l2, .int (nI n), .ref l3, .ref l4, .int (nI nk), .ref l5, .ref l6, .int (nI mn), .ref l7, .ref l8, .ref l9, .int (nI (cr_len c0)), .int fd])), (l1, .inl (cI, 2400, .inl f)), (l2, .inl (cI, 2400, .inl g)), (l3, .inl (cI, 2400, .inl kf)), (l4, .inl (cI, 2400, .inl kg)), (l5, .inl (cI, 4800, .inl ef)), (l6, .inl (cI, 4800, .inl eg)), (l7, .inl (cZ, 1120, .inl mt)), (l8, .inl (cI, 4, .inl fr3)), (l9, .inl (cI, 4, .inl tt3))]) [0, 1, 2, 3, 4, 5, 6, 7, 8, 9] (by decide) rfl
            rcases hzr with ⟨rfl, hq⟩ | ⟨rfl, hq⟩
            · refine lv_if_eq (tgt := 70) hx hb dM_runs_62 (by decide) (fun c_62 => ?_) (fun c_62 => ?_)
              · exact absurd c_62 (by decide)
              · refine lv_iload hx hb dM_runs_65 (lv_at hl 1 rfl) ?_
                refine lv_goto (tgt := 71) hx hb dM_runs_67 (by decide) ?_
                refine lv_istore_n (lv' := [(3, .int (nI (cr_one c0 3))), (6, .int ((nI (cr_bnd e0 3)) - (nI 1))), (5, .int (nI (cr_one c0 3))), (0, .ref mo), (1, .int (nI c0)), (2, .int (nI e0)), (4, .int (nI 3))]) hx hb dM_runs_71 rfl hl (by decide) rfl (fun ls hl => ?_)
                exact jn72 (cr_one c0 3) (nI (cr_len c0)) fr3 tt3 _ _ _ ⟨⟨⟨by omega, by omega, hq⟩, cr_U_more hU (by omega), fun _ _ => Nat.le_refl _⟩, hP, hD, hS, lv_sub hl [3, 4, 5, 0, 6, 2, 1] rfl⟩
            · refine lv_if_eq (tgt := 70) hx hb dM_runs_62 (by decide) (fun c_62 => ?_) (fun c_62 => ?_)
              · refine lv_iload_n hx hb dM_runs_70 rfl (lv_at hl 5 rfl) ?_
                refine lv_istore_n (lv' := [(3, .int (nI bs)), (6, .int ((nI (cr_bnd e0 3)) - (nI 1))), (5, .int (nI (cr_one c0 3))), (0, .ref mo), (1, .int (nI c0)), (2, .int (nI e0)), (4, .int (nI 3))]) hx hb dM_runs_71 rfl hl (by decide) rfl (fun ls hl => ?_)
                exact jn72 bs (nI (cr_len c0)) fr3 tt3 _ _ _ ⟨⟨hB, hU, fun h _ => absurd h hq⟩, hP, hD, hS, lv_sub hl [3, 4, 5, 0, 6, 2, 1] rfl⟩
              · exact absurd (by decide) c_62

set_option maxHeartbeats 4000000 in
set_option maxRecDepth 100000 in
theorem m_finds (l : Launch) (dC : Nat → ClassId) (dI : Nat → Nat → Nat) (sz : Nat) (mo l1 l2 l3 l4 l5 l6 l7 l8 l9 : Nat) (cI cZ : ClassId) (th by0 fd : Int32) (n nk mn : Nat) (f g kf kg ef eg mt fr tt : Nat → Int32) (lo hi : Nat → Nat) (hR : cr_Rp n lo hi f g) (hO : cr_Ok n lo hi) (hn : n ≤ 2400) (z : Int32) : Met l yM_finds wsM_finds ({ frames := 5, cells := 0, slots := 0, locals := 180 }) (va_Pc [.ref mo, .int z] (cr_pre dC dI [(cI, .int), (cZ, .boolean)] [(mo, .inr (2, [.int th, .ref l1, .ref l2, .int (nI n), .ref l3, .ref l4, .int (nI nk), .ref l5, .ref l6, .int (nI mn), .ref l7, .ref l8, .ref l9, .int by0, .int fd])), (l1, .inl (cI, 2400, .inl f)), (l2, .inl (cI, 2400, .inl g)), (l3, .inl (cI, 2400, .inl kf)), (l4, .inl (cI, 2400, .inl kg)), (l5, .inl (cI, 4800, .inl ef)), (l6, .inl (cI, 4800, .inl eg)), (l7, .inl (cZ, 1120, .inl mt)), (l8, .inl (cI, 4, .inl fr)), (l9, .inl (cI, 4, .inl tt))] sz)) (va_Qi (fun (rr : Int32) (u : va_W) => ∃ (b' : Int32) (fr' tt' : Nat → Int32) (fd' : Int32), u = [(mo, .inr (2, [.int th, .ref l1, .ref l2, .int (nI n), .ref l3, .ref l4, .int (nI nk), .ref l5, .ref l6, .int (nI mn), .ref l7, .ref l8, .ref l9, .int b', .int fd'])), (l1, .inl (cI, 2400, .inl f)), (l2, .inl (cI, 2400, .inl g)), (l3, .inl (cI, 2400, .inl kf)), (l4, .inl (cI, 2400, .inl kg)), (l5, .inl (cI, 4800, .inl ef)), (l6, .inl (cI, 4800, .inl eg)), (l7, .inl (cZ, 1120, .inl mt)), (l8, .inl (cI, 4, .inl fr')), (l9, .inl (cI, 4, .inl tt'))] ∧ ((rr = nI 0 ∧ fd' = nI (cr_tot lo hi n) ∧ ∀ zz : Nat, zz < 2 ^ 31 → z = nI zz → cr_tot lo hi n ≤ zz) ∨ (rr = nI 1 ∧ ∃ zz j t : Nat, zz < 2 ^ 31 ∧ z = nI zz ∧ j < n ∧ t < cr_N (lo j) (hi j) ∧ zz = cr_tot lo hi j + t ∧ b' = nI (cr_len (cr_go t (lo j) (hi j))) ∧ ∀ i, i < cr_len (cr_go t (lo j) (hi j)) → fr' i = nI (cr_by (cr_go t (lo j) (hi j)) i) ∧ tt' i = nI (cr_by (cr_last (cr_go t (lo j) (hi j)) (hi j)) i)))) (cr_at dC dI [(cI, .int), (cZ, .boolean)] (va_A [(mo, .inr (2, [.int th, .ref l1, .ref l2, .int (nI n), .ref l3, .ref l4, .int (nI nk), .ref l5, .ref l6, .int (nI mn), .ref l7, .ref l8, .ref l9, .int by0, .int fd])), (l1, .inl (cI, 2400, .inl f)), (l2, .inl (cI, 2400, .inl g)), (l3, .inl (cI, 2400, .inl kf)), (l4, .inl (cI, 2400, .inl kg)), (l5, .inl (cI, 4800, .inl ef)), (l6, .inl (cI, 4800, .inl eg)), (l7, .inl (cZ, 1120, .inl mt)), (l8, .inl (cI, 4, .inl fr)), (l9, .inl (cI, 4, .inl tt))] sz)) (va_A [(mo, .inr (2, [.int th, .ref l1, .ref l2, .int (nI n), .ref l3, .ref l4, .int (nI nk), .ref l5, .ref l6, .int (nI mn), .ref l7, .ref l8, .ref l9, .int by0, .int fd])), (l1, .inl (cI, 2400, .inl f)), (l2, .inl (cI, 2400, .inl g)), (l3, .inl (cI, 2400, .inl kf)), (l4, .inl (cI, 2400, .inl kg)), (l5, .inl (cI, 4800, .inl ef)), (l6, .inl (cI, 4800, .inl eg)), (l7, .inl (cZ, 1120, .inl mt)), (l8, .inl (cI, 4, .inl fr)), (l9, .inl (cI, 4, .inl tt))] sz)) 0 0 (va_A [(mo, .inr (2, [.int th, .ref l1, .ref l2, .int (nI n), .ref l3, .ref l4, .int (nI nk), .ref l5, .ref l6, .int (nI mn), .ref l7, .ref l8, .ref l9, .int by0, .int fd])), (l1, .inl (cI, 2400, .inl f)), (l2, .inl (cI, 2400, .inl g)), (l3, .inl (cI, 2400, .inl kf)), (l4, .inl (cI, 2400, .inl kg)), (l5, .inl (cI, 4800, .inl ef)), (l6, .inl (cI, 4800, .inl eg)), (l7, .inl (cZ, 1120, .inl mt)), (l8, .inl (cI, 4, .inl fr)), (l9, .inl (cI, 4, .inl tt))] sz) := by
  refine Met.ofW (cc := cM_finds) (maxL := 5) (ret := (some .boolean)) (by decide) rfl ?_
  intro p e s m args below meth c s₁ B hml hv
  obtain ⟨rfl, hsz, hP, hK, hD0⟩ := hv
  have hx := B.exec
  have hb := B.bytes
  have hr := B.returns
  have hts := atoms_spec (ws := wsM_finds) B.pre
  have hown : s.vm.findClass RX2 = some m.cls := findClass_of_methodNamed B.named
  have hlocks := B.notSynchronized
  subst hsz
  have hD := hD0.self (sz := s.heap.size)
  generalize hAe : va_A [(mo, .inr (2, [.int th, .ref l1, .ref l2, .int (nI n), .ref l3, .ref l4, .int (nI nk), .ref l5, .ref l6, .int (nI mn), .ref l7, .ref l8, .ref l9, .int by0, .int fd])), (l1, .inl (cI, 2400, .inl f)), (l2, .inl (cI, 2400, .inl g)), (l3, .inl (cI, 2400, .inl kf)), (l4, .inl (cI, 2400, .inl kg)), (l5, .inl (cI, 4800, .inl ef)), (l6, .inl (cI, 4800, .inl eg)), (l7, .inl (cZ, 1120, .inl mt)), (l8, .inl (cI, 4, .inl fr)), (l9, .inl (cI, 4, .inl tt))] s.heap.size = A at hD ⊢
  have hA : ∀ q : Nat, s.heap.size ≤ q → A q := fun q h => by rw [← hAe]; exact Or.inr h
  have hS : va_S A s.heap s.heap [] := va_S.rf
  have hP : va_P (dC, dI) crCl [(mo, .inr (2, [.int th, .ref l1, .ref l2, .int (nI n), .ref l3, .ref l4, .int (nI nk), .ref l5, .ref l6, .int (nI mn), .ref l7, .ref l8, .ref l9, .int by0, .int fd])), (l1, .inl (cI, 2400, .inl f)), (l2, .inl (cI, 2400, .inl g)), (l3, .inl (cI, 2400, .inl kf)), (l4, .inl (cI, 2400, .inl kg)), (l5, .inl (cI, 4800, .inl ef)), (l6, .inl (cI, 4800, .inl eg)), (l7, .inl (cZ, 1120, .inl mt)), (l8, .inl (cI, 4, .inl fr)), (l9, .inl (cI, 4, .inl tt))] s.heap := hP
  have hl := lv_entry ([.ref mo, .int z]) (n := 5) (Nat.le_of_ble_eq_true rfl)
  rw [lg_entry_eq]
  generalize (lg_sl ([.ref mo, .int z]) ++ List.replicate (5 - (lg_sl ([.ref mo, .int z])).length) Slot.unset).toArray = ls at hl ⊢
  have hl : lv_has ls 5 [(0, .ref mo), (1, .int z)] := hl
  have htn := cr_tot_le lo hi n
  refine lv_aload_n hx hb dM_finds_0 rfl (lv_at hl 0 rfl) ?_
  refine lv_iconst (v := nI 0) hx hb dM_finds_1 (by decide) ?_
  refine va_put (D := (dC, dI)) (ci := 2) (v := .int (nI 0)) (ty := .int) (C := RX2) (T := TM) (N := 15) hx hb hts (wsM00_in _) tyM tyM_ok nmM hown hK hP hD hS 0 rfl rfl 14 (by decide) (hts (.fieldLink RX2 90 "CharRowsModel" "found" "I") (by decide +kernel)) (fun _ h9 => h9) rfl (by decide +kernel) rfl rfl (Nat.le_of_ble_eq_true rfl) dM_finds_2 (fun H locs hP hD hS => ?_)
  have hP : va_P (dC, dI) crCl [(mo, .inr (2, [.int th, .ref l1, .ref l2, .int (nI n), .ref l3, .ref l4, .int (nI nk), .ref l5, .ref l6, .int (nI mn), .ref l7, .ref l8, .ref l9, .int by0, .int (nI 0)])), (l1, .inl (cI, 2400, .inl f)), (l2, .inl (cI, 2400, .inl g)), (l3, .inl (cI, 2400, .inl kf)), (l4, .inl (cI, 2400, .inl kg)), (l5, .inl (cI, 4800, .inl ef)), (l6, .inl (cI, 4800, .inl eg)), (l7, .inl (cZ, 1120, .inl mt)), (l8, .inl (cI, 4, .inl fr)), (l9, .inl (cI, 4, .inl tt))] H := hP
  have hD : va_D A [(mo, .inr (2, [.int th, .ref l1, .ref l2, .int (nI n), .ref l3, .ref l4, .int (nI nk), .ref l5, .ref l6, .int (nI mn), .ref l7, .ref l8, .ref l9, .int by0, .int (nI 0)])), (l1, .inl (cI, 2400, .inl f)), (l2, .inl (cI, 2400, .inl g)), (l3, .inl (cI, 2400, .inl kf)), (l4, .inl (cI, 2400, .inl kg)), (l5, .inl (cI, 4800, .inl ef)), (l6, .inl (cI, 4800, .inl eg)), (l7, .inl (cZ, 1120, .inl mt)), (l8, .inl (cI, 4, .inl fr)), (l9, .inl (cI, 4, .inl tt))] := hD
  refine lv_iconst (v := nI 0) hx hb dM_finds_5 (by decide) ?_
  refine lv_istore_n (lv' := [(2, .int (nI 0)), (0, .ref mo), (1, .int z)]) hx hb dM_finds_6 rfl hl (by decide) rfl (fun ls hl => ?_)
  refine cr_lp4 (fun (k : Nat) (b1 : Int32) (fr1 : Nat → Int32) (tt1 : Nat → Int32) => n - k) (fun (k : Nat) (b1 : Int32) (fr1 : Nat → Int32) (tt1 : Nat → Int32) H locs ls => (k ≤ n ∧ ∀ zz : Nat, zz < 2 ^ 31 → z = nI zz → cr_tot lo hi k ≤ zz) ∧ va_P (dC, dI) crCl [(mo, .inr (2, [.int th, .ref l1, .ref l2, .int (nI n), .ref l3, .ref l4, .int (nI nk), .ref l5, .ref l6, .int (nI mn), .ref l7, .ref l8, .ref l9, .int b1, .int (nI (cr_tot lo hi k))])), (l1, .inl (cI, 2400, .inl f)), (l2, .inl (cI, 2400, .inl g)), (l3, .inl (cI, 2400, .inl kf)), (l4, .inl (cI, 2400, .inl kg)), (l5, .inl (cI, 4800, .inl ef)), (l6, .inl (cI, 4800, .inl eg)), (l7, .inl (cZ, 1120, .inl mt)), (l8, .inl (cI, 4, .inl fr1)), (l9, .inl (cI, 4, .inl tt1))] H ∧ va_D A [(mo, .inr (2, [.int th, .ref l1, .ref l2, .int (nI n), .ref l3, .ref l4, .int (nI nk), .ref l5, .ref l6, .int (nI mn), .ref l7, .ref l8, .ref l9, .int b1, .int (nI (cr_tot lo hi k))])), (l1, .inl (cI, 2400, .inl f)), (l2, .inl (cI, 2400, .inl g)), (l3, .inl (cI, 2400, .inl kf)), (l4, .inl (cI, 2400, .inl kg)), (l5, .inl (cI, 4800, .inl ef)), (l6, .inl (cI, 4800, .inl eg)), (l7, .inl (cZ, 1120, .inl mt)), (l8, .inl (cI, 4, .inl fr1)), (l9, .inl (cI, 4, .inl tt1))] ∧ va_S A s.heap H locs ∧ lv_has ls 5 [(0, .ref mo), (1, .int z), (2, .int (nI k))]) ?_ 0 by0 fr tt ⟨⟨Nat.zero_le _, fun zz _ _ => Nat.zero_le _⟩, hP, hD, hS, lv_sub hl [1, 2, 0] rfl⟩
  intro k b1 fr1 tt1 H locs ls hI7 ih7
  obtain ⟨⟨h1, h2⟩, hP, hD, hS, hl⟩ := hI7
  have htk := cr_tot_le lo hi k
  refine lv_iload_n hx hb dM_finds_7 rfl (lv_at hl 2 rfl) ?_
  refine lv_aload_n hx hb dM_finds_8 rfl (lv_at hl 0 rfl) ?_
  refine va_get (D := (dC, dI)) (ci := 2) (v := .int (nI n)) (C := RX2) (T := TM) (N := 15) hx hb hts (wsM00_in _) hown hK hP 0 rfl rfl 3 (by decide) (hts (.fieldLink RX2 45 "CharRowsModel" "size" "I") (by decide +kernel)) (fun _ h9 => h9) rfl dM_finds_9 ?_
  refine lv_icmp_ge (tgt := 85) hx hb dM_finds_12 (by decide) (fun c_12 => ?_) (fun c_12 => ?_)
  · rw [nI_leI (by omega) (by omega)] at c_12
    refine lv_iconst (v := nI 0) hx hb dM_finds_85 (by decide) ?_
    exact W.zret (v := nI 0) (ty := .boolean) hx hb hr (by first | rfl | decide) (fun t9 ht9 hW9 => ⟨⟨nI 0, [(mo, .inr (2, [.int th, .ref l1, .ref l2, .int (nI n), .ref l3, .ref l4, .int (nI nk), .ref l5, .ref l6, .int (nI mn), .ref l7, .ref l8, .ref l9, .int b1, .int (nI (cr_tot lo hi k))])), (l1, .inl (cI, 2400, .inl f)), (l2, .inl (cI, 2400, .inl g)), (l3, .inl (cI, 2400, .inl kf)), (l4, .inl (cI, 2400, .inl kg)), (l5, .inl (cI, 4800, .inl ef)), (l6, .inl (cI, 4800, .inl eg)), (l7, .inl (cZ, 1120, .inl mt)), (l8, .inl (cI, 4, .inl fr1)), (l9, .inl (cI, 4, .inl tt1))], rfl, ⟨b1, fr1, tt1, _, rfl, Or.inl ⟨rfl, by rw [show k = n from (by omega)], fun zz h3 h4 => by rw [← show k = n from (by omega)]; exact h2 zz h3 h4⟩⟩, by rw [ht9]; exact hP, va_K.moved hW9.alike hK, hD⟩, hS.F ht9⟩) hS.2.2 dM_finds_86
  · rw [nI_leI (by omega) (by omega)] at c_12
    have hok := hO.1 k (by omega)
    refine lv_aload_n hx hb dM_finds_15 rfl (lv_at hl 0 rfl) ?_
    refine va_get (D := (dC, dI)) (ci := 2) (v := .ref l1) (C := RX2) (T := TM) (N := 15) hx hb hts (wsM00_in _) hown hK hP 0 rfl rfl 1 (by decide) (hts (.fieldLink RX2 7 "CharRowsModel" "low" "[I") (by decide +kernel)) (fun _ h9 => h9) rfl dM_finds_16 ?_
    refine lv_iload_n hx hb dM_finds_19 rfl (lv_at hl 2 rfl) ?_
    refine va_iald hx hb hK hP 1 0 rfl rfl (vp_in_nI (by omega) (by omega)) dM_finds_20 ?_
    refine cr_top (y := nI (lo k)) (by rw [nI_clamp (by omega)]; exact (hR _ (by omega)).1) ?_
    refine lv_istore_n (lv' := [(3, .int (nI (lo k))), (0, .ref mo), (1, .int z), (2, .int (nI k))]) hx hb dM_finds_21 rfl hl (by decide) rfl (fun ls hl => ?_)
    refine cr_lp4 (fun (t : Nat) (b1 : Int32) (fr1 : Nat → Int32) (tt1 : Nat → Int32) => cr_N (lo k) (hi k) - t) (fun (t : Nat) (b1 : Int32) (fr1 : Nat → Int32) (tt1 : Nat → Int32) H locs ls => (t ≤ cr_N (lo k) (hi k) ∧ ∀ zz : Nat, zz < 2 ^ 31 → z = nI zz → cr_tot lo hi k + t ≤ zz) ∧ va_P (dC, dI) crCl [(mo, .inr (2, [.int th, .ref l1, .ref l2, .int (nI n), .ref l3, .ref l4, .int (nI nk), .ref l5, .ref l6, .int (nI mn), .ref l7, .ref l8, .ref l9, .int b1, .int (nI (cr_tot lo hi k + t))])), (l1, .inl (cI, 2400, .inl f)), (l2, .inl (cI, 2400, .inl g)), (l3, .inl (cI, 2400, .inl kf)), (l4, .inl (cI, 2400, .inl kg)), (l5, .inl (cI, 4800, .inl ef)), (l6, .inl (cI, 4800, .inl eg)), (l7, .inl (cZ, 1120, .inl mt)), (l8, .inl (cI, 4, .inl fr1)), (l9, .inl (cI, 4, .inl tt1))] H ∧ va_D A [(mo, .inr (2, [.int th, .ref l1, .ref l2, .int (nI n), .ref l3, .ref l4, .int (nI nk), .ref l5, .ref l6, .int (nI mn), .ref l7, .ref l8, .ref l9, .int b1, .int (nI (cr_tot lo hi k + t))])), (l1, .inl (cI, 2400, .inl f)), (l2, .inl (cI, 2400, .inl g)), (l3, .inl (cI, 2400, .inl kf)), (l4, .inl (cI, 2400, .inl kg)), (l5, .inl (cI, 4800, .inl ef)), (l6, .inl (cI, 4800, .inl eg)), (l7, .inl (cZ, 1120, .inl mt)), (l8, .inl (cI, 4, .inl fr1)), (l9, .inl (cI, 4, .inl tt1))] ∧ va_S A s.heap H locs ∧ lv_has ls 5 [(0, .ref mo), (1, .int z), (2, .int (nI k)), (3, .int (nI (cr_go t (lo k) (hi k))))]) ?_ 0 b1 fr1 tt1 ⟨⟨Nat.zero_le _, h2⟩, hP, hD, hS, lv_sub hl [1, 2, 3, 0] rfl⟩
    intro t b1 fr1 tt1 H locs ls hI22 ih22
    obtain ⟨⟨h3, h4⟩, hP, hD, hS, hl⟩ := hI22
    have hgl := cr_go_le (show lo k ≤ 1114112 by omega) (show hi k ≤ 1114111 by omega) h3
    have hNl := cr_N_le (lo k) (hi k)
    refine lv_iload_n hx hb dM_finds_22 rfl (lv_at hl 3 rfl) ?_
    refine lv_aload_n hx hb dM_finds_23 rfl (lv_at hl 0 rfl) ?_
    refine va_get (D := (dC, dI)) (ci := 2) (v := .ref l2) (C := RX2) (T := TM) (N := 15) hx hb hts (wsM00_in _) hown hK hP 0 rfl rfl 2 (by decide) (hts (.fieldLink RX2 13 "CharRowsModel" "high" "[I") (by decide +kernel)) (fun _ h9 => h9) rfl dM_finds_24 ?_
    refine lv_iload_n hx hb dM_finds_27 rfl (lv_at hl 2 rfl) ?_
    refine va_iald hx hb hK hP 2 0 rfl rfl (vp_in_nI (by omega) (by omega)) dM_finds_28 ?_
    refine cr_top (y := nI (hi k)) (by rw [nI_clamp (by omega)]; exact (hR _ (by omega)).2) ?_
    refine lv_icmp_gt (tgt := 79) hx hb dM_finds_29 (by decide) (fun c_29 => ?_) (fun c_29 => ?_)
    · rw [nI_ltI (by omega) (by omega)] at c_29
      have htot : cr_tot lo hi (k + 1) = cr_tot lo hi k + t := cr_tot_end h3 (by omega)
      rw [← htot] at hP hD
      refine lv_iinc (v := nI (k + 1)) (lv' := [(2, .int (nI (k + 1))), (0, .ref mo), (1, .int z), (3, .int (nI (cr_go t (lo k) (hi k))))]) hx hb dM_finds_79 hl (k := 2) rfl (nI_add k 1) (by decide) rfl (fun ls hl => ?_)
      refine lv_goto (tgt := 7) hx hb dM_finds_82 (by decide) ?_
      exact ih7 (k + 1) b1 fr1 tt1 _ _ _ ⟨⟨by omega, fun zz a b => by rw [htot]; exact h4 zz a b⟩, hP, hD, hS, lv_sub hl [1, 2, 0] rfl⟩ (by omega)
    · rw [nI_ltI (by omega) (by omega)] at c_29
      have htN : t < cr_N (lo k) (hi k) := cr_N_lt (by omega) h3 (by omega)
      have hla := cr_last_in (c := cr_go t (lo k) (hi k)) (high := hi k) (by omega) (by omega)
      refine lv_aload_n hx hb dM_finds_32 rfl (lv_at hl 0 rfl) ?_
      refine lv_iload_n hx hb dM_finds_33 rfl (lv_at hl 3 rfl) ?_
      refine lv_aload_n hx hb dM_finds_34 rfl (lv_at hl 0 rfl) ?_
      refine va_get (D := (dC, dI)) (ci := 2) (v := .ref l2) (C := RX2) (T := TM) (N := 15) hx hb hts (wsM00_in _) hown hK hP 0 rfl rfl 2 (by decide) (hts (.fieldLink RX2 13 "CharRowsModel" "high" "[I") (by decide +kernel)) (fun _ h9 => h9) rfl dM_finds_35 ?_
      refine lv_iload_n hx hb dM_finds_38 rfl (lv_at hl 2 rfl) ?_
      refine va_iald hx hb hK hP 2 0 rfl rfl (vp_in_nI (by omega) (by omega)) dM_finds_39 ?_
      refine cr_top (y := nI (hi k)) (by rw [nI_clamp (by omega)]; exact (hR _ (by omega)).2) ?_
      have hPc := hP.sub (ws' := [(mo, .inr (2, [.int th, .ref l1, .ref l2, .int (nI n), .ref l3, .ref l4, .int (nI nk), .ref l5, .ref l6, .int (nI mn), .ref l7, .ref l8, .ref l9, .int b1, .int (nI (cr_tot lo hi k + t))])), (l1, .inl (cI, 2400, .inl f)), (l2, .inl (cI, 2400, .inl g)), (l3, .inl (cI, 2400, .inl kf)), (l4, .inl (cI, 2400, .inl kg)), (l5, .inl (cI, 4800, .inl ef)), (l6, .inl (cI, 4800, .inl eg)), (l7, .inl (cZ, 1120, .inl mt)), (l8, .inl (cI, 4, .inl fr1)), (l9, .inl (cI, 4, .inl tt1))]) [0, 1, 2, 3, 4, 5, 6, 7, 8, 9] rfl
      have hDc := hD.sub (ws' := [(mo, .inr (2, [.int th, .ref l1, .ref l2, .int (nI n), .ref l3, .ref l4, .int (nI nk), .ref l5, .ref l6, .int (nI mn), .ref l7, .ref l8, .ref l9, .int b1, .int (nI (cr_tot lo hi k + t))])), (l1, .inl (cI, 2400, .inl f)), (l2, .inl (cI, 2400, .inl g)), (l3, .inl (cI, 2400, .inl kf)), (l4, .inl (cI, 2400, .inl kg)), (l5, .inl (cI, 4800, .inl ef)), (l6, .inl (cI, 4800, .inl eg)), (l7, .inl (cZ, 1120, .inl mt)), (l8, .inl (cI, 4, .inl fr1)), (l9, .inl (cI, 4, .inl tt1))]) [0, 1, 2, 3, 4, 5, 6, 7, 8, 9] (by decide) rfl
      have hFc := va_free (wc := [(mo, .inr (2, [.int th, .ref l1, .ref l2, .int (nI n), .ref l3, .ref l4, .int (nI nk), .ref l5, .ref l6, .int (nI mn), .ref l7, .ref l8, .ref l9, .int b1, .int (nI (cr_tot lo hi k + t))])), (l1, .inl (cI, 2400, .inl f)), (l2, .inl (cI, 2400, .inl g)), (l3, .inl (cI, 2400, .inl kf)), (l4, .inl (cI, 2400, .inl kg)), (l5, .inl (cI, 4800, .inl ef)), (l6, .inl (cI, 4800, .inl eg)), (l7, .inl (cZ, 1120, .inl mt)), (l8, .inl (cI, 4, .inl fr1)), (l9, .inl (cI, 4, .inl tt1))]) hD hS hA [0, 1, 2, 3, 4, 5, 6, 7, 8, 9] rfl
      refine va_calli (va_runV (As := [.int (nI (cr_go t (lo k) (hi k))), .int (nI (hi k))]) (rest := []) ⟨hx, hb, hml, hown, hts⟩ (m_runs l dC dI _ mo l1 l2 l3 l4 l5 l6 l7 l8 l9 cI cZ th b1 (nI (cr_tot lo hi k + t)) n nk mn f g kf kg ef eg mt fr1 tt1 (cr_go t (lo k) (hi k)) (hi k) (by omega) (by omega)) (cwV 2 hts gM_finds_M_runs rfl rfl rfl (by decide +kernel) ⟨Nat.le_of_ble_eq_true rfl, Nat.le_of_ble_eq_true rfl⟩) (cr_preV hPc hK hDc (ci := 2) (q0 := 0) rfl rfl) rfl rfl hl.1 rfl (lv_room (Nat.le_of_ble_eq_true rfl)) dM_finds_40 ⟨Nat.zero_le _, Nat.zero_le _⟩) hS (fun q _ h => hFc q h) hFc (fun r_40 u_40 t_40 H_40 locs ht_40 hvm_40 hw_40 hB_40 hz_40 hk_40 hS => ?_)
      obtain ⟨rfl, b2, fr2, tt2, rfl⟩ := hw_40
      obtain ⟨hP, hD⟩ := cr_back (wr := []) (w1 := [(mo, .inr (2, [.int th, .ref l1, .ref l2, .int (nI n), .ref l3, .ref l4, .int (nI nk), .ref l5, .ref l6, .int (nI mn), .ref l7, .ref l8, .ref l9, .int b2, .int (nI (cr_tot lo hi k + t))])), (l1, .inl (cI, 2400, .inl f)), (l2, .inl (cI, 2400, .inl g)), (l3, .inl (cI, 2400, .inl kf)), (l4, .inl (cI, 2400, .inl kg)), (l5, .inl (cI, 4800, .inl ef)), (l6, .inl (cI, 4800, .inl eg)), (l7, .inl (cZ, 1120, .inl mt)), (l8, .inl (cI, 4, .inl fr2)), (l9, .inl (cI, 4, .inl tt2))]) hP hD [0, 1, 2, 3, 4, 5, 6, 7, 8, 9] [] rfl rfl (by decide) (by decide) hk_40 hFc hB_40 ht_40
      clear hPc hDc hFc
      generalize H_40 = H at hP hS ⊢
      have hP := hP.sub (ws' := [(mo, .inr (2, [.int th, .ref l1, .ref l2, .int (nI n), .ref l3, .ref l4, .int (nI nk), .ref l5, .ref l6, .int (nI mn), .ref l7, .ref l8, .ref l9, .int b2, .int (nI (cr_tot lo hi k + t))])), (l1, .inl (cI, 2400, .inl f)), (l2, .inl (cI, 2400, .inl g)), (l3, .inl (cI, 2400, .inl kf)), (l4, .inl (cI, 2400, .inl kg)), (l5, .inl (cI, 4800, .inl ef)), (l6, .inl (cI, 4800, .inl eg)), (l7, .inl (cZ, 1120, .inl mt)), (l8, .inl (cI, 4, .inl fr2)), (l9, .inl (cI, 4, .inl tt2))]) [0, 1, 2, 3, 4, 5, 6, 7, 8, 9] rfl
      have hD := hD.sub (ws' := [(mo, .inr (2, [.int th, .ref l1, .ref l2, .int (nI n), .ref l3, .ref l4, .int (nI nk), .ref l5, .ref l6, .int (nI mn), .ref l7, .ref l8, .ref l9, .int b2, .int (nI (cr_tot lo hi k + t))])), (l1, .inl (cI, 2400, .inl f)), (l2, .inl (cI, 2400, .inl g)), (l3, .inl (cI, 2400, .inl kf)), (l4, .inl (cI, 2400, .inl kg)), (l5, .inl (cI, 4800, .inl ef)), (l6, .inl (cI, 4800, .inl eg)), (l7, .inl (cZ, 1120, .inl mt)), (l8, .inl (cI, 4, .inl fr2)), (l9, .inl (cI, 4, .inl tt2))]) [0, 1, 2, 3, 4, 5, 6, 7, 8, 9] (by decide) rfl
      refine lv_istore (lv' := [(4, .int (nI (cr_last (cr_go t (lo k) (hi k)) (hi k)))), (0, .ref mo), (1, .int z), (2, .int (nI k)), (3, .int (nI (cr_go t (lo k) (hi k))))]) hx hb dM_finds_43 hl (by decide) rfl (fun ls hl => ?_)
      refine lv_aload_n hx hb dM_finds_45 rfl (lv_at hl 1 rfl) ?_
      refine va_get (D := (dC, dI)) (ci := 2) (v := .int (nI (cr_tot lo hi k + t))) (C := RX2) (T := TM) (N := 15) hx hb hts (wsM00_in _) hown hK hP 0 rfl rfl 14 (by decide) (hts (.fieldLink RX2 90 "CharRowsModel" "found" "I") (by decide +kernel)) (fun _ h9 => h9) rfl dM_finds_46 ?_
      refine lv_iload_n hx hb dM_finds_49 rfl (lv_at hl 2 rfl) ?_
      refine lv_icmp_ne (tgt := 61) hx hb dM_finds_50 (by decide) (fun c_50 => ?_) (fun c_50 => ?_)
      · refine lv_aload_n hx hb dM_finds_61 rfl (lv_at hl 1 rfl) ?_
        refine lv_dup hx hb dM_finds_62 rfl ?_
        refine va_get (D := (dC, dI)) (ci := 2) (v := .int (nI (cr_tot lo hi k + t))) (C := RX2) (T := TM) (N := 15) hx hb hts (wsM00_in _) hown hK hP 0 rfl rfl 14 (by decide) (hts (.fieldLink RX2 90 "CharRowsModel" "found" "I") (by decide +kernel)) (fun _ h9 => h9) rfl dM_finds_63 ?_
        refine lv_iconst (v := nI 1) hx hb dM_finds_66 (by decide) ?_
        refine lv_iadd hx hb dM_finds_67 ?_
        refine cr_top (y := nI ((cr_tot lo hi k + t) + 1)) (nI_add (cr_tot lo hi k + t) 1) ?_
        refine va_put (D := (dC, dI)) (ci := 2) (v := .int (nI ((cr_tot lo hi k + t) + 1))) (ty := .int) (C := RX2) (T := TM) (N := 15) hx hb hts (wsM00_in _) tyM tyM_ok nmM hown hK hP hD hS 0 rfl rfl 14 (by decide) (hts (.fieldLink RX2 90 "CharRowsModel" "found" "I") (by decide +kernel)) (fun _ h9 => h9) rfl (by decide +kernel) rfl rfl (Nat.le_of_ble_eq_true rfl) dM_finds_68 (fun H locs hP hD hS => ?_)
        have hP : va_P (dC, dI) crCl [(mo, .inr (2, [.int th, .ref l1, .ref l2, .int (nI n), .ref l3, .ref l4, .int (nI nk), .ref l5, .ref l6, .int (nI mn), .ref l7, .ref l8, .ref l9, .int b2, .int (nI ((cr_tot lo hi k + t) + 1))])), (l1, .inl (cI, 2400, .inl f)), (l2, .inl (cI, 2400, .inl g)), (l3, .inl (cI, 2400, .inl kf)), (l4, .inl (cI, 2400, .inl kg)), (l5, .inl (cI, 4800, .inl ef)), (l6, .inl (cI, 4800, .inl eg)), (l7, .inl (cZ, 1120, .inl mt)), (l8, .inl (cI, 4, .inl fr2)), (l9, .inl (cI, 4, .inl tt2))] H := hP
        have hD : va_D A [(mo, .inr (2, [.int th, .ref l1, .ref l2, .int (nI n), .ref l3, .ref l4, .int (nI nk), .ref l5, .ref l6, .int (nI mn), .ref l7, .ref l8, .ref l9, .int b2, .int (nI ((cr_tot lo hi k + t) + 1))])), (l1, .inl (cI, 2400, .inl f)), (l2, .inl (cI, 2400, .inl g)), (l3, .inl (cI, 2400, .inl kf)), (l4, .inl (cI, 2400, .inl kg)), (l5, .inl (cI, 4800, .inl ef)), (l6, .inl (cI, 4800, .inl eg)), (l7, .inl (cZ, 1120, .inl mt)), (l8, .inl (cI, 4, .inl fr2)), (l9, .inl (cI, 4, .inl tt2))] := hD
        refine lv_iload hx hb dM_finds_71 (lv_at hl 0 rfl) ?_
        refine lv_iconst (v := nI 1) hx hb dM_finds_73 (by decide) ?_
        refine lv_iadd hx hb dM_finds_74 ?_
        refine cr_top (y := nI ((cr_last (cr_go t (lo k) (hi k)) (hi k)) + 1)) (nI_add (cr_last (cr_go t (lo k) (hi k)) (hi k)) 1) ?_
        refine cr_top (y := nI (cr_go (t + 1) (lo k) (hi k))) (rfl) ?_
        refine lv_istore_n (lv' := [(3, .int (nI (cr_go (t + 1) (lo k) (hi k)))), (4, .int (nI (cr_last (cr_go t (lo k) (hi k)) (hi k)))), (0, .ref mo), (1, .int z), (2, .int (nI k))]) hx hb dM_finds_75 rfl hl (by decide) rfl (fun ls hl => ?_)
        refine lv_goto (tgt := 22) hx hb dM_finds_76 (by decide) ?_
        exact ih22 (t + 1) b2 fr2 tt2 _ _ _ ⟨⟨by omega, fun zz a b => cr_find_s (h4 zz a b) a b c_50⟩, hP, hD, hS, lv_sub hl [2, 3, 4, 0] rfl⟩ (by omega)
      · refine lv_aload_n hx hb dM_finds_53 rfl (lv_at hl 1 rfl) ?_
        refine lv_iload_n hx hb dM_finds_54 rfl (lv_at hl 4 rfl) ?_
        refine lv_iload hx hb dM_finds_55 (lv_at hl 0 rfl) ?_
        have hPc := hP.sub (ws' := [(mo, .inr (2, [.int th, .ref l1, .ref l2, .int (nI n), .ref l3, .ref l4, .int (nI nk), .ref l5, .ref l6, .int (nI mn), .ref l7, .ref l8, .ref l9, .int b2, .int (nI (cr_tot lo hi k + t))])), (l1, .inl (cI, 2400, .inl f)), (l2, .inl (cI, 2400, .inl g)), (l3, .inl (cI, 2400, .inl kf)), (l4, .inl (cI, 2400, .inl kg)), (l5, .inl (cI, 4800, .inl ef)), (l6, .inl (cI, 4800, .inl eg)), (l7, .inl (cZ, 1120, .inl mt)), (l8, .inl (cI, 4, .inl fr2)), (l9, .inl (cI, 4, .inl tt2))]) [0, 1, 2, 3, 4, 5, 6, 7, 8, 9] rfl
        have hDc := hD.sub (ws' := [(mo, .inr (2, [.int th, .ref l1, .ref l2, .int (nI n), .ref l3, .ref l4, .int (nI nk), .ref l5, .ref l6, .int (nI mn), .ref l7, .ref l8, .ref l9, .int b2, .int (nI (cr_tot lo hi k + t))])), (l1, .inl (cI, 2400, .inl f)), (l2, .inl (cI, 2400, .inl g)), (l3, .inl (cI, 2400, .inl kf)), (l4, .inl (cI, 2400, .inl kg)), (l5, .inl (cI, 4800, .inl ef)), (l6, .inl (cI, 4800, .inl eg)), (l7, .inl (cZ, 1120, .inl mt)), (l8, .inl (cI, 4, .inl fr2)), (l9, .inl (cI, 4, .inl tt2))]) [0, 1, 2, 3, 4, 5, 6, 7, 8, 9] (by decide) rfl
        have hFc := va_free (wc := [(mo, .inr (2, [.int th, .ref l1, .ref l2, .int (nI n), .ref l3, .ref l4, .int (nI nk), .ref l5, .ref l6, .int (nI mn), .ref l7, .ref l8, .ref l9, .int b2, .int (nI (cr_tot lo hi k + t))])), (l1, .inl (cI, 2400, .inl f)), (l2, .inl (cI, 2400, .inl g)), (l3, .inl (cI, 2400, .inl kf)), (l4, .inl (cI, 2400, .inl kg)), (l5, .inl (cI, 4800, .inl ef)), (l6, .inl (cI, 4800, .inl eg)), (l7, .inl (cZ, 1120, .inl mt)), (l8, .inl (cI, 4, .inl fr2)), (l9, .inl (cI, 4, .inl tt2))]) hD hS hA [0, 1, 2, 3, 4, 5, 6, 7, 8, 9] rfl
        refine va_calli (va_runV (As := [.int (nI (cr_go t (lo k) (hi k))), .int (nI (cr_last (cr_go t (lo k) (hi k)) (hi k)))]) (rest := []) ⟨hx, hb, hml, hown, hts⟩ (m_isRow l dC dI _ mo l1 l2 l3 l4 l5 l6 l7 l8 l9 cI cZ th b2 (nI (cr_tot lo hi k + t)) n nk mn f g kf kg ef eg mt fr2 tt2 (cr_go t (lo k) (hi k)) (cr_last (cr_go t (lo k) (hi k)) (hi k)) (by omega) (by omega)) (cwV 2 hts gM_finds_M_isRow rfl rfl rfl (by decide +kernel) ⟨Nat.le_of_ble_eq_true rfl, Nat.le_of_ble_eq_true rfl⟩) (cr_preV hPc hK hDc (ci := 2) (q0 := 0) rfl rfl) rfl rfl hl.1 rfl (lv_room (Nat.le_of_ble_eq_true rfl)) dM_finds_57 ⟨Nat.zero_le _, Nat.zero_le _⟩) hS (fun q _ h => hFc q h) hFc (fun r_57 u_57 t_57 H_57 locs ht_57 hvm_57 hw_57 hB_57 hz_57 hk_57 hS => ?_)
        obtain ⟨fr3, tt3, rfl, hzr, hrr⟩ := hw_57
        obtain rfl : r_57 = nI 1 := hzr.elim (fun q => q.1) (fun q => absurd hla.2.2.1 q.2)
        obtain ⟨hP, hD⟩ := cr_back (wr := []) (w1 := [(mo, .inr (2, [.int th, .ref l1, .ref l2, .int (nI n), .ref l3, .ref l4, .int (nI nk), .ref l5, .ref l6, .int (nI mn), .ref l7, .ref l8, .ref l9, .int (nI (cr_len (cr_go t (lo k) (hi k)))), .int (nI (cr_tot lo hi k + t))])), (l1, .inl (cI, 2400, .inl f)), (l2, .inl (cI, 2400, .inl g)), (l3, .inl (cI, 2400, .inl kf)), (l4, .inl (cI, 2400, .inl kg)), (l5, .inl (cI, 4800, .inl ef)), (l6, .inl (cI, 4800, .inl eg)), (l7, .inl (cZ, 1120, .inl mt)), (l8, .inl (cI, 4, .inl fr3)), (l9, .inl (cI, 4, .inl tt3))]) hP hD [0, 1, 2, 3, 4, 5, 6, 7, 8, 9] [] rfl rfl (by decide) (by decide) hk_57 hFc hB_57 ht_57
        clear hPc hDc hFc
        generalize H_57 = H at hP hS ⊢
        have hP := hP.sub (ws' := [(mo, .inr (2, [.int th, .ref l1, .ref l2, .int (nI n), .ref l3, .ref l4, .int (nI nk), .ref l5, .ref l6, .int (nI mn), .ref l7, .ref l8, .ref l9, .int (nI (cr_len (cr_go t (lo k) (hi k)))), .int (nI (cr_tot lo hi k + t))])), (l1, .inl (cI, 2400, .inl f)), (l2, .inl (cI, 2400, .inl g)), (l3, .inl (cI, 2400, .inl kf)), (l4, .inl (cI, 2400, .inl kg)), (l5, .inl (cI, 4800, .inl ef)), (l6, .inl (cI, 4800, .inl eg)), (l7, .inl (cZ, 1120, .inl mt)), (l8, .inl (cI, 4, .inl fr3)), (l9, .inl (cI, 4, .inl tt3))]) [0, 1, 2, 3, 4, 5, 6, 7, 8, 9] rfl
        have hD := hD.sub (ws' := [(mo, .inr (2, [.int th, .ref l1, .ref l2, .int (nI n), .ref l3, .ref l4, .int (nI nk), .ref l5, .ref l6, .int (nI mn), .ref l7, .ref l8, .ref l9, .int (nI (cr_len (cr_go t (lo k) (hi k)))), .int (nI (cr_tot lo hi k + t))])), (l1, .inl (cI, 2400, .inl f)), (l2, .inl (cI, 2400, .inl g)), (l3, .inl (cI, 2400, .inl kf)), (l4, .inl (cI, 2400, .inl kg)), (l5, .inl (cI, 4800, .inl ef)), (l6, .inl (cI, 4800, .inl eg)), (l7, .inl (cZ, 1120, .inl mt)), (l8, .inl (cI, 4, .inl fr3)), (l9, .inl (cI, 4, .inl tt3))]) [0, 1, 2, 3, 4, 5, 6, 7, 8, 9] (by decide) rfl
        exact W.zret (v := nI 1) (ty := .boolean) hx hb hr (by first | rfl | decide) (fun t9 ht9 hW9 => ⟨⟨nI 1, [(mo, .inr (2, [.int th, .ref l1, .ref l2, .int (nI n), .ref l3, .ref l4, .int (nI nk), .ref l5, .ref l6, .int (nI mn), .ref l7, .ref l8, .ref l9, .int (nI (cr_len (cr_go t (lo k) (hi k)))), .int (nI (cr_tot lo hi k + t))])), (l1, .inl (cI, 2400, .inl f)), (l2, .inl (cI, 2400, .inl g)), (l3, .inl (cI, 2400, .inl kf)), (l4, .inl (cI, 2400, .inl kg)), (l5, .inl (cI, 4800, .inl ef)), (l6, .inl (cI, 4800, .inl eg)), (l7, .inl (cZ, 1120, .inl mt)), (l8, .inl (cI, 4, .inl fr3)), (l9, .inl (cI, 4, .inl tt3))], rfl, ⟨_, fr3, tt3, _, rfl, Or.inr ⟨rfl, cr_tot lo hi k + t, k, t, by omega, c_50.symm, by omega, htN, rfl, rfl, hrr hla.2.2.1⟩⟩, by rw [ht9]; exact hP, va_K.moved hW9.alike hK, hD⟩, hS.F ht9⟩) hS.2.2 dM_finds_60

set_option maxHeartbeats 4000000 in
set_option maxRecDepth 100000 in
theorem m_rows (l : Launch) (dC : Nat → ClassId) (dI : Nat → Nat → Nat) (sz : Nat) (mo l1 l2 l3 l4 l5 l6 l7 l8 l9 : Nat) (cI cZ : ClassId) (th by0 fd : Int32) (n nk mn : Nat) (f g kf kg ef eg mt fr tt : Nat → Int32) (lo hi : Nat → Nat) (hR : cr_Rp n lo hi f g) (hO : cr_Ok n lo hi) (hn : n ≤ 2400) : Met l yM_rows wsM_rows ({ frames := 6, cells := 0, slots := 0, locals := 220 }) (va_Pc [.ref mo] (cr_pre dC dI [(cI, .int), (cZ, .boolean)] [(mo, .inr (2, [.int th, .ref l1, .ref l2, .int (nI n), .ref l3, .ref l4, .int (nI nk), .ref l5, .ref l6, .int (nI mn), .ref l7, .ref l8, .ref l9, .int by0, .int fd])), (l1, .inl (cI, 2400, .inl f)), (l2, .inl (cI, 2400, .inl g)), (l3, .inl (cI, 2400, .inl kf)), (l4, .inl (cI, 2400, .inl kg)), (l5, .inl (cI, 4800, .inl ef)), (l6, .inl (cI, 4800, .inl eg)), (l7, .inl (cZ, 1120, .inl mt)), (l8, .inl (cI, 4, .inl fr)), (l9, .inl (cI, 4, .inl tt))] sz)) (va_Qi (fun (rr : Int32) (u : va_W) => rr = nI (cr_tot lo hi n) ∧ ∃ (b' : Int32) (fr' tt' : Nat → Int32) (fd' : Int32), u = [(mo, .inr (2, [.int (nI 0), .ref l1, .ref l2, .int (nI n), .ref l3, .ref l4, .int (nI nk), .ref l5, .ref l6, .int (nI mn), .ref l7, .ref l8, .ref l9, .int b', .int fd'])), (l1, .inl (cI, 2400, .inl f)), (l2, .inl (cI, 2400, .inl g)), (l3, .inl (cI, 2400, .inl kf)), (l4, .inl (cI, 2400, .inl kg)), (l5, .inl (cI, 4800, .inl ef)), (l6, .inl (cI, 4800, .inl eg)), (l7, .inl (cZ, 1120, .inl mt)), (l8, .inl (cI, 4, .inl fr')), (l9, .inl (cI, 4, .inl tt'))]) (cr_at dC dI [(cI, .int), (cZ, .boolean)] (va_A [(mo, .inr (2, [.int th, .ref l1, .ref l2, .int (nI n), .ref l3, .ref l4, .int (nI nk), .ref l5, .ref l6, .int (nI mn), .ref l7, .ref l8, .ref l9, .int by0, .int fd])), (l1, .inl (cI, 2400, .inl f)), (l2, .inl (cI, 2400, .inl g)), (l3, .inl (cI, 2400, .inl kf)), (l4, .inl (cI, 2400, .inl kg)), (l5, .inl (cI, 4800, .inl ef)), (l6, .inl (cI, 4800, .inl eg)), (l7, .inl (cZ, 1120, .inl mt)), (l8, .inl (cI, 4, .inl fr)), (l9, .inl (cI, 4, .inl tt))] sz)) (va_A [(mo, .inr (2, [.int th, .ref l1, .ref l2, .int (nI n), .ref l3, .ref l4, .int (nI nk), .ref l5, .ref l6, .int (nI mn), .ref l7, .ref l8, .ref l9, .int by0, .int fd])), (l1, .inl (cI, 2400, .inl f)), (l2, .inl (cI, 2400, .inl g)), (l3, .inl (cI, 2400, .inl kf)), (l4, .inl (cI, 2400, .inl kg)), (l5, .inl (cI, 4800, .inl ef)), (l6, .inl (cI, 4800, .inl eg)), (l7, .inl (cZ, 1120, .inl mt)), (l8, .inl (cI, 4, .inl fr)), (l9, .inl (cI, 4, .inl tt))] sz)) 0 0 (va_A [(mo, .inr (2, [.int th, .ref l1, .ref l2, .int (nI n), .ref l3, .ref l4, .int (nI nk), .ref l5, .ref l6, .int (nI mn), .ref l7, .ref l8, .ref l9, .int by0, .int fd])), (l1, .inl (cI, 2400, .inl f)), (l2, .inl (cI, 2400, .inl g)), (l3, .inl (cI, 2400, .inl kf)), (l4, .inl (cI, 2400, .inl kg)), (l5, .inl (cI, 4800, .inl ef)), (l6, .inl (cI, 4800, .inl eg)), (l7, .inl (cZ, 1120, .inl mt)), (l8, .inl (cI, 4, .inl fr)), (l9, .inl (cI, 4, .inl tt))] sz) := by
  refine Met.ofW (cc := cM_rows) (maxL := 1) (ret := (some .int)) (by decide) rfl ?_
  intro p e s m args below meth c s₁ B hml hv
  obtain ⟨rfl, hsz, hP, hK, hD0⟩ := hv
  have hx := B.exec
  have hb := B.bytes
  have hr := B.returns
  have hts := atoms_spec (ws := wsM_rows) B.pre
  have hown : s.vm.findClass RX2 = some m.cls := findClass_of_methodNamed B.named
  have hlocks := B.notSynchronized
  subst hsz
  have hD := hD0.self (sz := s.heap.size)
  generalize hAe : va_A [(mo, .inr (2, [.int th, .ref l1, .ref l2, .int (nI n), .ref l3, .ref l4, .int (nI nk), .ref l5, .ref l6, .int (nI mn), .ref l7, .ref l8, .ref l9, .int by0, .int fd])), (l1, .inl (cI, 2400, .inl f)), (l2, .inl (cI, 2400, .inl g)), (l3, .inl (cI, 2400, .inl kf)), (l4, .inl (cI, 2400, .inl kg)), (l5, .inl (cI, 4800, .inl ef)), (l6, .inl (cI, 4800, .inl eg)), (l7, .inl (cZ, 1120, .inl mt)), (l8, .inl (cI, 4, .inl fr)), (l9, .inl (cI, 4, .inl tt))] s.heap.size = A at hD ⊢
  have hA : ∀ q : Nat, s.heap.size ≤ q → A q := fun q h => by rw [← hAe]; exact Or.inr h
  have hS : va_S A s.heap s.heap [] := va_S.rf
  have hP : va_P (dC, dI) crCl [(mo, .inr (2, [.int th, .ref l1, .ref l2, .int (nI n), .ref l3, .ref l4, .int (nI nk), .ref l5, .ref l6, .int (nI mn), .ref l7, .ref l8, .ref l9, .int by0, .int fd])), (l1, .inl (cI, 2400, .inl f)), (l2, .inl (cI, 2400, .inl g)), (l3, .inl (cI, 2400, .inl kf)), (l4, .inl (cI, 2400, .inl kg)), (l5, .inl (cI, 4800, .inl ef)), (l6, .inl (cI, 4800, .inl eg)), (l7, .inl (cZ, 1120, .inl mt)), (l8, .inl (cI, 4, .inl fr)), (l9, .inl (cI, 4, .inl tt))] s.heap := hP
  have hl := lv_entry ([.ref mo]) (n := 1) (Nat.le_of_ble_eq_true rfl)
  rw [lg_entry_eq]
  generalize (lg_sl ([.ref mo]) ++ List.replicate (1 - (lg_sl ([.ref mo])).length) Slot.unset).toArray = ls at hl ⊢
  have hl : lv_has ls 1 [(0, .ref mo)] := hl
  refine lv_aload_n hx hb dM_rows_0 rfl (lv_at hl 0 rfl) ?_
  refine lv_iconst (v := nI 0) hx hb dM_rows_1 (by decide) ?_
  refine va_put (D := (dC, dI)) (ci := 2) (v := .int (nI 0)) (ty := .int) (C := RX2) (T := TM) (N := 15) hx hb hts (wsM00_in _) tyM tyM_ok nmM hown hK hP hD hS 0 rfl rfl 0 (by decide) (hts (.fieldLink RX2 38 "CharRowsModel" "thrown" "I") (by decide +kernel)) (fun _ h9 => h9) rfl (by decide +kernel) rfl rfl (Nat.le_of_ble_eq_true rfl) dM_rows_2 (fun H locs hP hD hS => ?_)
  have hP : va_P (dC, dI) crCl [(mo, .inr (2, [.int (nI 0), .ref l1, .ref l2, .int (nI n), .ref l3, .ref l4, .int (nI nk), .ref l5, .ref l6, .int (nI mn), .ref l7, .ref l8, .ref l9, .int by0, .int fd])), (l1, .inl (cI, 2400, .inl f)), (l2, .inl (cI, 2400, .inl g)), (l3, .inl (cI, 2400, .inl kf)), (l4, .inl (cI, 2400, .inl kg)), (l5, .inl (cI, 4800, .inl ef)), (l6, .inl (cI, 4800, .inl eg)), (l7, .inl (cZ, 1120, .inl mt)), (l8, .inl (cI, 4, .inl fr)), (l9, .inl (cI, 4, .inl tt))] H := hP
  have hD : va_D A [(mo, .inr (2, [.int (nI 0), .ref l1, .ref l2, .int (nI n), .ref l3, .ref l4, .int (nI nk), .ref l5, .ref l6, .int (nI mn), .ref l7, .ref l8, .ref l9, .int by0, .int fd])), (l1, .inl (cI, 2400, .inl f)), (l2, .inl (cI, 2400, .inl g)), (l3, .inl (cI, 2400, .inl kf)), (l4, .inl (cI, 2400, .inl kg)), (l5, .inl (cI, 4800, .inl ef)), (l6, .inl (cI, 4800, .inl eg)), (l7, .inl (cZ, 1120, .inl mt)), (l8, .inl (cI, 4, .inl fr)), (l9, .inl (cI, 4, .inl tt))] := hD
  refine lv_aload_n hx hb dM_rows_5 rfl (lv_at hl 0 rfl) ?_
  refine lv_iconst (v := (-1)) hx hb dM_rows_6 (by decide) ?_
  have hPc := hP.sub (ws' := [(mo, .inr (2, [.int (nI 0), .ref l1, .ref l2, .int (nI n), .ref l3, .ref l4, .int (nI nk), .ref l5, .ref l6, .int (nI mn), .ref l7, .ref l8, .ref l9, .int by0, .int fd])), (l1, .inl (cI, 2400, .inl f)), (l2, .inl (cI, 2400, .inl g)), (l3, .inl (cI, 2400, .inl kf)), (l4, .inl (cI, 2400, .inl kg)), (l5, .inl (cI, 4800, .inl ef)), (l6, .inl (cI, 4800, .inl eg)), (l7, .inl (cZ, 1120, .inl mt)), (l8, .inl (cI, 4, .inl fr)), (l9, .inl (cI, 4, .inl tt))]) [0, 1, 2, 3, 4, 5, 6, 7, 8, 9] rfl
  have hDc := hD.sub (ws' := [(mo, .inr (2, [.int (nI 0), .ref l1, .ref l2, .int (nI n), .ref l3, .ref l4, .int (nI nk), .ref l5, .ref l6, .int (nI mn), .ref l7, .ref l8, .ref l9, .int by0, .int fd])), (l1, .inl (cI, 2400, .inl f)), (l2, .inl (cI, 2400, .inl g)), (l3, .inl (cI, 2400, .inl kf)), (l4, .inl (cI, 2400, .inl kg)), (l5, .inl (cI, 4800, .inl ef)), (l6, .inl (cI, 4800, .inl eg)), (l7, .inl (cZ, 1120, .inl mt)), (l8, .inl (cI, 4, .inl fr)), (l9, .inl (cI, 4, .inl tt))]) [0, 1, 2, 3, 4, 5, 6, 7, 8, 9] (by decide) rfl
  have hFc := va_free (wc := [(mo, .inr (2, [.int (nI 0), .ref l1, .ref l2, .int (nI n), .ref l3, .ref l4, .int (nI nk), .ref l5, .ref l6, .int (nI mn), .ref l7, .ref l8, .ref l9, .int by0, .int fd])), (l1, .inl (cI, 2400, .inl f)), (l2, .inl (cI, 2400, .inl g)), (l3, .inl (cI, 2400, .inl kf)), (l4, .inl (cI, 2400, .inl kg)), (l5, .inl (cI, 4800, .inl ef)), (l6, .inl (cI, 4800, .inl eg)), (l7, .inl (cZ, 1120, .inl mt)), (l8, .inl (cI, 4, .inl fr)), (l9, .inl (cI, 4, .inl tt))]) hD hS hA [0, 1, 2, 3, 4, 5, 6, 7, 8, 9] rfl
  refine va_calli (va_runV (As := [.int (-1)]) (rest := []) ⟨hx, hb, hml, hown, hts⟩ (m_finds l dC dI _ mo l1 l2 l3 l4 l5 l6 l7 l8 l9 cI cZ (nI 0) by0 fd n nk mn f g kf kg ef eg mt fr tt lo hi hR hO hn (-1)) (cwV 1 hts gM_rows_M_finds rfl rfl rfl (by decide +kernel) ⟨Nat.le_of_ble_eq_true rfl, Nat.le_of_ble_eq_true rfl⟩) (cr_preV hPc hK hDc (ci := 2) (q0 := 0) rfl rfl) rfl rfl hl.1 rfl (lv_room (Nat.le_of_ble_eq_true rfl)) dM_rows_7 ⟨Nat.zero_le _, Nat.zero_le _⟩) hS (fun q _ h => hFc q h) hFc (fun r_7 u_7 t_7 H_7 locs ht_7 hvm_7 hw_7 hB_7 hz_7 hk_7 hS => ?_)
  obtain ⟨b1, fr1, tt1, fd1, rfl, hf⟩ := hw_7
  obtain rfl : fd1 = nI (cr_tot lo hi n) := hf.elim (fun q => q.2.1) (fun ⟨_, zz, _, _, h1, h2, _⟩ => absurd h2.symm (cr_ne_m1 h1))
  obtain ⟨hP, hD⟩ := cr_back (wr := []) (w1 := [(mo, .inr (2, [.int (nI 0), .ref l1, .ref l2, .int (nI n), .ref l3, .ref l4, .int (nI nk), .ref l5, .ref l6, .int (nI mn), .ref l7, .ref l8, .ref l9, .int b1, .int (nI (cr_tot lo hi n))])), (l1, .inl (cI, 2400, .inl f)), (l2, .inl (cI, 2400, .inl g)), (l3, .inl (cI, 2400, .inl kf)), (l4, .inl (cI, 2400, .inl kg)), (l5, .inl (cI, 4800, .inl ef)), (l6, .inl (cI, 4800, .inl eg)), (l7, .inl (cZ, 1120, .inl mt)), (l8, .inl (cI, 4, .inl fr1)), (l9, .inl (cI, 4, .inl tt1))]) hP hD [0, 1, 2, 3, 4, 5, 6, 7, 8, 9] [] rfl rfl (by decide) (by decide) hk_7 hFc hB_7 ht_7
  clear hPc hDc hFc
  generalize H_7 = H at hP hS ⊢
  have hP := hP.sub (ws' := [(mo, .inr (2, [.int (nI 0), .ref l1, .ref l2, .int (nI n), .ref l3, .ref l4, .int (nI nk), .ref l5, .ref l6, .int (nI mn), .ref l7, .ref l8, .ref l9, .int b1, .int (nI (cr_tot lo hi n))])), (l1, .inl (cI, 2400, .inl f)), (l2, .inl (cI, 2400, .inl g)), (l3, .inl (cI, 2400, .inl kf)), (l4, .inl (cI, 2400, .inl kg)), (l5, .inl (cI, 4800, .inl ef)), (l6, .inl (cI, 4800, .inl eg)), (l7, .inl (cZ, 1120, .inl mt)), (l8, .inl (cI, 4, .inl fr1)), (l9, .inl (cI, 4, .inl tt1))]) [0, 1, 2, 3, 4, 5, 6, 7, 8, 9] rfl
  have hD := hD.sub (ws' := [(mo, .inr (2, [.int (nI 0), .ref l1, .ref l2, .int (nI n), .ref l3, .ref l4, .int (nI nk), .ref l5, .ref l6, .int (nI mn), .ref l7, .ref l8, .ref l9, .int b1, .int (nI (cr_tot lo hi n))])), (l1, .inl (cI, 2400, .inl f)), (l2, .inl (cI, 2400, .inl g)), (l3, .inl (cI, 2400, .inl kf)), (l4, .inl (cI, 2400, .inl kg)), (l5, .inl (cI, 4800, .inl ef)), (l6, .inl (cI, 4800, .inl eg)), (l7, .inl (cZ, 1120, .inl mt)), (l8, .inl (cI, 4, .inl fr1)), (l9, .inl (cI, 4, .inl tt1))]) [0, 1, 2, 3, 4, 5, 6, 7, 8, 9] (by decide) rfl
  refine lv_pop hx hb dM_rows_10 rfl ?_
  refine lv_aload_n hx hb dM_rows_11 rfl (lv_at hl 0 rfl) ?_
  refine va_get (D := (dC, dI)) (ci := 2) (v := .int (nI (cr_tot lo hi n))) (C := RX2) (T := TM) (N := 15) hx hb hts (wsM00_in _) hown hK hP 0 rfl rfl 14 (by decide) (hts (.fieldLink RX2 90 "CharRowsModel" "found" "I") (by decide +kernel)) (fun _ h9 => h9) rfl dM_rows_12 ?_
  exact W.iret (v := nI (cr_tot lo hi n)) hx hb hr (fun t9 ht9 hW9 => ⟨⟨nI (cr_tot lo hi n), [(mo, .inr (2, [.int (nI 0), .ref l1, .ref l2, .int (nI n), .ref l3, .ref l4, .int (nI nk), .ref l5, .ref l6, .int (nI mn), .ref l7, .ref l8, .ref l9, .int b1, .int (nI (cr_tot lo hi n))])), (l1, .inl (cI, 2400, .inl f)), (l2, .inl (cI, 2400, .inl g)), (l3, .inl (cI, 2400, .inl kf)), (l4, .inl (cI, 2400, .inl kg)), (l5, .inl (cI, 4800, .inl ef)), (l6, .inl (cI, 4800, .inl eg)), (l7, .inl (cZ, 1120, .inl mt)), (l8, .inl (cI, 4, .inl fr1)), (l9, .inl (cI, 4, .inl tt1))], rfl, ⟨rfl, b1, fr1, tt1, _, rfl⟩, by rw [ht9]; exact hP, va_K.moved hW9.alike hK, hD⟩, hS.F ht9⟩) hS.2.2 dM_rows_15

set_option maxHeartbeats 4000000 in
set_option maxRecDepth 100000 in
theorem m_row (l : Launch) (dC : Nat → ClassId) (dI : Nat → Nat → Nat) (sz : Nat) (mo l1 l2 l3 l4 l5 l6 l7 l8 l9 : Nat) (cI cZ : ClassId) (th by0 fd : Int32) (n nk mn : Nat) (f g kf kg ef eg mt fr tt : Nat → Int32) (lo hi : Nat → Nat) (hR : cr_Rp n lo hi f g) (hO : cr_Ok n lo hi) (hn : n ≤ 2400) (z : Int32) (i w : Int32) : Met l yM_row wsM_row ({ frames := 6, cells := 0, slots := 0, locals := 220 }) (va_Pc [.ref mo, .int z, .int i, .int w] (cr_pre dC dI [(cI, .int), (cZ, .boolean)] [(mo, .inr (2, [.int th, .ref l1, .ref l2, .int (nI n), .ref l3, .ref l4, .int (nI nk), .ref l5, .ref l6, .int (nI mn), .ref l7, .ref l8, .ref l9, .int by0, .int fd])), (l1, .inl (cI, 2400, .inl f)), (l2, .inl (cI, 2400, .inl g)), (l3, .inl (cI, 2400, .inl kf)), (l4, .inl (cI, 2400, .inl kg)), (l5, .inl (cI, 4800, .inl ef)), (l6, .inl (cI, 4800, .inl eg)), (l7, .inl (cZ, 1120, .inl mt)), (l8, .inl (cI, 4, .inl fr)), (l9, .inl (cI, 4, .inl tt))] sz)) (va_Qi (fun (rr : Int32) (u : va_W) => (∃ (b' : Int32) (fr' tt' : Nat → Int32) (fd' : Int32), u = [(mo, .inr (2, [.int (nI 0), .ref l1, .ref l2, .int (nI n), .ref l3, .ref l4, .int (nI nk), .ref l5, .ref l6, .int (nI mn), .ref l7, .ref l8, .ref l9, .int b', .int fd'])), (l1, .inl (cI, 2400, .inl f)), (l2, .inl (cI, 2400, .inl g)), (l3, .inl (cI, 2400, .inl kf)), (l4, .inl (cI, 2400, .inl kg)), (l5, .inl (cI, 4800, .inl ef)), (l6, .inl (cI, 4800, .inl eg)), (l7, .inl (cZ, 1120, .inl mt)), (l8, .inl (cI, 4, .inl fr')), (l9, .inl (cI, 4, .inl tt'))]) ∧ cr_rowSpec n lo hi z i w rr) (cr_at dC dI [(cI, .int), (cZ, .boolean)] (va_A [(mo, .inr (2, [.int th, .ref l1, .ref l2, .int (nI n), .ref l3, .ref l4, .int (nI nk), .ref l5, .ref l6, .int (nI mn), .ref l7, .ref l8, .ref l9, .int by0, .int fd])), (l1, .inl (cI, 2400, .inl f)), (l2, .inl (cI, 2400, .inl g)), (l3, .inl (cI, 2400, .inl kf)), (l4, .inl (cI, 2400, .inl kg)), (l5, .inl (cI, 4800, .inl ef)), (l6, .inl (cI, 4800, .inl eg)), (l7, .inl (cZ, 1120, .inl mt)), (l8, .inl (cI, 4, .inl fr)), (l9, .inl (cI, 4, .inl tt))] sz)) (va_A [(mo, .inr (2, [.int th, .ref l1, .ref l2, .int (nI n), .ref l3, .ref l4, .int (nI nk), .ref l5, .ref l6, .int (nI mn), .ref l7, .ref l8, .ref l9, .int by0, .int fd])), (l1, .inl (cI, 2400, .inl f)), (l2, .inl (cI, 2400, .inl g)), (l3, .inl (cI, 2400, .inl kf)), (l4, .inl (cI, 2400, .inl kg)), (l5, .inl (cI, 4800, .inl ef)), (l6, .inl (cI, 4800, .inl eg)), (l7, .inl (cZ, 1120, .inl mt)), (l8, .inl (cI, 4, .inl fr)), (l9, .inl (cI, 4, .inl tt))] sz)) 0 0 (va_A [(mo, .inr (2, [.int th, .ref l1, .ref l2, .int (nI n), .ref l3, .ref l4, .int (nI nk), .ref l5, .ref l6, .int (nI mn), .ref l7, .ref l8, .ref l9, .int by0, .int fd])), (l1, .inl (cI, 2400, .inl f)), (l2, .inl (cI, 2400, .inl g)), (l3, .inl (cI, 2400, .inl kf)), (l4, .inl (cI, 2400, .inl kg)), (l5, .inl (cI, 4800, .inl ef)), (l6, .inl (cI, 4800, .inl eg)), (l7, .inl (cZ, 1120, .inl mt)), (l8, .inl (cI, 4, .inl fr)), (l9, .inl (cI, 4, .inl tt))] sz) := by
  refine Met.ofW (cc := cM_row) (maxL := 4) (ret := (some .int)) (by decide) rfl ?_
  intro p e s m args below meth c s₁ B hml hv
  obtain ⟨rfl, hsz, hP, hK, hD0⟩ := hv
  have hx := B.exec
  have hb := B.bytes
  have hr := B.returns
  have hts := atoms_spec (ws := wsM_row) B.pre
  have hown : s.vm.findClass RX2 = some m.cls := findClass_of_methodNamed B.named
  have hlocks := B.notSynchronized
  subst hsz
  have hD := hD0.self (sz := s.heap.size)
  generalize hAe : va_A [(mo, .inr (2, [.int th, .ref l1, .ref l2, .int (nI n), .ref l3, .ref l4, .int (nI nk), .ref l5, .ref l6, .int (nI mn), .ref l7, .ref l8, .ref l9, .int by0, .int fd])), (l1, .inl (cI, 2400, .inl f)), (l2, .inl (cI, 2400, .inl g)), (l3, .inl (cI, 2400, .inl kf)), (l4, .inl (cI, 2400, .inl kg)), (l5, .inl (cI, 4800, .inl ef)), (l6, .inl (cI, 4800, .inl eg)), (l7, .inl (cZ, 1120, .inl mt)), (l8, .inl (cI, 4, .inl fr)), (l9, .inl (cI, 4, .inl tt))] s.heap.size = A at hD ⊢
  have hA : ∀ q : Nat, s.heap.size ≤ q → A q := fun q h => by rw [← hAe]; exact Or.inr h
  have hS : va_S A s.heap s.heap [] := va_S.rf
  have hP : va_P (dC, dI) crCl [(mo, .inr (2, [.int th, .ref l1, .ref l2, .int (nI n), .ref l3, .ref l4, .int (nI nk), .ref l5, .ref l6, .int (nI mn), .ref l7, .ref l8, .ref l9, .int by0, .int fd])), (l1, .inl (cI, 2400, .inl f)), (l2, .inl (cI, 2400, .inl g)), (l3, .inl (cI, 2400, .inl kf)), (l4, .inl (cI, 2400, .inl kg)), (l5, .inl (cI, 4800, .inl ef)), (l6, .inl (cI, 4800, .inl eg)), (l7, .inl (cZ, 1120, .inl mt)), (l8, .inl (cI, 4, .inl fr)), (l9, .inl (cI, 4, .inl tt))] s.heap := hP
  have hl := lv_entry ([.ref mo, .int z, .int i, .int w]) (n := 4) (Nat.le_of_ble_eq_true rfl)
  rw [lg_entry_eq]
  generalize (lg_sl ([.ref mo, .int z, .int i, .int w]) ++ List.replicate (4 - (lg_sl ([.ref mo, .int z, .int i, .int w])).length) Slot.unset).toArray = ls at hl ⊢
  have hl : lv_has ls 4 [(0, .ref mo), (1, .int z), (2, .int i), (3, .int w)] := hl
  refine lv_aload_n hx hb dM_row_0 rfl (lv_at hl 0 rfl) ?_
  refine lv_iconst (v := nI 0) hx hb dM_row_1 (by decide) ?_
  refine va_put (D := (dC, dI)) (ci := 2) (v := .int (nI 0)) (ty := .int) (C := RX2) (T := TM) (N := 15) hx hb hts (wsM00_in _) tyM tyM_ok nmM hown hK hP hD hS 0 rfl rfl 0 (by decide) (hts (.fieldLink RX2 38 "CharRowsModel" "thrown" "I") (by decide +kernel)) (fun _ h9 => h9) rfl (by decide +kernel) rfl rfl (Nat.le_of_ble_eq_true rfl) dM_row_2 (fun H locs hP hD hS => ?_)
  have hP : va_P (dC, dI) crCl [(mo, .inr (2, [.int (nI 0), .ref l1, .ref l2, .int (nI n), .ref l3, .ref l4, .int (nI nk), .ref l5, .ref l6, .int (nI mn), .ref l7, .ref l8, .ref l9, .int by0, .int fd])), (l1, .inl (cI, 2400, .inl f)), (l2, .inl (cI, 2400, .inl g)), (l3, .inl (cI, 2400, .inl kf)), (l4, .inl (cI, 2400, .inl kg)), (l5, .inl (cI, 4800, .inl ef)), (l6, .inl (cI, 4800, .inl eg)), (l7, .inl (cZ, 1120, .inl mt)), (l8, .inl (cI, 4, .inl fr)), (l9, .inl (cI, 4, .inl tt))] H := hP
  have hD : va_D A [(mo, .inr (2, [.int (nI 0), .ref l1, .ref l2, .int (nI n), .ref l3, .ref l4, .int (nI nk), .ref l5, .ref l6, .int (nI mn), .ref l7, .ref l8, .ref l9, .int by0, .int fd])), (l1, .inl (cI, 2400, .inl f)), (l2, .inl (cI, 2400, .inl g)), (l3, .inl (cI, 2400, .inl kf)), (l4, .inl (cI, 2400, .inl kg)), (l5, .inl (cI, 4800, .inl ef)), (l6, .inl (cI, 4800, .inl eg)), (l7, .inl (cZ, 1120, .inl mt)), (l8, .inl (cI, 4, .inl fr)), (l9, .inl (cI, 4, .inl tt))] := hD
  refine lv_iload_n hx hb dM_row_5 rfl (lv_at hl 1 rfl) ?_
  refine lv_if_lt (tgt := 29) hx hb dM_row_6 (by decide) (fun c_6 => ?_) (fun c_6 => ?_)
  · refine lv_iconst (v := (-1)) hx hb dM_row_29 (by decide) ?_
    exact W.iret (v := (-1)) hx hb hr (fun t9 ht9 hW9 => ⟨⟨(-1), [(mo, .inr (2, [.int (nI 0), .ref l1, .ref l2, .int (nI n), .ref l3, .ref l4, .int (nI nk), .ref l5, .ref l6, .int (nI mn), .ref l7, .ref l8, .ref l9, .int by0, .int fd])), (l1, .inl (cI, 2400, .inl f)), (l2, .inl (cI, 2400, .inl g)), (l3, .inl (cI, 2400, .inl kf)), (l4, .inl (cI, 2400, .inl kg)), (l5, .inl (cI, 4800, .inl ef)), (l6, .inl (cI, 4800, .inl eg)), (l7, .inl (cZ, 1120, .inl mt)), (l8, .inl (cI, 4, .inl fr)), (l9, .inl (cI, 4, .inl tt))], rfl, ⟨⟨_, _, _, _, rfl⟩, Or.inl ⟨Or.inl c_6, rfl⟩⟩, by rw [ht9]; exact hP, va_K.moved hW9.alike hK, hD⟩, hS.F ht9⟩) hS.2.2 dM_row_30
  · refine lv_aload_n hx hb dM_row_9 rfl (lv_at hl 0 rfl) ?_
    refine lv_iload_n hx hb dM_row_10 rfl (lv_at hl 1 rfl) ?_
    have hPc := hP.sub (ws' := [(mo, .inr (2, [.int (nI 0), .ref l1, .ref l2, .int (nI n), .ref l3, .ref l4, .int (nI nk), .ref l5, .ref l6, .int (nI mn), .ref l7, .ref l8, .ref l9, .int by0, .int fd])), (l1, .inl (cI, 2400, .inl f)), (l2, .inl (cI, 2400, .inl g)), (l3, .inl (cI, 2400, .inl kf)), (l4, .inl (cI, 2400, .inl kg)), (l5, .inl (cI, 4800, .inl ef)), (l6, .inl (cI, 4800, .inl eg)), (l7, .inl (cZ, 1120, .inl mt)), (l8, .inl (cI, 4, .inl fr)), (l9, .inl (cI, 4, .inl tt))]) [0, 1, 2, 3, 4, 5, 6, 7, 8, 9] rfl
    have hDc := hD.sub (ws' := [(mo, .inr (2, [.int (nI 0), .ref l1, .ref l2, .int (nI n), .ref l3, .ref l4, .int (nI nk), .ref l5, .ref l6, .int (nI mn), .ref l7, .ref l8, .ref l9, .int by0, .int fd])), (l1, .inl (cI, 2400, .inl f)), (l2, .inl (cI, 2400, .inl g)), (l3, .inl (cI, 2400, .inl kf)), (l4, .inl (cI, 2400, .inl kg)), (l5, .inl (cI, 4800, .inl ef)), (l6, .inl (cI, 4800, .inl eg)), (l7, .inl (cZ, 1120, .inl mt)), (l8, .inl (cI, 4, .inl fr)), (l9, .inl (cI, 4, .inl tt))]) [0, 1, 2, 3, 4, 5, 6, 7, 8, 9] (by decide) rfl
    have hFc := va_free (wc := [(mo, .inr (2, [.int (nI 0), .ref l1, .ref l2, .int (nI n), .ref l3, .ref l4, .int (nI nk), .ref l5, .ref l6, .int (nI mn), .ref l7, .ref l8, .ref l9, .int by0, .int fd])), (l1, .inl (cI, 2400, .inl f)), (l2, .inl (cI, 2400, .inl g)), (l3, .inl (cI, 2400, .inl kf)), (l4, .inl (cI, 2400, .inl kg)), (l5, .inl (cI, 4800, .inl ef)), (l6, .inl (cI, 4800, .inl eg)), (l7, .inl (cZ, 1120, .inl mt)), (l8, .inl (cI, 4, .inl fr)), (l9, .inl (cI, 4, .inl tt))]) hD hS hA [0, 1, 2, 3, 4, 5, 6, 7, 8, 9] rfl
    refine va_calli (va_runV (As := [.int z]) (rest := []) ⟨hx, hb, hml, hown, hts⟩ (m_finds l dC dI _ mo l1 l2 l3 l4 l5 l6 l7 l8 l9 cI cZ (nI 0) by0 fd n nk mn f g kf kg ef eg mt fr tt lo hi hR hO hn z) (cwV 1 hts gM_row_M_finds rfl rfl rfl (by decide +kernel) ⟨Nat.le_of_ble_eq_true rfl, Nat.le_of_ble_eq_true rfl⟩) (cr_preV hPc hK hDc (ci := 2) (q0 := 0) rfl rfl) rfl rfl hl.1 rfl (lv_room (Nat.le_of_ble_eq_true rfl)) dM_row_11 ⟨Nat.zero_le _, Nat.zero_le _⟩) hS (fun q _ h => hFc q h) hFc (fun r_11 u_11 t_11 H_11 locs ht_11 hvm_11 hw_11 hB_11 hz_11 hk_11 hS => ?_)
    obtain ⟨b1, fr1, tt1, fd1, rfl, hf⟩ := hw_11
    obtain ⟨hP, hD⟩ := cr_back (wr := []) (w1 := [(mo, .inr (2, [.int (nI 0), .ref l1, .ref l2, .int (nI n), .ref l3, .ref l4, .int (nI nk), .ref l5, .ref l6, .int (nI mn), .ref l7, .ref l8, .ref l9, .int b1, .int fd1])), (l1, .inl (cI, 2400, .inl f)), (l2, .inl (cI, 2400, .inl g)), (l3, .inl (cI, 2400, .inl kf)), (l4, .inl (cI, 2400, .inl kg)), (l5, .inl (cI, 4800, .inl ef)), (l6, .inl (cI, 4800, .inl eg)), (l7, .inl (cZ, 1120, .inl mt)), (l8, .inl (cI, 4, .inl fr1)), (l9, .inl (cI, 4, .inl tt1))]) hP hD [0, 1, 2, 3, 4, 5, 6, 7, 8, 9] [] rfl rfl (by decide) (by decide) hk_11 hFc hB_11 ht_11
    clear hPc hDc hFc
    generalize H_11 = H at hP hS ⊢
    have hP := hP.sub (ws' := [(mo, .inr (2, [.int (nI 0), .ref l1, .ref l2, .int (nI n), .ref l3, .ref l4, .int (nI nk), .ref l5, .ref l6, .int (nI mn), .ref l7, .ref l8, .ref l9, .int b1, .int fd1])), (l1, .inl (cI, 2400, .inl f)), (l2, .inl (cI, 2400, .inl g)), (l3, .inl (cI, 2400, .inl kf)), (l4, .inl (cI, 2400, .inl kg)), (l5, .inl (cI, 4800, .inl ef)), (l6, .inl (cI, 4800, .inl eg)), (l7, .inl (cZ, 1120, .inl mt)), (l8, .inl (cI, 4, .inl fr1)), (l9, .inl (cI, 4, .inl tt1))]) [0, 1, 2, 3, 4, 5, 6, 7, 8, 9] rfl
    have hD := hD.sub (ws' := [(mo, .inr (2, [.int (nI 0), .ref l1, .ref l2, .int (nI n), .ref l3, .ref l4, .int (nI nk), .ref l5, .ref l6, .int (nI mn), .ref l7, .ref l8, .ref l9, .int b1, .int fd1])), (l1, .inl (cI, 2400, .inl f)), (l2, .inl (cI, 2400, .inl g)), (l3, .inl (cI, 2400, .inl kf)), (l4, .inl (cI, 2400, .inl kg)), (l5, .inl (cI, 4800, .inl ef)), (l6, .inl (cI, 4800, .inl eg)), (l7, .inl (cZ, 1120, .inl mt)), (l8, .inl (cI, 4, .inl fr1)), (l9, .inl (cI, 4, .inl tt1))]) [0, 1, 2, 3, 4, 5, 6, 7, 8, 9] (by decide) rfl
    rcases hf with ⟨rfl, _, hno⟩ | ⟨rfl, zz, j, t0, hzz, rfl, hj, ht0, hzt, hbl, hbs⟩
    · refine lv_if_eq (tgt := 29) hx hb dM_row_14 (by decide) (fun c_14 => ?_) (fun c_14 => ?_)
      · refine lv_iconst (v := (-1)) hx hb dM_row_29 (by decide) ?_
        exact W.iret (v := (-1)) hx hb hr (fun t9 ht9 hW9 => ⟨⟨(-1), [(mo, .inr (2, [.int (nI 0), .ref l1, .ref l2, .int (nI n), .ref l3, .ref l4, .int (nI nk), .ref l5, .ref l6, .int (nI mn), .ref l7, .ref l8, .ref l9, .int b1, .int fd1])), (l1, .inl (cI, 2400, .inl f)), (l2, .inl (cI, 2400, .inl g)), (l3, .inl (cI, 2400, .inl kf)), (l4, .inl (cI, 2400, .inl kg)), (l5, .inl (cI, 4800, .inl ef)), (l6, .inl (cI, 4800, .inl eg)), (l7, .inl (cZ, 1120, .inl mt)), (l8, .inl (cI, 4, .inl fr1)), (l9, .inl (cI, 4, .inl tt1))], rfl, ⟨⟨_, _, _, _, rfl⟩, Or.inl ⟨cr_no_row hno, rfl⟩⟩, by rw [ht9]; exact hP, va_K.moved hW9.alike hK, hD⟩, hS.F ht9⟩) hS.2.2 dM_row_30
      · exact absurd (by decide) c_14
    · have hok := hO.1 j hj
      have hgo := cr_N_in ht0
      have hge := cr_N_ge (by omega) ht0
      generalize hc0 : cr_go t0 (lo j) (hi j) = c0 at hgo hge hbl hbs
      subst hbl
      have hlen := cr_len_le c0
      refine lv_if_eq (tgt := 29) hx hb dM_row_14 (by decide) (fun c_14 => ?_) (fun c_14 => ?_)
      · exact absurd c_14 (by decide)
      · refine lv_iload_n hx hb dM_row_17 rfl (lv_at hl 2 rfl) ?_
        refine lv_if_lt (tgt := 29) hx hb dM_row_18 (by decide) (fun c_18 => ?_) (fun c_18 => ?_)
        · refine lv_iconst (v := (-1)) hx hb dM_row_29 (by decide) ?_
          exact W.iret (v := (-1)) hx hb hr (fun t9 ht9 hW9 => ⟨⟨(-1), [(mo, .inr (2, [.int (nI 0), .ref l1, .ref l2, .int (nI n), .ref l3, .ref l4, .int (nI nk), .ref l5, .ref l6, .int (nI mn), .ref l7, .ref l8, .ref l9, .int (nI (cr_len c0)), .int fd1])), (l1, .inl (cI, 2400, .inl f)), (l2, .inl (cI, 2400, .inl g)), (l3, .inl (cI, 2400, .inl kf)), (l4, .inl (cI, 2400, .inl kg)), (l5, .inl (cI, 4800, .inl ef)), (l6, .inl (cI, 4800, .inl eg)), (l7, .inl (cZ, 1120, .inl mt)), (l8, .inl (cI, 4, .inl fr1)), (l9, .inl (cI, 4, .inl tt1))], rfl, ⟨⟨_, _, _, _, rfl⟩, Or.inr ⟨zz, j, t0, hzz, rfl, hj, ht0, hzt, by rw [hc0]; exact (cr_ra_neg (fun h => by rw [h] at c_18; exact absurd c_18 (by decide)) (Or.inl c_18)).symm⟩⟩, by rw [ht9]; exact hP, va_K.moved hW9.alike hK, hD⟩, hS.F ht9⟩) hS.2.2 dM_row_30
        · refine lv_iload_n hx hb dM_row_21 rfl (lv_at hl 2 rfl) ?_
          refine lv_aload_n hx hb dM_row_22 rfl (lv_at hl 0 rfl) ?_
          refine va_get (D := (dC, dI)) (ci := 2) (v := .int (nI (cr_len c0))) (C := RX2) (T := TM) (N := 15) hx hb hts (wsM00_in _) hown hK hP 0 rfl rfl 13 (by decide) (hts (.fieldLink RX2 78 "CharRowsModel" "bytes" "I") (by decide +kernel)) (fun _ h9 => h9) rfl dM_row_23 ?_
          refine lv_icmp_le (tgt := 31) hx hb dM_row_26 (by decide) (fun c_26 => ?_) (fun c_26 => ?_)
          · refine lv_iload_n hx hb dM_row_31 rfl (lv_at hl 2 rfl) ?_
            refine lv_if_ne (tgt := 40) hx hb dM_row_32 (by decide) (fun c_32 => ?_) (fun c_32 => ?_)
            · refine lv_iload_n hx hb dM_row_40 rfl (lv_at hl 3 rfl) ?_
              refine lv_if_ne (tgt := 55) hx hb dM_row_41 (by decide) (fun c_41 => ?_) (fun c_41 => ?_)
              · refine lv_iload_n hx hb dM_row_55 rfl (lv_at hl 3 rfl) ?_
                refine lv_iconst (v := nI 1) hx hb dM_row_56 (by decide) ?_
                refine lv_icmp_ne (tgt := 71) hx hb dM_row_57 (by decide) (fun c_57 => ?_) (fun c_57 => ?_)
                · refine lv_iconst (v := (-1)) hx hb dM_row_71 (by decide) ?_
                  exact W.iret (v := (-1)) hx hb hr (fun t9 ht9 hW9 => ⟨⟨(-1), [(mo, .inr (2, [.int (nI 0), .ref l1, .ref l2, .int (nI n), .ref l3, .ref l4, .int (nI nk), .ref l5, .ref l6, .int (nI mn), .ref l7, .ref l8, .ref l9, .int (nI (cr_len c0)), .int fd1])), (l1, .inl (cI, 2400, .inl f)), (l2, .inl (cI, 2400, .inl g)), (l3, .inl (cI, 2400, .inl kf)), (l4, .inl (cI, 2400, .inl kg)), (l5, .inl (cI, 4800, .inl ef)), (l6, .inl (cI, 4800, .inl eg)), (l7, .inl (cZ, 1120, .inl mt)), (l8, .inl (cI, 4, .inl fr1)), (l9, .inl (cI, 4, .inl tt1))], rfl, ⟨⟨_, _, _, _, rfl⟩, Or.inr ⟨zz, j, t0, hzz, rfl, hj, ht0, hzt, by rw [hc0]; exact (cr_ra_w2 c_32 c_18 c_26 c_41 c_57).symm⟩⟩, by rw [ht9]; exact hP, va_K.moved hW9.alike hK, hD⟩, hS.F ht9⟩) hS.2.2 dM_row_72
                · obtain ⟨ii, hi1, rfl⟩ := cr_of (x := i) (by rw [cr_lt0] at c_18; omega)
                  rw [nI_leI (by omega) (by omega)] at c_26
                  have hi2 : 1 ≤ ii := Nat.pos_of_ne_zero (fun h => c_32 (by rw [h]; rfl))
                  have hi3 : ii ≤ cr_len c0 := c_26
                  refine lv_aload_n hx hb dM_row_60 rfl (lv_at hl 0 rfl) ?_
                  refine va_get (D := (dC, dI)) (ci := 2) (v := .ref l9) (C := RX2) (T := TM) (N := 15) hx hb hts (wsM00_in _) hown hK hP 0 rfl rfl 12 (by decide) (hts (.fieldLink RX2 35 "CharRowsModel" "to" "[I") (by decide +kernel)) (fun _ h9 => h9) rfl dM_row_61 ?_
                  refine lv_iload_n hx hb dM_row_64 rfl (lv_at hl 2 rfl) ?_
                  refine lv_iconst (v := nI 1) hx hb dM_row_65 (by decide) ?_
                  refine lv_isub hx hb dM_row_66 ?_
                  refine cr_top (y := nI (ii - 1)) (pk_sub (by omega)) ?_
                  refine va_iald hx hb hK hP 9 0 rfl rfl (vp_in_nI (by omega) (by omega)) dM_row_67 ?_
                  refine cr_top (y := nI (cr_by (cr_last c0 (hi j)) (ii - 1))) (by rw [nI_clamp (by omega)]; exact (hbs _ (by omega)).2) ?_
                  refine lv_goto (tgt := 72) hx hb dM_row_68 (by decide) ?_
                  exact W.iret (v := nI (cr_by (cr_last c0 (hi j)) (ii - 1))) hx hb hr (fun t9 ht9 hW9 => ⟨⟨nI (cr_by (cr_last c0 (hi j)) (ii - 1)), [(mo, .inr (2, [.int (nI 0), .ref l1, .ref l2, .int (nI n), .ref l3, .ref l4, .int (nI nk), .ref l5, .ref l6, .int (nI mn), .ref l7, .ref l8, .ref l9, .int (nI (cr_len c0)), .int fd1])), (l1, .inl (cI, 2400, .inl f)), (l2, .inl (cI, 2400, .inl g)), (l3, .inl (cI, 2400, .inl kf)), (l4, .inl (cI, 2400, .inl kg)), (l5, .inl (cI, 4800, .inl ef)), (l6, .inl (cI, 4800, .inl eg)), (l7, .inl (cZ, 1120, .inl mt)), (l8, .inl (cI, 4, .inl fr1)), (l9, .inl (cI, 4, .inl tt1))], rfl, ⟨⟨_, _, _, _, rfl⟩, Or.inr ⟨zz, j, t0, hzz, rfl, hj, ht0, hzt, by rw [hc0]; exact (cr_ra_w1 hi1 hi2 hi3 c_57).symm⟩⟩, by rw [ht9]; exact hP, va_K.moved hW9.alike hK, hD⟩, hS.F ht9⟩) hS.2.2 dM_row_72
              · obtain ⟨ii, hi1, rfl⟩ := cr_of (x := i) (by rw [cr_lt0] at c_18; omega)
                rw [nI_leI (by omega) (by omega)] at c_26
                have hi2 : 1 ≤ ii := Nat.pos_of_ne_zero (fun h => c_32 (by rw [h]; rfl))
                have hi3 : ii ≤ cr_len c0 := c_26
                refine lv_aload_n hx hb dM_row_44 rfl (lv_at hl 0 rfl) ?_
                refine va_get (D := (dC, dI)) (ci := 2) (v := .ref l8) (C := RX2) (T := TM) (N := 15) hx hb hts (wsM00_in _) hown hK hP 0 rfl rfl 11 (by decide) (hts (.fieldLink RX2 32 "CharRowsModel" "from" "[I") (by decide +kernel)) (fun _ h9 => h9) rfl dM_row_45 ?_
                refine lv_iload_n hx hb dM_row_48 rfl (lv_at hl 2 rfl) ?_
                refine lv_iconst (v := nI 1) hx hb dM_row_49 (by decide) ?_
                refine lv_isub hx hb dM_row_50 ?_
                refine cr_top (y := nI (ii - 1)) (pk_sub (by omega)) ?_
                refine va_iald hx hb hK hP 8 0 rfl rfl (vp_in_nI (by omega) (by omega)) dM_row_51 ?_
                refine cr_top (y := nI (cr_by c0 (ii - 1))) (by rw [nI_clamp (by omega)]; exact (hbs _ (by omega)).1) ?_
                refine lv_goto (tgt := 72) hx hb dM_row_52 (by decide) ?_
                exact W.iret (v := nI (cr_by c0 (ii - 1))) hx hb hr (fun t9 ht9 hW9 => ⟨⟨nI (cr_by c0 (ii - 1)), [(mo, .inr (2, [.int (nI 0), .ref l1, .ref l2, .int (nI n), .ref l3, .ref l4, .int (nI nk), .ref l5, .ref l6, .int (nI mn), .ref l7, .ref l8, .ref l9, .int (nI (cr_len c0)), .int fd1])), (l1, .inl (cI, 2400, .inl f)), (l2, .inl (cI, 2400, .inl g)), (l3, .inl (cI, 2400, .inl kf)), (l4, .inl (cI, 2400, .inl kg)), (l5, .inl (cI, 4800, .inl ef)), (l6, .inl (cI, 4800, .inl eg)), (l7, .inl (cZ, 1120, .inl mt)), (l8, .inl (cI, 4, .inl fr1)), (l9, .inl (cI, 4, .inl tt1))], rfl, ⟨⟨_, _, _, _, rfl⟩, Or.inr ⟨zz, j, t0, hzz, rfl, hj, ht0, hzt, by rw [hc0]; exact (cr_ra_w0 hi1 hi2 hi3 c_41).symm⟩⟩, by rw [ht9]; exact hP, va_K.moved hW9.alike hK, hD⟩, hS.F ht9⟩) hS.2.2 dM_row_72
            · refine lv_aload_n hx hb dM_row_35 rfl (lv_at hl 0 rfl) ?_
              refine va_get (D := (dC, dI)) (ci := 2) (v := .int (nI (cr_len c0))) (C := RX2) (T := TM) (N := 15) hx hb hts (wsM00_in _) hown hK hP 0 rfl rfl 13 (by decide) (hts (.fieldLink RX2 78 "CharRowsModel" "bytes" "I") (by decide +kernel)) (fun _ h9 => h9) rfl dM_row_36 ?_
              exact W.iret (v := nI (cr_len c0)) hx hb hr (fun t9 ht9 hW9 => ⟨⟨nI (cr_len c0), [(mo, .inr (2, [.int (nI 0), .ref l1, .ref l2, .int (nI n), .ref l3, .ref l4, .int (nI nk), .ref l5, .ref l6, .int (nI mn), .ref l7, .ref l8, .ref l9, .int (nI (cr_len c0)), .int fd1])), (l1, .inl (cI, 2400, .inl f)), (l2, .inl (cI, 2400, .inl g)), (l3, .inl (cI, 2400, .inl kf)), (l4, .inl (cI, 2400, .inl kg)), (l5, .inl (cI, 4800, .inl ef)), (l6, .inl (cI, 4800, .inl eg)), (l7, .inl (cZ, 1120, .inl mt)), (l8, .inl (cI, 4, .inl fr1)), (l9, .inl (cI, 4, .inl tt1))], rfl, ⟨⟨_, _, _, _, rfl⟩, Or.inr ⟨zz, j, t0, hzz, rfl, hj, ht0, hzt, by rw [hc0]; exact (cr_ra_0 c_32).symm⟩⟩, by rw [ht9]; exact hP, va_K.moved hW9.alike hK, hD⟩, hS.F ht9⟩) hS.2.2 dM_row_39
          · refine lv_iconst (v := (-1)) hx hb dM_row_29 (by decide) ?_
            exact W.iret (v := (-1)) hx hb hr (fun t9 ht9 hW9 => ⟨⟨(-1), [(mo, .inr (2, [.int (nI 0), .ref l1, .ref l2, .int (nI n), .ref l3, .ref l4, .int (nI nk), .ref l5, .ref l6, .int (nI mn), .ref l7, .ref l8, .ref l9, .int (nI (cr_len c0)), .int fd1])), (l1, .inl (cI, 2400, .inl f)), (l2, .inl (cI, 2400, .inl g)), (l3, .inl (cI, 2400, .inl kf)), (l4, .inl (cI, 2400, .inl kg)), (l5, .inl (cI, 4800, .inl ef)), (l6, .inl (cI, 4800, .inl eg)), (l7, .inl (cZ, 1120, .inl mt)), (l8, .inl (cI, 4, .inl fr1)), (l9, .inl (cI, 4, .inl tt1))], rfl, ⟨⟨_, _, _, _, rfl⟩, Or.inr ⟨zz, j, t0, hzz, rfl, hj, ht0, hzt, by rw [hc0]; exact (cr_ra_neg (fun h => c_26 (by rw [h]; exact nI_pos' (by omega))) (Or.inr (Int32.not_le.mp c_26))).symm⟩⟩, by rw [ht9]; exact hP, va_K.moved hW9.alike hK, hD⟩, hS.F ht9⟩) hS.2.2 dM_row_30

