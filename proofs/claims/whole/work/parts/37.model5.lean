set_option maxHeartbeats 4000000 in
set_option maxRecDepth 100000 in
theorem m_takes (l : Launch) (dC : Nat → ClassId) (dI : Nat → Nat → Nat) (sz : Nat) (mo l1 l2 l3 l4 l5 l6 l7 l8 l9 : Nat) (cI cZ : ClassId) (th by0 fd : Int32) (n nk mn : Nat) (f g kf kg ef eg mt fr tt : Nat → Int32) (S : Nat → Prop) (hSet : cr_Set n f g S) (hn : n ≤ 2400) (y z : Int32) : Met l yM_takes wsM_takes ({ frames := 2, cells := 0, slots := 0, locals := 60 }) (va_Pc [.ref mo, .int y, .int z] (cr_pre dC dI [(cI, .int), (cZ, .boolean)] [(mo, .inr (2, [.int th, .ref l1, .ref l2, .int (nI n), .ref l3, .ref l4, .int (nI nk), .ref l5, .ref l6, .int (nI mn), .ref l7, .ref l8, .ref l9, .int by0, .int fd])), (l1, .inl (cI, 2400, .inl f)), (l2, .inl (cI, 2400, .inl g)), (l3, .inl (cI, 2400, .inl kf)), (l4, .inl (cI, 2400, .inl kg)), (l5, .inl (cI, 4800, .inl ef)), (l6, .inl (cI, 4800, .inl eg)), (l7, .inl (cZ, 1120, .inl mt)), (l8, .inl (cI, 4, .inl fr)), (l9, .inl (cI, 4, .inl tt))] sz)) (va_Qi (fun (rr : Int32) (u : va_W) => u = [(mo, .inr (2, [.int (nI 0), .ref l1, .ref l2, .int (nI n), .ref l3, .ref l4, .int (nI nk), .ref l5, .ref l6, .int (nI mn), .ref l7, .ref l8, .ref l9, .int by0, .int fd])), (l1, .inl (cI, 2400, .inl f)), (l2, .inl (cI, 2400, .inl g)), (l3, .inl (cI, 2400, .inl kf)), (l4, .inl (cI, 2400, .inl kg)), (l5, .inl (cI, 4800, .inl ef)), (l6, .inl (cI, 4800, .inl eg)), (l7, .inl (cZ, 1120, .inl mt)), (l8, .inl (cI, 4, .inl fr)), (l9, .inl (cI, 4, .inl tt))] ∧ cr_zb rr (cr_Tk S y z)) (cr_at dC dI [(cI, .int), (cZ, .boolean)] (va_A [(mo, .inr (2, [.int th, .ref l1, .ref l2, .int (nI n), .ref l3, .ref l4, .int (nI nk), .ref l5, .ref l6, .int (nI mn), .ref l7, .ref l8, .ref l9, .int by0, .int fd])), (l1, .inl (cI, 2400, .inl f)), (l2, .inl (cI, 2400, .inl g)), (l3, .inl (cI, 2400, .inl kf)), (l4, .inl (cI, 2400, .inl kg)), (l5, .inl (cI, 4800, .inl ef)), (l6, .inl (cI, 4800, .inl eg)), (l7, .inl (cZ, 1120, .inl mt)), (l8, .inl (cI, 4, .inl fr)), (l9, .inl (cI, 4, .inl tt))] sz)) (va_A [(mo, .inr (2, [.int th, .ref l1, .ref l2, .int (nI n), .ref l3, .ref l4, .int (nI nk), .ref l5, .ref l6, .int (nI mn), .ref l7, .ref l8, .ref l9, .int by0, .int fd])), (l1, .inl (cI, 2400, .inl f)), (l2, .inl (cI, 2400, .inl g)), (l3, .inl (cI, 2400, .inl kf)), (l4, .inl (cI, 2400, .inl kg)), (l5, .inl (cI, 4800, .inl ef)), (l6, .inl (cI, 4800, .inl eg)), (l7, .inl (cZ, 1120, .inl mt)), (l8, .inl (cI, 4, .inl fr)), (l9, .inl (cI, 4, .inl tt))] sz)) 0 0 (va_A [(mo, .inr (2, [.int th, .ref l1, .ref l2, .int (nI n), .ref l3, .ref l4, .int (nI nk), .ref l5, .ref l6, .int (nI mn), .ref l7, .ref l8, .ref l9, .int by0, .int fd])), (l1, .inl (cI, 2400, .inl f)), (l2, .inl (cI, 2400, .inl g)), (l3, .inl (cI, 2400, .inl kf)), (l4, .inl (cI, 2400, .inl kg)), (l5, .inl (cI, 4800, .inl ef)), (l6, .inl (cI, 4800, .inl eg)), (l7, .inl (cZ, 1120, .inl mt)), (l8, .inl (cI, 4, .inl fr)), (l9, .inl (cI, 4, .inl tt))] sz) := by
  refine Met.ofW (cc := cM_takes) (maxL := 8) (ret := (some .boolean)) (by decide) rfl ?_
  intro p e s m args below meth c s₁ B hml hv
  obtain ⟨rfl, hsz, hP, hK, hD0⟩ := hv
  have hx := B.exec
  have hb := B.bytes
  have hr := B.returns
  have hts := atoms_spec (ws := wsM_takes) B.pre
  have hown : s.vm.findClass RX2 = some m.cls := findClass_of_methodNamed B.named
  have hlocks := B.notSynchronized
  subst hsz
  have hD := hD0.self (sz := s.heap.size)
  generalize hAe : va_A [(mo, .inr (2, [.int th, .ref l1, .ref l2, .int (nI n), .ref l3, .ref l4, .int (nI nk), .ref l5, .ref l6, .int (nI mn), .ref l7, .ref l8, .ref l9, .int by0, .int fd])), (l1, .inl (cI, 2400, .inl f)), (l2, .inl (cI, 2400, .inl g)), (l3, .inl (cI, 2400, .inl kf)), (l4, .inl (cI, 2400, .inl kg)), (l5, .inl (cI, 4800, .inl ef)), (l6, .inl (cI, 4800, .inl eg)), (l7, .inl (cZ, 1120, .inl mt)), (l8, .inl (cI, 4, .inl fr)), (l9, .inl (cI, 4, .inl tt))] s.heap.size = A at hD ⊢
  have hA : ∀ q : Nat, s.heap.size ≤ q → A q := fun q h => by rw [← hAe]; exact Or.inr h
  have hS : va_S A s.heap s.heap [] := va_S.rf
  have hP : va_P (dC, dI) crCl [(mo, .inr (2, [.int th, .ref l1, .ref l2, .int (nI n), .ref l3, .ref l4, .int (nI nk), .ref l5, .ref l6, .int (nI mn), .ref l7, .ref l8, .ref l9, .int by0, .int fd])), (l1, .inl (cI, 2400, .inl f)), (l2, .inl (cI, 2400, .inl g)), (l3, .inl (cI, 2400, .inl kf)), (l4, .inl (cI, 2400, .inl kg)), (l5, .inl (cI, 4800, .inl ef)), (l6, .inl (cI, 4800, .inl eg)), (l7, .inl (cZ, 1120, .inl mt)), (l8, .inl (cI, 4, .inl fr)), (l9, .inl (cI, 4, .inl tt))] s.heap := hP
  have hl := lv_entry ([.ref mo, .int y, .int z]) (n := 8) (Nat.le_of_ble_eq_true rfl)
  rw [lg_entry_eq]
  generalize (lg_sl ([.ref mo, .int y, .int z]) ++ List.replicate (8 - (lg_sl ([.ref mo, .int y, .int z])).length) Slot.unset).toArray = ls at hl ⊢
  have hl : lv_has ls 8 [(0, .ref mo), (1, .int y), (2, .int z)] := hl
  have hb1 := cr_ba_lt y 1
  refine lv_aload_n hx hb dM_takes_0 rfl (lv_at hl 0 rfl) ?_
  refine lv_iconst (v := nI 0) hx hb dM_takes_1 (by decide) ?_
  refine va_put (D := (dC, dI)) (ci := 2) (v := .int (nI 0)) (ty := .int) (C := RX2) (T := TM) (N := 15) hx hb hts (wsM00_in _) tyM tyM_ok nmM hown hK hP hD hS 0 rfl rfl 0 (by decide) (hts (.fieldLink RX2 38 "CharRowsModel" "thrown" "I") (by decide +kernel)) (fun _ h9 => h9) rfl (by decide +kernel) rfl rfl (Nat.le_of_ble_eq_true rfl) dM_takes_2 (fun H locs hP hD hS => ?_)
  have hP : va_P (dC, dI) crCl [(mo, .inr (2, [.int (nI 0), .ref l1, .ref l2, .int (nI n), .ref l3, .ref l4, .int (nI nk), .ref l5, .ref l6, .int (nI mn), .ref l7, .ref l8, .ref l9, .int by0, .int fd])), (l1, .inl (cI, 2400, .inl f)), (l2, .inl (cI, 2400, .inl g)), (l3, .inl (cI, 2400, .inl kf)), (l4, .inl (cI, 2400, .inl kg)), (l5, .inl (cI, 4800, .inl ef)), (l6, .inl (cI, 4800, .inl eg)), (l7, .inl (cZ, 1120, .inl mt)), (l8, .inl (cI, 4, .inl fr)), (l9, .inl (cI, 4, .inl tt))] H := hP
  have hD : va_D A [(mo, .inr (2, [.int (nI 0), .ref l1, .ref l2, .int (nI n), .ref l3, .ref l4, .int (nI nk), .ref l5, .ref l6, .int (nI mn), .ref l7, .ref l8, .ref l9, .int by0, .int fd])), (l1, .inl (cI, 2400, .inl f)), (l2, .inl (cI, 2400, .inl g)), (l3, .inl (cI, 2400, .inl kf)), (l4, .inl (cI, 2400, .inl kg)), (l5, .inl (cI, 4800, .inl ef)), (l6, .inl (cI, 4800, .inl eg)), (l7, .inl (cZ, 1120, .inl mt)), (l8, .inl (cI, 4, .inl fr)), (l9, .inl (cI, 4, .inl tt))] := hD
  refine lv_iload_n hx hb dM_takes_5 rfl (lv_at hl 2 rfl) ?_
  refine lv_iconst (v := nI 1) hx hb dM_takes_6 (by decide) ?_
  refine lv_icmp_lt (tgt := 15) hx hb dM_takes_7 (by decide) (fun c_7 => ?_) (fun c_7 => ?_)
  · refine lv_iconst (v := nI 0) hx hb dM_takes_15 (by decide) ?_
    exact W.zret (v := nI 0) (ty := .boolean) hx hb hr (by first | rfl | decide) (fun t9 ht9 hW9 => ⟨⟨nI 0, [(mo, .inr (2, [.int (nI 0), .ref l1, .ref l2, .int (nI n), .ref l3, .ref l4, .int (nI nk), .ref l5, .ref l6, .int (nI mn), .ref l7, .ref l8, .ref l9, .int by0, .int fd])), (l1, .inl (cI, 2400, .inl f)), (l2, .inl (cI, 2400, .inl g)), (l3, .inl (cI, 2400, .inl kf)), (l4, .inl (cI, 2400, .inl kg)), (l5, .inl (cI, 4800, .inl ef)), (l6, .inl (cI, 4800, .inl eg)), (l7, .inl (cZ, 1120, .inl mt)), (l8, .inl (cI, 4, .inl fr)), (l9, .inl (cI, 4, .inl tt))], rfl, ⟨rfl, Or.inr ⟨rfl, cr_Tk_out (by rw [Int32.lt_iff_toInt_lt, nI_toInt (by decide)] at c_7; omega)⟩⟩, by rw [ht9]; exact hP, va_K.moved hW9.alike hK, hD⟩, hS.F ht9⟩) hS.2.2 dM_takes_16
  · refine lv_iload_n hx hb dM_takes_10 rfl (lv_at hl 2 rfl) ?_
    refine lv_iconst (v := nI 4) hx hb dM_takes_11 (by decide) ?_
    refine lv_icmp_le (tgt := 17) hx hb dM_takes_12 (by decide) (fun c_12 => ?_) (fun c_12 => ?_)
    · rw [Int32.lt_iff_toInt_lt, nI_toInt (by decide)] at c_7
      rw [Int32.le_iff_toInt_le, nI_toInt (by decide)] at c_12
      obtain ⟨zz, hzz, rfl⟩ := cr_of (x := z) (by omega)
      rw [nI_toInt hzz] at c_7 c_12
      rcases (show zz = 1 ∨ zz = 2 ∨ zz = 3 ∨ zz = 4 by omega) with rfl | rfl | rfl | rfl
      · refine lv_iload_n hx hb dM_takes_17 rfl (lv_at hl 1 rfl) ?_
        refine lv_bipush (v := nI 24) hx hb dM_takes_18 (by decide) ?_
        refine lv_ishr hx hb dM_takes_20 ?_
        refine lv_sipush (v := nI 255) hx hb dM_takes_21 (by decide) ?_
        refine lv_iand hx hb dM_takes_24 ?_
        refine cr_top (y := nI (cr_ba y 1)) (cr_sba y _ 24 (by decide) (by decide)) ?_
        refine lv_istore_n (lv' := [(3, .int (nI (cr_ba y 1))), (0, .ref mo), (1, .int y), (2, .int (nI 1))]) hx hb dM_takes_25 rfl hl (by decide) rfl (fun ls hl => ?_)
        refine lv_iload_n hx hb dM_takes_26 rfl (lv_at hl 3 rfl) ?_
        refine lv_iconst (v := nI 1) hx hb dM_takes_27 (by decide) ?_
        refine lv_icmp_ne (tgt := 35) hx hb dM_takes_28 (by decide) (fun c_28 => ?_) (fun c_28 => ?_)
        · exact absurd (by decide) c_28
        · refine lv_iload_n hx hb dM_takes_31 rfl (lv_at hl 0 rfl) ?_
          refine lv_goto (tgt := 66) hx hb dM_takes_32 (by decide) ?_
          obtain ⟨cv0, hcv0⟩ : ∃ q : Int32, q = nI (cr_ba y 1) := ⟨_, rfl⟩
          refine cr_top hcv0.symm ?_
          have hcv : cv0.toInt = (cr_ba y 1 : Int) - (0 : Nat) := by rw [hcv0, nI_toInt (by omega)]; omega
          refine lv_istore (lv' := [(4, .int cv0), (3, .int (nI (cr_ba y 1))), (0, .ref mo), (1, .int y), (2, .int (nI 1))]) hx hb dM_takes_66 hl (by decide) rfl (fun ls hl => ?_)
          refine cr_cut1 127 [] (fun (gd0 : Int32) H locs ls => (cr_zb gd0 (cr_gd y 1 1)) ∧ va_P (dC, dI) crCl [(mo, .inr (2, [.int (nI 0), .ref l1, .ref l2, .int (nI n), .ref l3, .ref l4, .int (nI nk), .ref l5, .ref l6, .int (nI mn), .ref l7, .ref l8, .ref l9, .int by0, .int fd])), (l1, .inl (cI, 2400, .inl f)), (l2, .inl (cI, 2400, .inl g)), (l3, .inl (cI, 2400, .inl kf)), (l4, .inl (cI, 2400, .inl kg)), (l5, .inl (cI, 4800, .inl ef)), (l6, .inl (cI, 4800, .inl eg)), (l7, .inl (cZ, 1120, .inl mt)), (l8, .inl (cI, 4, .inl fr)), (l9, .inl (cI, 4, .inl tt))] H ∧ va_D A [(mo, .inr (2, [.int (nI 0), .ref l1, .ref l2, .int (nI n), .ref l3, .ref l4, .int (nI nk), .ref l5, .ref l6, .int (nI mn), .ref l7, .ref l8, .ref l9, .int by0, .int fd])), (l1, .inl (cI, 2400, .inl f)), (l2, .inl (cI, 2400, .inl g)), (l3, .inl (cI, 2400, .inl kf)), (l4, .inl (cI, 2400, .inl kg)), (l5, .inl (cI, 4800, .inl ef)), (l6, .inl (cI, 4800, .inl eg)), (l7, .inl (cZ, 1120, .inl mt)), (l8, .inl (cI, 4, .inl fr)), (l9, .inl (cI, 4, .inl tt))] ∧ va_S A s.heap H locs ∧ lv_has ls 8 [(0, .ref mo), (1, .int y), (2, .int (nI 1)), (3, .int (nI (cr_ba y 1))), (4, .int cv0), (5, .int gd0)]) ?_ (fun jn127 => ?_)
          · intro gd0 H locs ls hJ127
            obtain ⟨hz0, hP, hD, hS, hl⟩ := hJ127
            refine lv_iconst (v := nI 1) hx hb dM_takes_127 (by decide) ?_
            refine lv_istore (lv' := [(6, .int (nI 1)), (0, .ref mo), (1, .int y), (2, .int (nI 1)), (3, .int (nI (cr_ba y 1))), (4, .int cv0), (5, .int gd0)]) hx hb dM_takes_128 hl (by decide) rfl (fun ls hl => ?_)
            refine cr_lp3 (fun (i : Nat) (cv : Int32) (gd : Int32) => 4 - i) (fun (i : Nat) (cv : Int32) (gd : Int32) H locs ls => (1 ≤ i ∧ i ≤ 1 ∧ cr_zb gd (cr_gd y 1 i) ∧ cv.toInt = cr_acc y 1 i) ∧ va_P (dC, dI) crCl [(mo, .inr (2, [.int (nI 0), .ref l1, .ref l2, .int (nI n), .ref l3, .ref l4, .int (nI nk), .ref l5, .ref l6, .int (nI mn), .ref l7, .ref l8, .ref l9, .int by0, .int fd])), (l1, .inl (cI, 2400, .inl f)), (l2, .inl (cI, 2400, .inl g)), (l3, .inl (cI, 2400, .inl kf)), (l4, .inl (cI, 2400, .inl kg)), (l5, .inl (cI, 4800, .inl ef)), (l6, .inl (cI, 4800, .inl eg)), (l7, .inl (cZ, 1120, .inl mt)), (l8, .inl (cI, 4, .inl fr)), (l9, .inl (cI, 4, .inl tt))] H ∧ va_D A [(mo, .inr (2, [.int (nI 0), .ref l1, .ref l2, .int (nI n), .ref l3, .ref l4, .int (nI nk), .ref l5, .ref l6, .int (nI mn), .ref l7, .ref l8, .ref l9, .int by0, .int fd])), (l1, .inl (cI, 2400, .inl f)), (l2, .inl (cI, 2400, .inl g)), (l3, .inl (cI, 2400, .inl kf)), (l4, .inl (cI, 2400, .inl kg)), (l5, .inl (cI, 4800, .inl ef)), (l6, .inl (cI, 4800, .inl eg)), (l7, .inl (cZ, 1120, .inl mt)), (l8, .inl (cI, 4, .inl fr)), (l9, .inl (cI, 4, .inl tt))] ∧ va_S A s.heap H locs ∧ lv_has ls 8 [(0, .ref mo), (1, .int y), (2, .int (nI 1)), (3, .int (nI (cr_ba y 1))), (4, .int cv), (5, .int gd), (6, .int (nI i))]) ?_ 1 cv0 gd0 ⟨⟨Nat.le_refl _, by omega, hz0, hcv⟩, hP, hD, hS, lv_sub hl [1, 2, 3, 4, 5, 6, 0] rfl⟩
            intro i cv gd H locs ls hI130 ih130
            obtain ⟨⟨h1, h2, hz, hc⟩, hP, hD, hS, hl⟩ := hI130
            rcases hz with ⟨rfl, hg⟩ | ⟨rfl, hg⟩
            · refine lv_iload hx hb dM_takes_130 (lv_at hl 6 rfl) ?_
              refine lv_iload_n hx hb dM_takes_132 rfl (lv_at hl 2 rfl) ?_
              refine lv_icmp_ge (tgt := 199) hx hb dM_takes_133 (by decide) (fun c_133 => ?_) (fun c_133 => ?_)
              · rw [nI_leI (by omega) (by omega)] at c_133
                refine lv_iload hx hb dM_takes_199 (lv_at hl 5 rfl) ?_
                refine lv_if_eq (tgt := 233) hx hb dM_takes_201 (by decide) (fun c_201 => ?_) (fun c_201 => ?_)
                · exact absurd c_201 (by decide)
                · have hin : i = 1 := by omega
                  subst hin
                  rw [cr_acc_dec (by omega) (by omega) hg.1] at hc
                  obtain rfl : cv = nI (cr_dec y 1) := (cr_eqn (by have := cr_dec_lt y 1; omega)).2 hc
                  have hdl := cr_dec_lt y 1
                  refine lv_iload hx hb dM_takes_204 (lv_at hl 4 rfl) ?_
                  refine lv_ldc (v := nI 1114111) hx hb hown (hts (.constant RX2 52 (nI 1114111)) (by decide +kernel)) dM_takes_206 ?_
                  refine lv_icmp_gt (tgt := 233) hx hb dM_takes_208 (by decide) (fun c_208 => ?_) (fun c_208 => ?_)
                  · rw [nI_ltI (by omega) (by omega)] at c_208
                    refine lv_iconst (v := nI 0) hx hb dM_takes_233 (by decide) ?_
                    exact W.zret (v := nI 0) (ty := .boolean) hx hb hr (by first | rfl | decide) (fun t9 ht9 hW9 => ⟨⟨nI 0, [(mo, .inr (2, [.int (nI 0), .ref l1, .ref l2, .int (nI n), .ref l3, .ref l4, .int (nI nk), .ref l5, .ref l6, .int (nI mn), .ref l7, .ref l8, .ref l9, .int by0, .int fd])), (l1, .inl (cI, 2400, .inl f)), (l2, .inl (cI, 2400, .inl g)), (l3, .inl (cI, 2400, .inl kf)), (l4, .inl (cI, 2400, .inl kg)), (l5, .inl (cI, 4800, .inl ef)), (l6, .inl (cI, 4800, .inl eg)), (l7, .inl (cZ, 1120, .inl mt)), (l8, .inl (cI, 4, .inl fr)), (l9, .inl (cI, 4, .inl tt))], rfl, ⟨rfl, Or.inr ⟨rfl, fun h => absurd (hSet.char (cr_Tk_S hSet (by omega) (by omega) h)).1 (by omega)⟩⟩, by rw [ht9]; exact hP, va_K.moved hW9.alike hK, hD⟩, hS.F ht9⟩) hS.2.2 dM_takes_234
                  · rw [nI_ltI (by omega) (by omega)] at c_208
                    refine lv_iload hx hb dM_takes_211 (lv_at hl 4 rfl) ?_
                    have hPc := hP.sub (ws' := []) [] rfl
                    have hDc := hD.sub (ws' := []) [] (by decide) rfl
                    have hFc := va_free (wc := []) hD hS hA [] rfl
                    refine va_calli (va_runS (As := [.int (nI (cr_dec y 1))]) (rest := []) ⟨hx, hb, hml, hown, hts⟩ (m_length l dC dI _ (cr_dec y 1) (by omega)) (va_cwS 1 hts gM_takes_M_length rfl rfl rfl (by decide +kernel) ⟨Nat.le_of_ble_eq_true rfl, Nat.le_of_ble_eq_true rfl⟩) (cr_preS hPc (hK.sub (tys' := []) [] rfl) hDc) rfl rfl hl.1 rfl (lv_room (Nat.le_of_ble_eq_true rfl)) dM_takes_213 ⟨Nat.zero_le _, Nat.zero_le _⟩) hS (fun q _ h => hFc q h) hFc (fun r_213 u_213 t_213 H_213 locs ht_213 hvm_213 hw_213 hB_213 hz_213 hk_213 hS => ?_)
                    obtain ⟨rfl, rfl⟩ := hw_213
                    obtain ⟨hP, hD⟩ := cr_back (wr := [(mo, .inr (2, [.int (nI 0), .ref l1, .ref l2, .int (nI n), .ref l3, .ref l4, .int (nI nk), .ref l5, .ref l6, .int (nI mn), .ref l7, .ref l8, .ref l9, .int by0, .int fd])), (l1, .inl (cI, 2400, .inl f)), (l2, .inl (cI, 2400, .inl g)), (l3, .inl (cI, 2400, .inl kf)), (l4, .inl (cI, 2400, .inl kg)), (l5, .inl (cI, 4800, .inl ef)), (l6, .inl (cI, 4800, .inl eg)), (l7, .inl (cZ, 1120, .inl mt)), (l8, .inl (cI, 4, .inl fr)), (l9, .inl (cI, 4, .inl tt))]) (w1 := []) hP hD [] [0, 1, 2, 3, 4, 5, 6, 7, 8, 9] rfl rfl (by decide) (by decide) hk_213 hFc hB_213 ht_213
                    clear hPc hDc hFc
                    generalize H_213 = H at hP hS ⊢
                    have hP := hP.sub (ws' := [(mo, .inr (2, [.int (nI 0), .ref l1, .ref l2, .int (nI n), .ref l3, .ref l4, .int (nI nk), .ref l5, .ref l6, .int (nI mn), .ref l7, .ref l8, .ref l9, .int by0, .int fd])), (l1, .inl (cI, 2400, .inl f)), (l2, .inl (cI, 2400, .inl g)), (l3, .inl (cI, 2400, .inl kf)), (l4, .inl (cI, 2400, .inl kg)), (l5, .inl (cI, 4800, .inl ef)), (l6, .inl (cI, 4800, .inl eg)), (l7, .inl (cZ, 1120, .inl mt)), (l8, .inl (cI, 4, .inl fr)), (l9, .inl (cI, 4, .inl tt))]) [0, 1, 2, 3, 4, 5, 6, 7, 8, 9] rfl
                    have hD := hD.sub (ws' := [(mo, .inr (2, [.int (nI 0), .ref l1, .ref l2, .int (nI n), .ref l3, .ref l4, .int (nI nk), .ref l5, .ref l6, .int (nI mn), .ref l7, .ref l8, .ref l9, .int by0, .int fd])), (l1, .inl (cI, 2400, .inl f)), (l2, .inl (cI, 2400, .inl g)), (l3, .inl (cI, 2400, .inl kf)), (l4, .inl (cI, 2400, .inl kg)), (l5, .inl (cI, 4800, .inl ef)), (l6, .inl (cI, 4800, .inl eg)), (l7, .inl (cZ, 1120, .inl mt)), (l8, .inl (cI, 4, .inl fr)), (l9, .inl (cI, 4, .inl tt))]) [0, 1, 2, 3, 4, 5, 6, 7, 8, 9] (by decide) rfl
                    refine lv_iload_n hx hb dM_takes_216 rfl (lv_at hl 2 rfl) ?_
                    refine lv_icmp_ne (tgt := 233) hx hb dM_takes_217 (by decide) (fun c_217 => ?_) (fun c_217 => ?_)
                    · have hl9 := cr_len_le (cr_dec y 1)
                      rw [nI_eq (by omega) (by omega)] at c_217
                      refine lv_iconst (v := nI 0) hx hb dM_takes_233 (by decide) ?_
                      exact W.zret (v := nI 0) (ty := .boolean) hx hb hr (by first | rfl | decide) (fun t9 ht9 hW9 => ⟨⟨nI 0, [(mo, .inr (2, [.int (nI 0), .ref l1, .ref l2, .int (nI n), .ref l3, .ref l4, .int (nI nk), .ref l5, .ref l6, .int (nI mn), .ref l7, .ref l8, .ref l9, .int by0, .int fd])), (l1, .inl (cI, 2400, .inl f)), (l2, .inl (cI, 2400, .inl g)), (l3, .inl (cI, 2400, .inl kf)), (l4, .inl (cI, 2400, .inl kg)), (l5, .inl (cI, 4800, .inl ef)), (l6, .inl (cI, 4800, .inl eg)), (l7, .inl (cZ, 1120, .inl mt)), (l8, .inl (cI, 4, .inl fr)), (l9, .inl (cI, 4, .inl tt))], rfl, ⟨rfl, Or.inr ⟨rfl, fun h => c_217 (cr_Tk_len hSet (by omega) (by omega) h)⟩⟩, by rw [ht9]; exact hP, va_K.moved hW9.alike hK, hD⟩, hS.F ht9⟩) hS.2.2 dM_takes_234
                    · have hl9 := cr_len_le (cr_dec y 1)
                      rw [nI_eq (by omega) (by omega)] at c_217
                      refine lv_aload_n hx hb dM_takes_220 rfl (lv_at hl 0 rfl) ?_
                      refine lv_iload hx hb dM_takes_221 (lv_at hl 4 rfl) ?_
                      have hPc := hP.sub (ws' := [(mo, .inr (2, [.int (nI 0), .ref l1, .ref l2, .int (nI n), .ref l3, .ref l4, .int (nI nk), .ref l5, .ref l6, .int (nI mn), .ref l7, .ref l8, .ref l9, .int by0, .int fd])), (l1, .inl (cI, 2400, .inl f)), (l2, .inl (cI, 2400, .inl g)), (l3, .inl (cI, 2400, .inl kf)), (l4, .inl (cI, 2400, .inl kg)), (l5, .inl (cI, 4800, .inl ef)), (l6, .inl (cI, 4800, .inl eg)), (l7, .inl (cZ, 1120, .inl mt)), (l8, .inl (cI, 4, .inl fr)), (l9, .inl (cI, 4, .inl tt))]) [0, 1, 2, 3, 4, 5, 6, 7, 8, 9] rfl
                      have hDc := hD.sub (ws' := [(mo, .inr (2, [.int (nI 0), .ref l1, .ref l2, .int (nI n), .ref l3, .ref l4, .int (nI nk), .ref l5, .ref l6, .int (nI mn), .ref l7, .ref l8, .ref l9, .int by0, .int fd])), (l1, .inl (cI, 2400, .inl f)), (l2, .inl (cI, 2400, .inl g)), (l3, .inl (cI, 2400, .inl kf)), (l4, .inl (cI, 2400, .inl kg)), (l5, .inl (cI, 4800, .inl ef)), (l6, .inl (cI, 4800, .inl eg)), (l7, .inl (cZ, 1120, .inl mt)), (l8, .inl (cI, 4, .inl fr)), (l9, .inl (cI, 4, .inl tt))]) [0, 1, 2, 3, 4, 5, 6, 7, 8, 9] (by decide) rfl
                      have hFc := va_free (wc := [(mo, .inr (2, [.int (nI 0), .ref l1, .ref l2, .int (nI n), .ref l3, .ref l4, .int (nI nk), .ref l5, .ref l6, .int (nI mn), .ref l7, .ref l8, .ref l9, .int by0, .int fd])), (l1, .inl (cI, 2400, .inl f)), (l2, .inl (cI, 2400, .inl g)), (l3, .inl (cI, 2400, .inl kf)), (l4, .inl (cI, 2400, .inl kg)), (l5, .inl (cI, 4800, .inl ef)), (l6, .inl (cI, 4800, .inl eg)), (l7, .inl (cZ, 1120, .inl mt)), (l8, .inl (cI, 4, .inl fr)), (l9, .inl (cI, 4, .inl tt))]) hD hS hA [0, 1, 2, 3, 4, 5, 6, 7, 8, 9] rfl
                      refine va_calli (va_runV (As := [.int (nI (cr_dec y 1))]) (rest := []) ⟨hx, hb, hml, hown, hts⟩ (m_isIn l dC dI _ mo l1 l2 l3 l4 l5 l6 l7 l8 l9 cI cZ (nI 0) by0 fd n nk mn f g kf kg ef eg mt fr tt S hSet hn (nI (cr_dec y 1))) (cwV 1 hts gM_takes_M_isIn rfl rfl rfl (by decide +kernel) ⟨Nat.le_of_ble_eq_true rfl, Nat.le_of_ble_eq_true rfl⟩) (cr_preV hPc hK hDc (ci := 2) (q0 := 0) rfl rfl) rfl rfl hl.1 rfl (lv_room (Nat.le_of_ble_eq_true rfl)) dM_takes_223 ⟨Nat.zero_le _, Nat.zero_le _⟩) hS (fun q _ h => hFc q h) hFc (fun r_223 u_223 t_223 H_223 locs ht_223 hvm_223 hw_223 hB_223 hz_223 hk_223 hS => ?_)
                      obtain ⟨rfl, hzi⟩ := hw_223
                      rw [cr_Hs_big hSet (by omega)] at hzi
                      obtain ⟨hP, hD⟩ := cr_back (wr := []) (w1 := [(mo, .inr (2, [.int (nI 0), .ref l1, .ref l2, .int (nI n), .ref l3, .ref l4, .int (nI nk), .ref l5, .ref l6, .int (nI mn), .ref l7, .ref l8, .ref l9, .int by0, .int fd])), (l1, .inl (cI, 2400, .inl f)), (l2, .inl (cI, 2400, .inl g)), (l3, .inl (cI, 2400, .inl kf)), (l4, .inl (cI, 2400, .inl kg)), (l5, .inl (cI, 4800, .inl ef)), (l6, .inl (cI, 4800, .inl eg)), (l7, .inl (cZ, 1120, .inl mt)), (l8, .inl (cI, 4, .inl fr)), (l9, .inl (cI, 4, .inl tt))]) hP hD [0, 1, 2, 3, 4, 5, 6, 7, 8, 9] [] rfl rfl (by decide) (by decide) hk_223 hFc hB_223 ht_223
                      clear hPc hDc hFc
                      generalize H_223 = H at hP hS ⊢
                      have hP := hP.sub (ws' := [(mo, .inr (2, [.int (nI 0), .ref l1, .ref l2, .int (nI n), .ref l3, .ref l4, .int (nI nk), .ref l5, .ref l6, .int (nI mn), .ref l7, .ref l8, .ref l9, .int by0, .int fd])), (l1, .inl (cI, 2400, .inl f)), (l2, .inl (cI, 2400, .inl g)), (l3, .inl (cI, 2400, .inl kf)), (l4, .inl (cI, 2400, .inl kg)), (l5, .inl (cI, 4800, .inl ef)), (l6, .inl (cI, 4800, .inl eg)), (l7, .inl (cZ, 1120, .inl mt)), (l8, .inl (cI, 4, .inl fr)), (l9, .inl (cI, 4, .inl tt))]) [0, 1, 2, 3, 4, 5, 6, 7, 8, 9] rfl
                      have hD := hD.sub (ws' := [(mo, .inr (2, [.int (nI 0), .ref l1, .ref l2, .int (nI n), .ref l3, .ref l4, .int (nI nk), .ref l5, .ref l6, .int (nI mn), .ref l7, .ref l8, .ref l9, .int by0, .int fd])), (l1, .inl (cI, 2400, .inl f)), (l2, .inl (cI, 2400, .inl g)), (l3, .inl (cI, 2400, .inl kf)), (l4, .inl (cI, 2400, .inl kg)), (l5, .inl (cI, 4800, .inl ef)), (l6, .inl (cI, 4800, .inl eg)), (l7, .inl (cZ, 1120, .inl mt)), (l8, .inl (cI, 4, .inl fr)), (l9, .inl (cI, 4, .inl tt))]) [0, 1, 2, 3, 4, 5, 6, 7, 8, 9] (by decide) rfl
                      rcases hzi with ⟨rfl, hS9⟩ | ⟨rfl, hS9⟩
                      · refine lv_if_eq (tgt := 233) hx hb dM_takes_226 (by decide) (fun c_226 => ?_) (fun c_226 => ?_)
                        · exact absurd c_226 (by decide)
                        · refine lv_iconst (v := nI 1) hx hb dM_takes_229 (by decide) ?_
                          refine lv_goto (tgt := 234) hx hb dM_takes_230 (by decide) ?_
                          exact W.zret (v := nI 1) (ty := .boolean) hx hb hr (by first | rfl | decide) (fun t9 ht9 hW9 => ⟨⟨nI 1, [(mo, .inr (2, [.int (nI 0), .ref l1, .ref l2, .int (nI n), .ref l3, .ref l4, .int (nI nk), .ref l5, .ref l6, .int (nI mn), .ref l7, .ref l8, .ref l9, .int by0, .int fd])), (l1, .inl (cI, 2400, .inl f)), (l2, .inl (cI, 2400, .inl g)), (l3, .inl (cI, 2400, .inl kf)), (l4, .inl (cI, 2400, .inl kg)), (l5, .inl (cI, 4800, .inl ef)), (l6, .inl (cI, 4800, .inl eg)), (l7, .inl (cZ, 1120, .inl mt)), (l8, .inl (cI, 4, .inl fr)), (l9, .inl (cI, 4, .inl tt))], rfl, ⟨rfl, Or.inl ⟨rfl, ⟨1, _, rfl, by omega, by omega, hS9, c_217, cr_gd_by (by omega) (by omega) hg c_217 (by omega)⟩⟩⟩, by rw [ht9]; exact hP, va_K.moved hW9.alike hK, hD⟩, hS.F ht9⟩) hS.2.2 dM_takes_234
                      · refine lv_if_eq (tgt := 233) hx hb dM_takes_226 (by decide) (fun c_226 => ?_) (fun c_226 => ?_)
                        · refine lv_iconst (v := nI 0) hx hb dM_takes_233 (by decide) ?_
                          exact W.zret (v := nI 0) (ty := .boolean) hx hb hr (by first | rfl | decide) (fun t9 ht9 hW9 => ⟨⟨nI 0, [(mo, .inr (2, [.int (nI 0), .ref l1, .ref l2, .int (nI n), .ref l3, .ref l4, .int (nI nk), .ref l5, .ref l6, .int (nI mn), .ref l7, .ref l8, .ref l9, .int by0, .int fd])), (l1, .inl (cI, 2400, .inl f)), (l2, .inl (cI, 2400, .inl g)), (l3, .inl (cI, 2400, .inl kf)), (l4, .inl (cI, 2400, .inl kg)), (l5, .inl (cI, 4800, .inl ef)), (l6, .inl (cI, 4800, .inl eg)), (l7, .inl (cZ, 1120, .inl mt)), (l8, .inl (cI, 4, .inl fr)), (l9, .inl (cI, 4, .inl tt))], rfl, ⟨rfl, Or.inr ⟨rfl, fun h => hS9 (cr_Tk_S hSet (by omega) (by omega) h)⟩⟩, by rw [ht9]; exact hP, va_K.moved hW9.alike hK, hD⟩, hS.F ht9⟩) hS.2.2 dM_takes_234
                        · exact absurd (by decide) c_226
              · rw [nI_leI (by omega) (by omega)] at c_133
                exfalso
                omega
            · refine lv_iload hx hb dM_takes_130 (lv_at hl 6 rfl) ?_
              refine lv_iload_n hx hb dM_takes_132 rfl (lv_at hl 2 rfl) ?_
              refine lv_icmp_ge (tgt := 199) hx hb dM_takes_133 (by decide) (fun c_133 => ?_) (fun c_133 => ?_)
              · rw [nI_leI (by omega) (by omega)] at c_133
                refine lv_iload hx hb dM_takes_199 (lv_at hl 5 rfl) ?_
                refine lv_if_eq (tgt := 233) hx hb dM_takes_201 (by decide) (fun c_201 => ?_) (fun c_201 => ?_)
                · refine lv_iconst (v := nI 0) hx hb dM_takes_233 (by decide) ?_
                  exact W.zret (v := nI 0) (ty := .boolean) hx hb hr (by first | rfl | decide) (fun t9 ht9 hW9 => ⟨⟨nI 0, [(mo, .inr (2, [.int (nI 0), .ref l1, .ref l2, .int (nI n), .ref l3, .ref l4, .int (nI nk), .ref l5, .ref l6, .int (nI mn), .ref l7, .ref l8, .ref l9, .int by0, .int fd])), (l1, .inl (cI, 2400, .inl f)), (l2, .inl (cI, 2400, .inl g)), (l3, .inl (cI, 2400, .inl kf)), (l4, .inl (cI, 2400, .inl kg)), (l5, .inl (cI, 4800, .inl ef)), (l6, .inl (cI, 4800, .inl eg)), (l7, .inl (cZ, 1120, .inl mt)), (l8, .inl (cI, 4, .inl fr)), (l9, .inl (cI, 4, .inl tt))], rfl, ⟨rfl, Or.inr ⟨rfl, fun h => hg (by rw [show i = 1 from (by omega)]; exact cr_Tk_gd hSet (by omega) (by omega) h)⟩⟩, by rw [ht9]; exact hP, va_K.moved hW9.alike hK, hD⟩, hS.F ht9⟩) hS.2.2 dM_takes_234
                · exact absurd (by decide) c_201
              · rw [nI_leI (by omega) (by omega)] at c_133
                exfalso
                omega
          · refine lv_iload_n hx hb dM_takes_68 rfl (lv_at hl 4 rfl) ?_
            refine lv_iconst (v := nI 1) hx hb dM_takes_69 (by decide) ?_
            refine lv_icmp_ne (tgt := 88) hx hb dM_takes_70 (by decide) (fun c_70 => ?_) (fun c_70 => ?_)
            · exact absurd (by decide) c_70
            · refine lv_iload_n hx hb dM_takes_73 rfl (lv_at hl 1 rfl) ?_
              refine lv_sipush (v := nI 128) hx hb dM_takes_74 (by decide) ?_
              refine lv_icmp_ge (tgt := 84) hx hb dM_takes_77 (by decide) (fun c_77 => ?_) (fun c_77 => ?_)
              · rw [nI_leI (by omega) (by omega)] at c_77
                refine lv_iconst (v := nI 0) hx hb dM_takes_84 (by decide) ?_
                refine lv_goto (tgt := 125) hx hb dM_takes_85 (by decide) ?_
                refine lv_istore (lv' := [(5, .int (nI 0)), (4, .int cv0), (3, .int (nI (cr_ba y 1))), (0, .ref mo), (1, .int y), (2, .int (nI 1))]) hx hb dM_takes_125 hl (by decide) rfl (fun ls hl => ?_)
                exact jn127 (nI 0) _ _ _ ⟨Or.inr ⟨rfl, cr_ngd_1 (show ¬ (0 ≤ cr_ba y 1 ∧ cr_ba y 1 < 0 + 128) by omega)⟩, hP, hD, hS, lv_sub hl [3, 4, 5, 2, 1, 0] rfl⟩
              · rw [nI_leI (by omega) (by omega)] at c_77
                refine lv_iconst (v := nI 1) hx hb dM_takes_80 (by decide) ?_
                refine lv_goto (tgt := 125) hx hb dM_takes_81 (by decide) ?_
                refine lv_istore (lv' := [(5, .int (nI 1)), (4, .int cv0), (3, .int (nI (cr_ba y 1))), (0, .ref mo), (1, .int y), (2, .int (nI 1))]) hx hb dM_takes_125 hl (by decide) rfl (fun ls hl => ?_)
                exact jn127 (nI 1) _ _ _ ⟨Or.inl ⟨rfl, cr_gd_1 (show 0 ≤ cr_ba y 1 ∧ cr_ba y 1 < 0 + 128 by omega)⟩, hP, hD, hS, lv_sub hl [3, 4, 5, 2, 1, 0] rfl⟩
      · refine lv_iload_n hx hb dM_takes_17 rfl (lv_at hl 1 rfl) ?_
        refine lv_bipush (v := nI 24) hx hb dM_takes_18 (by decide) ?_
        refine lv_ishr hx hb dM_takes_20 ?_
        refine lv_sipush (v := nI 255) hx hb dM_takes_21 (by decide) ?_
        refine lv_iand hx hb dM_takes_24 ?_
        refine cr_top (y := nI (cr_ba y 1)) (cr_sba y _ 24 (by decide) (by decide)) ?_
        refine lv_istore_n (lv' := [(3, .int (nI (cr_ba y 1))), (0, .ref mo), (1, .int y), (2, .int (nI 2))]) hx hb dM_takes_25 rfl hl (by decide) rfl (fun ls hl => ?_)
        refine lv_iload_n hx hb dM_takes_26 rfl (lv_at hl 3 rfl) ?_
        refine lv_iconst (v := nI 1) hx hb dM_takes_27 (by decide) ?_
        refine lv_icmp_ne (tgt := 35) hx hb dM_takes_28 (by decide) (fun c_28 => ?_) (fun c_28 => ?_)
        · refine lv_iload_n hx hb dM_takes_35 rfl (lv_at hl 3 rfl) ?_
          refine lv_iconst (v := nI 2) hx hb dM_takes_36 (by decide) ?_
          refine lv_icmp_ne (tgt := 48) hx hb dM_takes_37 (by decide) (fun c_37 => ?_) (fun c_37 => ?_)
          · exact absurd (by decide) c_37
          · refine lv_iload_n hx hb dM_takes_40 rfl (lv_at hl 0 rfl) ?_
            refine lv_sipush (v := nI 192) hx hb dM_takes_41 (by decide) ?_
            refine lv_isub hx hb dM_takes_44 ?_
            refine lv_goto (tgt := 66) hx hb dM_takes_45 (by decide) ?_
            obtain ⟨cv0, hcv0⟩ : ∃ q : Int32, q = (nI (cr_ba y 1)) - (nI 192) := ⟨_, rfl⟩
            refine cr_top hcv0.symm ?_
            have hcv : cv0.toInt = (cr_ba y 1 : Int) - (192 : Nat) := by rw [hcv0]; exact pk_sub_toInt (by omega) (by decide)
            refine lv_istore (lv' := [(4, .int cv0), (3, .int (nI (cr_ba y 1))), (0, .ref mo), (1, .int y), (2, .int (nI 2))]) hx hb dM_takes_66 hl (by decide) rfl (fun ls hl => ?_)
            refine cr_cut1 127 [] (fun (gd0 : Int32) H locs ls => (cr_zb gd0 (cr_gd y 2 1)) ∧ va_P (dC, dI) crCl [(mo, .inr (2, [.int (nI 0), .ref l1, .ref l2, .int (nI n), .ref l3, .ref l4, .int (nI nk), .ref l5, .ref l6, .int (nI mn), .ref l7, .ref l8, .ref l9, .int by0, .int fd])), (l1, .inl (cI, 2400, .inl f)), (l2, .inl (cI, 2400, .inl g)), (l3, .inl (cI, 2400, .inl kf)), (l4, .inl (cI, 2400, .inl kg)), (l5, .inl (cI, 4800, .inl ef)), (l6, .inl (cI, 4800, .inl eg)), (l7, .inl (cZ, 1120, .inl mt)), (l8, .inl (cI, 4, .inl fr)), (l9, .inl (cI, 4, .inl tt))] H ∧ va_D A [(mo, .inr (2, [.int (nI 0), .ref l1, .ref l2, .int (nI n), .ref l3, .ref l4, .int (nI nk), .ref l5, .ref l6, .int (nI mn), .ref l7, .ref l8, .ref l9, .int by0, .int fd])), (l1, .inl (cI, 2400, .inl f)), (l2, .inl (cI, 2400, .inl g)), (l3, .inl (cI, 2400, .inl kf)), (l4, .inl (cI, 2400, .inl kg)), (l5, .inl (cI, 4800, .inl ef)), (l6, .inl (cI, 4800, .inl eg)), (l7, .inl (cZ, 1120, .inl mt)), (l8, .inl (cI, 4, .inl fr)), (l9, .inl (cI, 4, .inl tt))] ∧ va_S A s.heap H locs ∧ lv_has ls 8 [(0, .ref mo), (1, .int y), (2, .int (nI 2)), (3, .int (nI (cr_ba y 1))), (4, .int cv0), (5, .int gd0)]) ?_ (fun jn127 => ?_)
            · intro gd0 H locs ls hJ127
              obtain ⟨hz0, hP, hD, hS, hl⟩ := hJ127
              refine lv_iconst (v := nI 1) hx hb dM_takes_127 (by decide) ?_
              refine lv_istore (lv' := [(6, .int (nI 1)), (0, .ref mo), (1, .int y), (2, .int (nI 2)), (3, .int (nI (cr_ba y 1))), (4, .int cv0), (5, .int gd0)]) hx hb dM_takes_128 hl (by decide) rfl (fun ls hl => ?_)
              refine cr_lp3 (fun (i : Nat) (cv : Int32) (gd : Int32) => 4 - i) (fun (i : Nat) (cv : Int32) (gd : Int32) H locs ls => (1 ≤ i ∧ i ≤ 2 ∧ cr_zb gd (cr_gd y 2 i) ∧ cv.toInt = cr_acc y 2 i) ∧ va_P (dC, dI) crCl [(mo, .inr (2, [.int (nI 0), .ref l1, .ref l2, .int (nI n), .ref l3, .ref l4, .int (nI nk), .ref l5, .ref l6, .int (nI mn), .ref l7, .ref l8, .ref l9, .int by0, .int fd])), (l1, .inl (cI, 2400, .inl f)), (l2, .inl (cI, 2400, .inl g)), (l3, .inl (cI, 2400, .inl kf)), (l4, .inl (cI, 2400, .inl kg)), (l5, .inl (cI, 4800, .inl ef)), (l6, .inl (cI, 4800, .inl eg)), (l7, .inl (cZ, 1120, .inl mt)), (l8, .inl (cI, 4, .inl fr)), (l9, .inl (cI, 4, .inl tt))] H ∧ va_D A [(mo, .inr (2, [.int (nI 0), .ref l1, .ref l2, .int (nI n), .ref l3, .ref l4, .int (nI nk), .ref l5, .ref l6, .int (nI mn), .ref l7, .ref l8, .ref l9, .int by0, .int fd])), (l1, .inl (cI, 2400, .inl f)), (l2, .inl (cI, 2400, .inl g)), (l3, .inl (cI, 2400, .inl kf)), (l4, .inl (cI, 2400, .inl kg)), (l5, .inl (cI, 4800, .inl ef)), (l6, .inl (cI, 4800, .inl eg)), (l7, .inl (cZ, 1120, .inl mt)), (l8, .inl (cI, 4, .inl fr)), (l9, .inl (cI, 4, .inl tt))] ∧ va_S A s.heap H locs ∧ lv_has ls 8 [(0, .ref mo), (1, .int y), (2, .int (nI 2)), (3, .int (nI (cr_ba y 1))), (4, .int cv), (5, .int gd), (6, .int (nI i))]) ?_ 1 cv0 gd0 ⟨⟨Nat.le_refl _, by omega, hz0, hcv⟩, hP, hD, hS, lv_sub hl [1, 2, 3, 4, 5, 6, 0] rfl⟩
              intro i cv gd H locs ls hI130 ih130
              obtain ⟨⟨h1, h2, hz, hc⟩, hP, hD, hS, hl⟩ := hI130
              rcases hz with ⟨rfl, hg⟩ | ⟨rfl, hg⟩
              · refine lv_iload hx hb dM_takes_130 (lv_at hl 6 rfl) ?_
                refine lv_iload_n hx hb dM_takes_132 rfl (lv_at hl 2 rfl) ?_
                refine lv_icmp_ge (tgt := 199) hx hb dM_takes_133 (by decide) (fun c_133 => ?_) (fun c_133 => ?_)
                · rw [nI_leI (by omega) (by omega)] at c_133
                  refine lv_iload hx hb dM_takes_199 (lv_at hl 5 rfl) ?_
                  refine lv_if_eq (tgt := 233) hx hb dM_takes_201 (by decide) (fun c_201 => ?_) (fun c_201 => ?_)
                  · exact absurd c_201 (by decide)
                  · have hin : i = 2 := by omega
                    subst hin
                    rw [cr_acc_dec (by omega) (by omega) hg.1] at hc
                    obtain rfl : cv = nI (cr_dec y 2) := (cr_eqn (by have := cr_dec_lt y 2; omega)).2 hc
                    have hdl := cr_dec_lt y 2
                    refine lv_iload hx hb dM_takes_204 (lv_at hl 4 rfl) ?_
                    refine lv_ldc (v := nI 1114111) hx hb hown (hts (.constant RX2 52 (nI 1114111)) (by decide +kernel)) dM_takes_206 ?_
                    refine lv_icmp_gt (tgt := 233) hx hb dM_takes_208 (by decide) (fun c_208 => ?_) (fun c_208 => ?_)
                    · rw [nI_ltI (by omega) (by omega)] at c_208
                      refine lv_iconst (v := nI 0) hx hb dM_takes_233 (by decide) ?_
                      exact W.zret (v := nI 0) (ty := .boolean) hx hb hr (by first | rfl | decide) (fun t9 ht9 hW9 => ⟨⟨nI 0, [(mo, .inr (2, [.int (nI 0), .ref l1, .ref l2, .int (nI n), .ref l3, .ref l4, .int (nI nk), .ref l5, .ref l6, .int (nI mn), .ref l7, .ref l8, .ref l9, .int by0, .int fd])), (l1, .inl (cI, 2400, .inl f)), (l2, .inl (cI, 2400, .inl g)), (l3, .inl (cI, 2400, .inl kf)), (l4, .inl (cI, 2400, .inl kg)), (l5, .inl (cI, 4800, .inl ef)), (l6, .inl (cI, 4800, .inl eg)), (l7, .inl (cZ, 1120, .inl mt)), (l8, .inl (cI, 4, .inl fr)), (l9, .inl (cI, 4, .inl tt))], rfl, ⟨rfl, Or.inr ⟨rfl, fun h => absurd (hSet.char (cr_Tk_S hSet (by omega) (by omega) h)).1 (by omega)⟩⟩, by rw [ht9]; exact hP, va_K.moved hW9.alike hK, hD⟩, hS.F ht9⟩) hS.2.2 dM_takes_234
                    · rw [nI_ltI (by omega) (by omega)] at c_208
                      refine lv_iload hx hb dM_takes_211 (lv_at hl 4 rfl) ?_
                      have hPc := hP.sub (ws' := []) [] rfl
                      have hDc := hD.sub (ws' := []) [] (by decide) rfl
                      have hFc := va_free (wc := []) hD hS hA [] rfl
                      refine va_calli (va_runS (As := [.int (nI (cr_dec y 2))]) (rest := []) ⟨hx, hb, hml, hown, hts⟩ (m_length l dC dI _ (cr_dec y 2) (by omega)) (va_cwS 1 hts gM_takes_M_length rfl rfl rfl (by decide +kernel) ⟨Nat.le_of_ble_eq_true rfl, Nat.le_of_ble_eq_true rfl⟩) (cr_preS hPc (hK.sub (tys' := []) [] rfl) hDc) rfl rfl hl.1 rfl (lv_room (Nat.le_of_ble_eq_true rfl)) dM_takes_213 ⟨Nat.zero_le _, Nat.zero_le _⟩) hS (fun q _ h => hFc q h) hFc (fun r_213 u_213 t_213 H_213 locs ht_213 hvm_213 hw_213 hB_213 hz_213 hk_213 hS => ?_)
                      obtain ⟨rfl, rfl⟩ := hw_213
                      obtain ⟨hP, hD⟩ := cr_back (wr := [(mo, .inr (2, [.int (nI 0), .ref l1, .ref l2, .int (nI n), .ref l3, .ref l4, .int (nI nk), .ref l5, .ref l6, .int (nI mn), .ref l7, .ref l8, .ref l9, .int by0, .int fd])), (l1, .inl (cI, 2400, .inl f)), (l2, .inl (cI, 2400, .inl g)), (l3, .inl (cI, 2400, .inl kf)), (l4, .inl (cI, 2400, .inl kg)), (l5, .inl (cI, 4800, .inl ef)), (l6, .inl (cI, 4800, .inl eg)), (l7, .inl (cZ, 1120, .inl mt)), (l8, .inl (cI, 4, .inl fr)), (l9, .inl (cI, 4, .inl tt))]) (w1 := []) hP hD [] [0, 1, 2, 3, 4, 5, 6, 7, 8, 9] rfl rfl (by decide) (by decide) hk_213 hFc hB_213 ht_213
                      clear hPc hDc hFc
                      generalize H_213 = H at hP hS ⊢
                      have hP := hP.sub (ws' := [(mo, .inr (2, [.int (nI 0), .ref l1, .ref l2, .int (nI n), .ref l3, .ref l4, .int (nI nk), .ref l5, .ref l6, .int (nI mn), .ref l7, .ref l8, .ref l9, .int by0, .int fd])), (l1, .inl (cI, 2400, .inl f)), (l2, .inl (cI, 2400, .inl g)), (l3, .inl (cI, 2400, .inl kf)), (l4, .inl (cI, 2400, .inl kg)), (l5, .inl (cI, 4800, .inl ef)), (l6, .inl (cI, 4800, .inl eg)), (l7, .inl (cZ, 1120, .inl mt)), (l8, .inl (cI, 4, .inl fr)), (l9, .inl (cI, 4, .inl tt))]) [0, 1, 2, 3, 4, 5, 6, 7, 8, 9] rfl
                      have hD := hD.sub (ws' := [(mo, .inr (2, [.int (nI 0), .ref l1, .ref l2, .int (nI n), .ref l3, .ref l4, .int (nI nk), .ref l5, .ref l6, .int (nI mn), .ref l7, .ref l8, .ref l9, .int by0, .int fd])), (l1, .inl (cI, 2400, .inl f)), (l2, .inl (cI, 2400, .inl g)), (l3, .inl (cI, 2400, .inl kf)), (l4, .inl (cI, 2400, .inl kg)), (l5, .inl (cI, 4800, .inl ef)), (l6, .inl (cI, 4800, .inl eg)), (l7, .inl (cZ, 1120, .inl mt)), (l8, .inl (cI, 4, .inl fr)), (l9, .inl (cI, 4, .inl tt))]) [0, 1, 2, 3, 4, 5, 6, 7, 8, 9] (by decide) rfl
                      refine lv_iload_n hx hb dM_takes_216 rfl (lv_at hl 2 rfl) ?_
                      refine lv_icmp_ne (tgt := 233) hx hb dM_takes_217 (by decide) (fun c_217 => ?_) (fun c_217 => ?_)
                      · have hl9 := cr_len_le (cr_dec y 2)
                        rw [nI_eq (by omega) (by omega)] at c_217
                        refine lv_iconst (v := nI 0) hx hb dM_takes_233 (by decide) ?_
                        exact W.zret (v := nI 0) (ty := .boolean) hx hb hr (by first | rfl | decide) (fun t9 ht9 hW9 => ⟨⟨nI 0, [(mo, .inr (2, [.int (nI 0), .ref l1, .ref l2, .int (nI n), .ref l3, .ref l4, .int (nI nk), .ref l5, .ref l6, .int (nI mn), .ref l7, .ref l8, .ref l9, .int by0, .int fd])), (l1, .inl (cI, 2400, .inl f)), (l2, .inl (cI, 2400, .inl g)), (l3, .inl (cI, 2400, .inl kf)), (l4, .inl (cI, 2400, .inl kg)), (l5, .inl (cI, 4800, .inl ef)), (l6, .inl (cI, 4800, .inl eg)), (l7, .inl (cZ, 1120, .inl mt)), (l8, .inl (cI, 4, .inl fr)), (l9, .inl (cI, 4, .inl tt))], rfl, ⟨rfl, Or.inr ⟨rfl, fun h => c_217 (cr_Tk_len hSet (by omega) (by omega) h)⟩⟩, by rw [ht9]; exact hP, va_K.moved hW9.alike hK, hD⟩, hS.F ht9⟩) hS.2.2 dM_takes_234
                      · have hl9 := cr_len_le (cr_dec y 2)
                        rw [nI_eq (by omega) (by omega)] at c_217
                        refine lv_aload_n hx hb dM_takes_220 rfl (lv_at hl 0 rfl) ?_
                        refine lv_iload hx hb dM_takes_221 (lv_at hl 4 rfl) ?_
                        have hPc := hP.sub (ws' := [(mo, .inr (2, [.int (nI 0), .ref l1, .ref l2, .int (nI n), .ref l3, .ref l4, .int (nI nk), .ref l5, .ref l6, .int (nI mn), .ref l7, .ref l8, .ref l9, .int by0, .int fd])), (l1, .inl (cI, 2400, .inl f)), (l2, .inl (cI, 2400, .inl g)), (l3, .inl (cI, 2400, .inl kf)), (l4, .inl (cI, 2400, .inl kg)), (l5, .inl (cI, 4800, .inl ef)), (l6, .inl (cI, 4800, .inl eg)), (l7, .inl (cZ, 1120, .inl mt)), (l8, .inl (cI, 4, .inl fr)), (l9, .inl (cI, 4, .inl tt))]) [0, 1, 2, 3, 4, 5, 6, 7, 8, 9] rfl
                        have hDc := hD.sub (ws' := [(mo, .inr (2, [.int (nI 0), .ref l1, .ref l2, .int (nI n), .ref l3, .ref l4, .int (nI nk), .ref l5, .ref l6, .int (nI mn), .ref l7, .ref l8, .ref l9, .int by0, .int fd])), (l1, .inl (cI, 2400, .inl f)), (l2, .inl (cI, 2400, .inl g)), (l3, .inl (cI, 2400, .inl kf)), (l4, .inl (cI, 2400, .inl kg)), (l5, .inl (cI, 4800, .inl ef)), (l6, .inl (cI, 4800, .inl eg)), (l7, .inl (cZ, 1120, .inl mt)), (l8, .inl (cI, 4, .inl fr)), (l9, .inl (cI, 4, .inl tt))]) [0, 1, 2, 3, 4, 5, 6, 7, 8, 9] (by decide) rfl
                        have hFc := va_free (wc := [(mo, .inr (2, [.int (nI 0), .ref l1, .ref l2, .int (nI n), .ref l3, .ref l4, .int (nI nk), .ref l5, .ref l6, .int (nI mn), .ref l7, .ref l8, .ref l9, .int by0, .int fd])), (l1, .inl (cI, 2400, .inl f)), (l2, .inl (cI, 2400, .inl g)), (l3, .inl (cI, 2400, .inl kf)), (l4, .inl (cI, 2400, .inl kg)), (l5, .inl (cI, 4800, .inl ef)), (l6, .inl (cI, 4800, .inl eg)), (l7, .inl (cZ, 1120, .inl mt)), (l8, .inl (cI, 4, .inl fr)), (l9, .inl (cI, 4, .inl tt))]) hD hS hA [0, 1, 2, 3, 4, 5, 6, 7, 8, 9] rfl
                        refine va_calli (va_runV (As := [.int (nI (cr_dec y 2))]) (rest := []) ⟨hx, hb, hml, hown, hts⟩ (m_isIn l dC dI _ mo l1 l2 l3 l4 l5 l6 l7 l8 l9 cI cZ (nI 0) by0 fd n nk mn f g kf kg ef eg mt fr tt S hSet hn (nI (cr_dec y 2))) (cwV 1 hts gM_takes_M_isIn rfl rfl rfl (by decide +kernel) ⟨Nat.le_of_ble_eq_true rfl, Nat.le_of_ble_eq_true rfl⟩) (cr_preV hPc hK hDc (ci := 2) (q0 := 0) rfl rfl) rfl rfl hl.1 rfl (lv_room (Nat.le_of_ble_eq_true rfl)) dM_takes_223 ⟨Nat.zero_le _, Nat.zero_le _⟩) hS (fun q _ h => hFc q h) hFc (fun r_223 u_223 t_223 H_223 locs ht_223 hvm_223 hw_223 hB_223 hz_223 hk_223 hS => ?_)
                        obtain ⟨rfl, hzi⟩ := hw_223
                        rw [cr_Hs_big hSet (by omega)] at hzi
                        obtain ⟨hP, hD⟩ := cr_back (wr := []) (w1 := [(mo, .inr (2, [.int (nI 0), .ref l1, .ref l2, .int (nI n), .ref l3, .ref l4, .int (nI nk), .ref l5, .ref l6, .int (nI mn), .ref l7, .ref l8, .ref l9, .int by0, .int fd])), (l1, .inl (cI, 2400, .inl f)), (l2, .inl (cI, 2400, .inl g)), (l3, .inl (cI, 2400, .inl kf)), (l4, .inl (cI, 2400, .inl kg)), (l5, .inl (cI, 4800, .inl ef)), (l6, .inl (cI, 4800, .inl eg)), (l7, .inl (cZ, 1120, .inl mt)), (l8, .inl (cI, 4, .inl fr)), (l9, .inl (cI, 4, .inl tt))]) hP hD [0, 1, 2, 3, 4, 5, 6, 7, 8, 9] [] rfl rfl (by decide) (by decide) hk_223 hFc hB_223 ht_223
                        clear hPc hDc hFc
                        generalize H_223 = H at hP hS ⊢
                        have hP := hP.sub (ws' := [(mo, .inr (2, [.int (nI 0), .ref l1, .ref l2, .int (nI n), .ref l3, .ref l4, .int (nI nk), .ref l5, .ref l6, .int (nI mn), .ref l7, .ref l8, .ref l9, .int by0, .int fd])), (l1, .inl (cI, 2400, .inl f)), (l2, .inl (cI, 2400, .inl g)), (l3, .inl (cI, 2400, .inl kf)), (l4, .inl (cI, 2400, .inl kg)), (l5, .inl (cI, 4800, .inl ef)), (l6, .inl (cI, 4800, .inl eg)), (l7, .inl (cZ, 1120, .inl mt)), (l8, .inl (cI, 4, .inl fr)), (l9, .inl (cI, 4, .inl tt))]) [0, 1, 2, 3, 4, 5, 6, 7, 8, 9] rfl
                        have hD := hD.sub (ws' := [(mo, .inr (2, [.int (nI 0), .ref l1, .ref l2, .int (nI n), .ref l3, .ref l4, .int (nI nk), .ref l5, .ref l6, .int (nI mn), .ref l7, .ref l8, .ref l9, .int by0, .int fd])), (l1, .inl (cI, 2400, .inl f)), (l2, .inl (cI, 2400, .inl g)), (l3, .inl (cI, 2400, .inl kf)), (l4, .inl (cI, 2400, .inl kg)), (l5, .inl (cI, 4800, .inl ef)), (l6, .inl (cI, 4800, .inl eg)), (l7, .inl (cZ, 1120, .inl mt)), (l8, .inl (cI, 4, .inl fr)), (l9, .inl (cI, 4, .inl tt))]) [0, 1, 2, 3, 4, 5, 6, 7, 8, 9] (by decide) rfl
                        rcases hzi with ⟨rfl, hS9⟩ | ⟨rfl, hS9⟩
                        · refine lv_if_eq (tgt := 233) hx hb dM_takes_226 (by decide) (fun c_226 => ?_) (fun c_226 => ?_)
                          · exact absurd c_226 (by decide)
                          · refine lv_iconst (v := nI 1) hx hb dM_takes_229 (by decide) ?_
                            refine lv_goto (tgt := 234) hx hb dM_takes_230 (by decide) ?_
                            exact W.zret (v := nI 1) (ty := .boolean) hx hb hr (by first | rfl | decide) (fun t9 ht9 hW9 => ⟨⟨nI 1, [(mo, .inr (2, [.int (nI 0), .ref l1, .ref l2, .int (nI n), .ref l3, .ref l4, .int (nI nk), .ref l5, .ref l6, .int (nI mn), .ref l7, .ref l8, .ref l9, .int by0, .int fd])), (l1, .inl (cI, 2400, .inl f)), (l2, .inl (cI, 2400, .inl g)), (l3, .inl (cI, 2400, .inl kf)), (l4, .inl (cI, 2400, .inl kg)), (l5, .inl (cI, 4800, .inl ef)), (l6, .inl (cI, 4800, .inl eg)), (l7, .inl (cZ, 1120, .inl mt)), (l8, .inl (cI, 4, .inl fr)), (l9, .inl (cI, 4, .inl tt))], rfl, ⟨rfl, Or.inl ⟨rfl, ⟨2, _, rfl, by omega, by omega, hS9, c_217, cr_gd_by (by omega) (by omega) hg c_217 (by omega)⟩⟩⟩, by rw [ht9]; exact hP, va_K.moved hW9.alike hK, hD⟩, hS.F ht9⟩) hS.2.2 dM_takes_234
                        · refine lv_if_eq (tgt := 233) hx hb dM_takes_226 (by decide) (fun c_226 => ?_) (fun c_226 => ?_)
                          · refine lv_iconst (v := nI 0) hx hb dM_takes_233 (by decide) ?_
                            exact W.zret (v := nI 0) (ty := .boolean) hx hb hr (by first | rfl | decide) (fun t9 ht9 hW9 => ⟨⟨nI 0, [(mo, .inr (2, [.int (nI 0), .ref l1, .ref l2, .int (nI n), .ref l3, .ref l4, .int (nI nk), .ref l5, .ref l6, .int (nI mn), .ref l7, .ref l8, .ref l9, .int by0, .int fd])), (l1, .inl (cI, 2400, .inl f)), (l2, .inl (cI, 2400, .inl g)), (l3, .inl (cI, 2400, .inl kf)), (l4, .inl (cI, 2400, .inl kg)), (l5, .inl (cI, 4800, .inl ef)), (l6, .inl (cI, 4800, .inl eg)), (l7, .inl (cZ, 1120, .inl mt)), (l8, .inl (cI, 4, .inl fr)), (l9, .inl (cI, 4, .inl tt))], rfl, ⟨rfl, Or.inr ⟨rfl, fun h => hS9 (cr_Tk_S hSet (by omega) (by omega) h)⟩⟩, by rw [ht9]; exact hP, va_K.moved hW9.alike hK, hD⟩, hS.F ht9⟩) hS.2.2 dM_takes_234
                          · exact absurd (by decide) c_226
                · rw [nI_leI (by omega) (by omega)] at c_133
                  rcases (show i = 1 by omega) with rfl
                  · have hbk := cr_ba_lt y 2
                    refine lv_iload_n hx hb dM_takes_136 rfl (lv_at hl 1 rfl) ?_
                    refine lv_bipush (v := nI 24) hx hb dM_takes_137 (by decide) ?_
                    refine lv_bipush (v := nI 8) hx hb dM_takes_139 (by decide) ?_
                    refine lv_iload hx hb dM_takes_141 (lv_at hl 6 rfl) ?_
                    refine lv_imul hx hb dM_takes_143 ?_
                    refine cr_top (y := nI 8) (by decide) ?_
                    refine lv_isub hx hb dM_takes_144 ?_
                    refine cr_top (y := nI 16) (by decide) ?_
                    refine lv_ishr hx hb dM_takes_145 ?_
                    refine lv_sipush (v := nI 255) hx hb dM_takes_146 (by decide) ?_
                    refine lv_iand hx hb dM_takes_149 ?_
                    refine cr_top (y := nI (cr_ba y 2)) (cr_sba y _ 16 (by decide) (by decide)) ?_
                    refine lv_istore (lv' := [(7, .int (nI (cr_ba y 2))), (0, .ref mo), (1, .int y), (2, .int (nI 2)), (3, .int (nI (cr_ba y 1))), (4, .int cv), (5, .int (nI 1)), (6, .int (nI 1))]) hx hb dM_takes_150 hl (by decide) rfl (fun ls hl => ?_)
                    refine lv_iload hx hb dM_takes_152 (lv_at hl 6 rfl) ?_
                    refine lv_if_eq (tgt := 177) hx hb dM_takes_154 (by decide) (fun c_154 => ?_) (fun c_154 => ?_)
                    · exact absurd c_154 (by decide)
                    · refine lv_iload hx hb dM_takes_157 (lv_at hl 0 rfl) ?_
                      refine lv_sipush (v := nI 128) hx hb dM_takes_159 (by decide) ?_
                      refine lv_icmp_lt (tgt := 177) hx hb dM_takes_162 (by decide) (fun c_162 => ?_) (fun c_162 => ?_)
                      · rw [nI_ltI (by omega) (by omega)] at c_162
                        refine lv_iconst (v := nI 0) hx hb dM_takes_177 (by decide) ?_
                        refine lv_istore (lv' := [(5, .int (nI 0)), (7, .int (nI (cr_ba y 2))), (0, .ref mo), (1, .int y), (2, .int (nI 2)), (3, .int (nI (cr_ba y 1))), (4, .int cv), (6, .int (nI 1))]) hx hb dM_takes_178 hl (by decide) rfl (fun ls hl => ?_)
                        refine lv_iload hx hb dM_takes_180 (lv_at hl 6 rfl) ?_
                        refine lv_bipush (v := nI 64) hx hb dM_takes_182 (by decide) ?_
                        refine lv_imul hx hb dM_takes_184 ?_
                        refine lv_iload hx hb dM_takes_185 (lv_at hl 1 rfl) ?_
                        refine lv_bipush (v := nI 63) hx hb dM_takes_187 (by decide) ?_
                        refine lv_iand hx hb dM_takes_189 ?_
                        refine cr_top (y := nI (cr_ba y 2 % 64)) (cr_and63 (by omega)) ?_
                        refine lv_iadd hx hb dM_takes_190 ?_
                        refine lv_istore (lv' := [(4, .int ((cv * (nI 64)) + (nI (cr_ba y 2 % 64)))), (5, .int (nI 0)), (7, .int (nI (cr_ba y 2))), (0, .ref mo), (1, .int y), (2, .int (nI 2)), (3, .int (nI (cr_ba y 1))), (6, .int (nI 1))]) hx hb dM_takes_191 hl (by decide) rfl (fun ls hl => ?_)
                        refine lv_iinc (v := nI 2) (lv' := [(6, .int (nI 2)), (4, .int ((cv * (nI 64)) + (nI (cr_ba y 2 % 64)))), (5, .int (nI 0)), (7, .int (nI (cr_ba y 2))), (0, .ref mo), (1, .int y), (2, .int (nI 2)), (3, .int (nI (cr_ba y 1)))]) hx hb dM_takes_193 hl (k := 7) rfl (by decide) (by decide) rfl (fun ls hl => ?_)
                        refine lv_goto (tgt := 130) hx hb dM_takes_196 (by decide) ?_
                        exact ih130 2 ((cv * (nI 64)) + (nI (cr_ba y 2 % 64))) (nI 0) _ _ _ ⟨⟨by omega, by omega, Or.inr ⟨rfl, cr_gd_n1 (by omega) (show ¬ (128 ≤ cr_ba y 2 ∧ cr_ba y 2 < 192) by omega)⟩, cr_acc_step (by omega) (by omega) hc (cr_acc_in y 2 1 (by omega))⟩, hP, hD, hS, lv_sub hl [4, 5, 6, 7, 1, 2, 0] rfl⟩ (by omega)
                      · rw [nI_ltI (by omega) (by omega)] at c_162
                        refine lv_iload hx hb dM_takes_165 (lv_at hl 0 rfl) ?_
                        refine lv_sipush (v := nI 192) hx hb dM_takes_167 (by decide) ?_
                        refine lv_icmp_ge (tgt := 177) hx hb dM_takes_170 (by decide) (fun c_170 => ?_) (fun c_170 => ?_)
                        · rw [nI_leI (by omega) (by omega)] at c_170
                          refine lv_iconst (v := nI 0) hx hb dM_takes_177 (by decide) ?_
                          refine lv_istore (lv' := [(5, .int (nI 0)), (7, .int (nI (cr_ba y 2))), (0, .ref mo), (1, .int y), (2, .int (nI 2)), (3, .int (nI (cr_ba y 1))), (4, .int cv), (6, .int (nI 1))]) hx hb dM_takes_178 hl (by decide) rfl (fun ls hl => ?_)
                          refine lv_iload hx hb dM_takes_180 (lv_at hl 6 rfl) ?_
                          refine lv_bipush (v := nI 64) hx hb dM_takes_182 (by decide) ?_
                          refine lv_imul hx hb dM_takes_184 ?_
                          refine lv_iload hx hb dM_takes_185 (lv_at hl 1 rfl) ?_
                          refine lv_bipush (v := nI 63) hx hb dM_takes_187 (by decide) ?_
                          refine lv_iand hx hb dM_takes_189 ?_
                          refine cr_top (y := nI (cr_ba y 2 % 64)) (cr_and63 (by omega)) ?_
                          refine lv_iadd hx hb dM_takes_190 ?_
                          refine lv_istore (lv' := [(4, .int ((cv * (nI 64)) + (nI (cr_ba y 2 % 64)))), (5, .int (nI 0)), (7, .int (nI (cr_ba y 2))), (0, .ref mo), (1, .int y), (2, .int (nI 2)), (3, .int (nI (cr_ba y 1))), (6, .int (nI 1))]) hx hb dM_takes_191 hl (by decide) rfl (fun ls hl => ?_)
                          refine lv_iinc (v := nI 2) (lv' := [(6, .int (nI 2)), (4, .int ((cv * (nI 64)) + (nI (cr_ba y 2 % 64)))), (5, .int (nI 0)), (7, .int (nI (cr_ba y 2))), (0, .ref mo), (1, .int y), (2, .int (nI 2)), (3, .int (nI (cr_ba y 1)))]) hx hb dM_takes_193 hl (k := 7) rfl (by decide) (by decide) rfl (fun ls hl => ?_)
                          refine lv_goto (tgt := 130) hx hb dM_takes_196 (by decide) ?_
                          exact ih130 2 ((cv * (nI 64)) + (nI (cr_ba y 2 % 64))) (nI 0) _ _ _ ⟨⟨by omega, by omega, Or.inr ⟨rfl, cr_gd_n1 (by omega) (show ¬ (128 ≤ cr_ba y 2 ∧ cr_ba y 2 < 192) by omega)⟩, cr_acc_step (by omega) (by omega) hc (cr_acc_in y 2 1 (by omega))⟩, hP, hD, hS, lv_sub hl [4, 5, 6, 7, 1, 2, 0] rfl⟩ (by omega)
                        · rw [nI_leI (by omega) (by omega)] at c_170
                          refine lv_iconst (v := nI 1) hx hb dM_takes_173 (by decide) ?_
                          refine lv_goto (tgt := 178) hx hb dM_takes_174 (by decide) ?_
                          refine lv_istore (lv' := [(5, .int (nI 1)), (7, .int (nI (cr_ba y 2))), (0, .ref mo), (1, .int y), (2, .int (nI 2)), (3, .int (nI (cr_ba y 1))), (4, .int cv), (6, .int (nI 1))]) hx hb dM_takes_178 hl (by decide) rfl (fun ls hl => ?_)
                          refine lv_iload hx hb dM_takes_180 (lv_at hl 6 rfl) ?_
                          refine lv_bipush (v := nI 64) hx hb dM_takes_182 (by decide) ?_
                          refine lv_imul hx hb dM_takes_184 ?_
                          refine lv_iload hx hb dM_takes_185 (lv_at hl 1 rfl) ?_
                          refine lv_bipush (v := nI 63) hx hb dM_takes_187 (by decide) ?_
                          refine lv_iand hx hb dM_takes_189 ?_
                          refine cr_top (y := nI (cr_ba y 2 % 64)) (cr_and63 (by omega)) ?_
                          refine lv_iadd hx hb dM_takes_190 ?_
                          refine lv_istore (lv' := [(4, .int ((cv * (nI 64)) + (nI (cr_ba y 2 % 64)))), (5, .int (nI 1)), (7, .int (nI (cr_ba y 2))), (0, .ref mo), (1, .int y), (2, .int (nI 2)), (3, .int (nI (cr_ba y 1))), (6, .int (nI 1))]) hx hb dM_takes_191 hl (by decide) rfl (fun ls hl => ?_)
                          refine lv_iinc (v := nI 2) (lv' := [(6, .int (nI 2)), (4, .int ((cv * (nI 64)) + (nI (cr_ba y 2 % 64)))), (5, .int (nI 1)), (7, .int (nI (cr_ba y 2))), (0, .ref mo), (1, .int y), (2, .int (nI 2)), (3, .int (nI (cr_ba y 1)))]) hx hb dM_takes_193 hl (k := 7) rfl (by decide) (by decide) rfl (fun ls hl => ?_)
                          refine lv_goto (tgt := 130) hx hb dM_takes_196 (by decide) ?_
                          exact ih130 2 ((cv * (nI 64)) + (nI (cr_ba y 2 % 64))) (nI 1) _ _ _ ⟨⟨by omega, by omega, Or.inl ⟨rfl, cr_gd_s hg (show 128 ≤ cr_ba y 2 ∧ cr_ba y 2 < 192 by omega)⟩, cr_acc_step (by omega) (by omega) hc (cr_acc_in y 2 1 (by omega))⟩, hP, hD, hS, lv_sub hl [4, 5, 6, 7, 1, 2, 0] rfl⟩ (by omega)
              · refine lv_iload hx hb dM_takes_130 (lv_at hl 6 rfl) ?_
                refine lv_iload_n hx hb dM_takes_132 rfl (lv_at hl 2 rfl) ?_
                refine lv_icmp_ge (tgt := 199) hx hb dM_takes_133 (by decide) (fun c_133 => ?_) (fun c_133 => ?_)
                · rw [nI_leI (by omega) (by omega)] at c_133
                  refine lv_iload hx hb dM_takes_199 (lv_at hl 5 rfl) ?_
                  refine lv_if_eq (tgt := 233) hx hb dM_takes_201 (by decide) (fun c_201 => ?_) (fun c_201 => ?_)
                  · refine lv_iconst (v := nI 0) hx hb dM_takes_233 (by decide) ?_
                    exact W.zret (v := nI 0) (ty := .boolean) hx hb hr (by first | rfl | decide) (fun t9 ht9 hW9 => ⟨⟨nI 0, [(mo, .inr (2, [.int (nI 0), .ref l1, .ref l2, .int (nI n), .ref l3, .ref l4, .int (nI nk), .ref l5, .ref l6, .int (nI mn), .ref l7, .ref l8, .ref l9, .int by0, .int fd])), (l1, .inl (cI, 2400, .inl f)), (l2, .inl (cI, 2400, .inl g)), (l3, .inl (cI, 2400, .inl kf)), (l4, .inl (cI, 2400, .inl kg)), (l5, .inl (cI, 4800, .inl ef)), (l6, .inl (cI, 4800, .inl eg)), (l7, .inl (cZ, 1120, .inl mt)), (l8, .inl (cI, 4, .inl fr)), (l9, .inl (cI, 4, .inl tt))], rfl, ⟨rfl, Or.inr ⟨rfl, fun h => hg (by rw [show i = 2 from (by omega)]; exact cr_Tk_gd hSet (by omega) (by omega) h)⟩⟩, by rw [ht9]; exact hP, va_K.moved hW9.alike hK, hD⟩, hS.F ht9⟩) hS.2.2 dM_takes_234
                  · exact absurd (by decide) c_201
                · rw [nI_leI (by omega) (by omega)] at c_133
                  rcases (show i = 1 by omega) with rfl
                  · have hbk := cr_ba_lt y 2
                    refine lv_iload_n hx hb dM_takes_136 rfl (lv_at hl 1 rfl) ?_
                    refine lv_bipush (v := nI 24) hx hb dM_takes_137 (by decide) ?_
                    refine lv_bipush (v := nI 8) hx hb dM_takes_139 (by decide) ?_
                    refine lv_iload hx hb dM_takes_141 (lv_at hl 6 rfl) ?_
                    refine lv_imul hx hb dM_takes_143 ?_
                    refine cr_top (y := nI 8) (by decide) ?_
                    refine lv_isub hx hb dM_takes_144 ?_
                    refine cr_top (y := nI 16) (by decide) ?_
                    refine lv_ishr hx hb dM_takes_145 ?_
                    refine lv_sipush (v := nI 255) hx hb dM_takes_146 (by decide) ?_
                    refine lv_iand hx hb dM_takes_149 ?_
                    refine cr_top (y := nI (cr_ba y 2)) (cr_sba y _ 16 (by decide) (by decide)) ?_
                    refine lv_istore (lv' := [(7, .int (nI (cr_ba y 2))), (0, .ref mo), (1, .int y), (2, .int (nI 2)), (3, .int (nI (cr_ba y 1))), (4, .int cv), (5, .int (nI 0)), (6, .int (nI 1))]) hx hb dM_takes_150 hl (by decide) rfl (fun ls hl => ?_)
                    refine lv_iload hx hb dM_takes_152 (lv_at hl 6 rfl) ?_
                    refine lv_if_eq (tgt := 177) hx hb dM_takes_154 (by decide) (fun c_154 => ?_) (fun c_154 => ?_)
                    · refine lv_iconst (v := nI 0) hx hb dM_takes_177 (by decide) ?_
                      refine lv_istore (lv' := [(5, .int (nI 0)), (7, .int (nI (cr_ba y 2))), (0, .ref mo), (1, .int y), (2, .int (nI 2)), (3, .int (nI (cr_ba y 1))), (4, .int cv), (6, .int (nI 1))]) hx hb dM_takes_178 hl (by decide) rfl (fun ls hl => ?_)
                      refine lv_iload hx hb dM_takes_180 (lv_at hl 6 rfl) ?_
                      refine lv_bipush (v := nI 64) hx hb dM_takes_182 (by decide) ?_
                      refine lv_imul hx hb dM_takes_184 ?_
                      refine lv_iload hx hb dM_takes_185 (lv_at hl 1 rfl) ?_
                      refine lv_bipush (v := nI 63) hx hb dM_takes_187 (by decide) ?_
                      refine lv_iand hx hb dM_takes_189 ?_
                      refine cr_top (y := nI (cr_ba y 2 % 64)) (cr_and63 (by omega)) ?_
                      refine lv_iadd hx hb dM_takes_190 ?_
                      refine lv_istore (lv' := [(4, .int ((cv * (nI 64)) + (nI (cr_ba y 2 % 64)))), (5, .int (nI 0)), (7, .int (nI (cr_ba y 2))), (0, .ref mo), (1, .int y), (2, .int (nI 2)), (3, .int (nI (cr_ba y 1))), (6, .int (nI 1))]) hx hb dM_takes_191 hl (by decide) rfl (fun ls hl => ?_)
                      refine lv_iinc (v := nI 2) (lv' := [(6, .int (nI 2)), (4, .int ((cv * (nI 64)) + (nI (cr_ba y 2 % 64)))), (5, .int (nI 0)), (7, .int (nI (cr_ba y 2))), (0, .ref mo), (1, .int y), (2, .int (nI 2)), (3, .int (nI (cr_ba y 1)))]) hx hb dM_takes_193 hl (k := 7) rfl (by decide) (by decide) rfl (fun ls hl => ?_)
                      refine lv_goto (tgt := 130) hx hb dM_takes_196 (by decide) ?_
                      exact ih130 2 ((cv * (nI 64)) + (nI (cr_ba y 2 % 64))) (nI 0) _ _ _ ⟨⟨by omega, by omega, Or.inr ⟨rfl, cr_gd_n0 hg⟩, cr_acc_step (by omega) (by omega) hc (cr_acc_in y 2 1 (by omega))⟩, hP, hD, hS, lv_sub hl [4, 5, 6, 7, 1, 2, 0] rfl⟩ (by omega)
                    · exact absurd (by decide) c_154
            · refine lv_iload_n hx hb dM_takes_68 rfl (lv_at hl 4 rfl) ?_
              refine lv_iconst (v := nI 1) hx hb dM_takes_69 (by decide) ?_
              refine lv_icmp_ne (tgt := 88) hx hb dM_takes_70 (by decide) (fun c_70 => ?_) (fun c_70 => ?_)
              · refine lv_iload hx hb dM_takes_88 (lv_at hl 0 rfl) ?_
                refine lv_if_lt (tgt := 124) hx hb dM_takes_90 (by decide) (fun c_90 => ?_) (fun c_90 => ?_)
                · rw [cr_lt0] at c_90
                  refine lv_iconst (v := nI 0) hx hb dM_takes_124 (by decide) ?_
                  refine lv_istore (lv' := [(5, .int (nI 0)), (4, .int cv0), (3, .int (nI (cr_ba y 1))), (0, .ref mo), (1, .int y), (2, .int (nI 2))]) hx hb dM_takes_125 hl (by decide) rfl (fun ls hl => ?_)
                  exact jn127 (nI 0) _ _ _ ⟨Or.inr ⟨rfl, cr_ngd_1 (show ¬ (192 ≤ cr_ba y 1 ∧ cr_ba y 1 < 192 + 32) by omega)⟩, hP, hD, hS, lv_sub hl [3, 4, 5, 2, 1, 0] rfl⟩
                · rw [cr_lt0] at c_90
                  refine lv_iload hx hb dM_takes_93 (lv_at hl 0 rfl) ?_
                  refine lv_iload_n hx hb dM_takes_95 rfl (lv_at hl 4 rfl) ?_
                  refine lv_iconst (v := nI 2) hx hb dM_takes_96 (by decide) ?_
                  refine lv_icmp_ne (tgt := 105) hx hb dM_takes_97 (by decide) (fun c_97 => ?_) (fun c_97 => ?_)
                  · exact absurd (by decide) c_97
                  · refine lv_bipush (v := nI 32) hx hb dM_takes_100 (by decide) ?_
                    refine lv_goto (tgt := 117) hx hb dM_takes_102 (by decide) ?_
                    refine lv_icmp_ge (tgt := 124) hx hb dM_takes_117 (by decide) (fun c_117 => ?_) (fun c_117 => ?_)
                    · rw [cr_nle' (by omega)] at c_117
                      refine lv_iconst (v := nI 0) hx hb dM_takes_124 (by decide) ?_
                      refine lv_istore (lv' := [(5, .int (nI 0)), (4, .int cv0), (3, .int (nI (cr_ba y 1))), (0, .ref mo), (1, .int y), (2, .int (nI 2))]) hx hb dM_takes_125 hl (by decide) rfl (fun ls hl => ?_)
                      exact jn127 (nI 0) _ _ _ ⟨Or.inr ⟨rfl, cr_ngd_1 (show ¬ (192 ≤ cr_ba y 1 ∧ cr_ba y 1 < 192 + 32) by omega)⟩, hP, hD, hS, lv_sub hl [3, 4, 5, 2, 1, 0] rfl⟩
                    · rw [cr_nle' (by omega)] at c_117
                      refine lv_iconst (v := nI 1) hx hb dM_takes_120 (by decide) ?_
                      refine lv_goto (tgt := 125) hx hb dM_takes_121 (by decide) ?_
                      refine lv_istore (lv' := [(5, .int (nI 1)), (4, .int cv0), (3, .int (nI (cr_ba y 1))), (0, .ref mo), (1, .int y), (2, .int (nI 2))]) hx hb dM_takes_125 hl (by decide) rfl (fun ls hl => ?_)
                      exact jn127 (nI 1) _ _ _ ⟨Or.inl ⟨rfl, cr_gd_1 (show 192 ≤ cr_ba y 1 ∧ cr_ba y 1 < 192 + 32 by omega)⟩, hP, hD, hS, lv_sub hl [3, 4, 5, 2, 1, 0] rfl⟩
              · exact absurd c_70 (by decide)
        · exact absurd c_28 (by decide)
      · refine lv_iload_n hx hb dM_takes_17 rfl (lv_at hl 1 rfl) ?_
        refine lv_bipush (v := nI 24) hx hb dM_takes_18 (by decide) ?_
        refine lv_ishr hx hb dM_takes_20 ?_
        refine lv_sipush (v := nI 255) hx hb dM_takes_21 (by decide) ?_
        refine lv_iand hx hb dM_takes_24 ?_
        refine cr_top (y := nI (cr_ba y 1)) (cr_sba y _ 24 (by decide) (by decide)) ?_
        refine lv_istore_n (lv' := [(3, .int (nI (cr_ba y 1))), (0, .ref mo), (1, .int y), (2, .int (nI 3))]) hx hb dM_takes_25 rfl hl (by decide) rfl (fun ls hl => ?_)
        refine lv_iload_n hx hb dM_takes_26 rfl (lv_at hl 3 rfl) ?_
        refine lv_iconst (v := nI 1) hx hb dM_takes_27 (by decide) ?_
        refine lv_icmp_ne (tgt := 35) hx hb dM_takes_28 (by decide) (fun c_28 => ?_) (fun c_28 => ?_)
        · refine lv_iload_n hx hb dM_takes_35 rfl (lv_at hl 3 rfl) ?_
          refine lv_iconst (v := nI 2) hx hb dM_takes_36 (by decide) ?_
          refine lv_icmp_ne (tgt := 48) hx hb dM_takes_37 (by decide) (fun c_37 => ?_) (fun c_37 => ?_)
          · refine lv_iload_n hx hb dM_takes_48 rfl (lv_at hl 3 rfl) ?_
            refine lv_iconst (v := nI 3) hx hb dM_takes_49 (by decide) ?_
            refine lv_icmp_ne (tgt := 61) hx hb dM_takes_50 (by decide) (fun c_50 => ?_) (fun c_50 => ?_)
            · exact absurd (by decide) c_50
            · refine lv_iload_n hx hb dM_takes_53 rfl (lv_at hl 0 rfl) ?_
              refine lv_sipush (v := nI 224) hx hb dM_takes_54 (by decide) ?_
              refine lv_isub hx hb dM_takes_57 ?_
              refine lv_goto (tgt := 66) hx hb dM_takes_58 (by decide) ?_
              obtain ⟨cv0, hcv0⟩ : ∃ q : Int32, q = (nI (cr_ba y 1)) - (nI 224) := ⟨_, rfl⟩
              refine cr_top hcv0.symm ?_
              have hcv : cv0.toInt = (cr_ba y 1 : Int) - (224 : Nat) := by rw [hcv0]; exact pk_sub_toInt (by omega) (by decide)
              refine lv_istore (lv' := [(4, .int cv0), (3, .int (nI (cr_ba y 1))), (0, .ref mo), (1, .int y), (2, .int (nI 3))]) hx hb dM_takes_66 hl (by decide) rfl (fun ls hl => ?_)
              refine cr_cut1 127 [] (fun (gd0 : Int32) H locs ls => (cr_zb gd0 (cr_gd y 3 1)) ∧ va_P (dC, dI) crCl [(mo, .inr (2, [.int (nI 0), .ref l1, .ref l2, .int (nI n), .ref l3, .ref l4, .int (nI nk), .ref l5, .ref l6, .int (nI mn), .ref l7, .ref l8, .ref l9, .int by0, .int fd])), (l1, .inl (cI, 2400, .inl f)), (l2, .inl (cI, 2400, .inl g)), (l3, .inl (cI, 2400, .inl kf)), (l4, .inl (cI, 2400, .inl kg)), (l5, .inl (cI, 4800, .inl ef)), (l6, .inl (cI, 4800, .inl eg)), (l7, .inl (cZ, 1120, .inl mt)), (l8, .inl (cI, 4, .inl fr)), (l9, .inl (cI, 4, .inl tt))] H ∧ va_D A [(mo, .inr (2, [.int (nI 0), .ref l1, .ref l2, .int (nI n), .ref l3, .ref l4, .int (nI nk), .ref l5, .ref l6, .int (nI mn), .ref l7, .ref l8, .ref l9, .int by0, .int fd])), (l1, .inl (cI, 2400, .inl f)), (l2, .inl (cI, 2400, .inl g)), (l3, .inl (cI, 2400, .inl kf)), (l4, .inl (cI, 2400, .inl kg)), (l5, .inl (cI, 4800, .inl ef)), (l6, .inl (cI, 4800, .inl eg)), (l7, .inl (cZ, 1120, .inl mt)), (l8, .inl (cI, 4, .inl fr)), (l9, .inl (cI, 4, .inl tt))] ∧ va_S A s.heap H locs ∧ lv_has ls 8 [(0, .ref mo), (1, .int y), (2, .int (nI 3)), (3, .int (nI (cr_ba y 1))), (4, .int cv0), (5, .int gd0)]) ?_ (fun jn127 => ?_)
              · intro gd0 H locs ls hJ127
                obtain ⟨hz0, hP, hD, hS, hl⟩ := hJ127
                refine lv_iconst (v := nI 1) hx hb dM_takes_127 (by decide) ?_
                refine lv_istore (lv' := [(6, .int (nI 1)), (0, .ref mo), (1, .int y), (2, .int (nI 3)), (3, .int (nI (cr_ba y 1))), (4, .int cv0), (5, .int gd0)]) hx hb dM_takes_128 hl (by decide) rfl (fun ls hl => ?_)
                refine cr_lp3 (fun (i : Nat) (cv : Int32) (gd : Int32) => 4 - i) (fun (i : Nat) (cv : Int32) (gd : Int32) H locs ls => (1 ≤ i ∧ i ≤ 3 ∧ cr_zb gd (cr_gd y 3 i) ∧ cv.toInt = cr_acc y 3 i) ∧ va_P (dC, dI) crCl [(mo, .inr (2, [.int (nI 0), .ref l1, .ref l2, .int (nI n), .ref l3, .ref l4, .int (nI nk), .ref l5, .ref l6, .int (nI mn), .ref l7, .ref l8, .ref l9, .int by0, .int fd])), (l1, .inl (cI, 2400, .inl f)), (l2, .inl (cI, 2400, .inl g)), (l3, .inl (cI, 2400, .inl kf)), (l4, .inl (cI, 2400, .inl kg)), (l5, .inl (cI, 4800, .inl ef)), (l6, .inl (cI, 4800, .inl eg)), (l7, .inl (cZ, 1120, .inl mt)), (l8, .inl (cI, 4, .inl fr)), (l9, .inl (cI, 4, .inl tt))] H ∧ va_D A [(mo, .inr (2, [.int (nI 0), .ref l1, .ref l2, .int (nI n), .ref l3, .ref l4, .int (nI nk), .ref l5, .ref l6, .int (nI mn), .ref l7, .ref l8, .ref l9, .int by0, .int fd])), (l1, .inl (cI, 2400, .inl f)), (l2, .inl (cI, 2400, .inl g)), (l3, .inl (cI, 2400, .inl kf)), (l4, .inl (cI, 2400, .inl kg)), (l5, .inl (cI, 4800, .inl ef)), (l6, .inl (cI, 4800, .inl eg)), (l7, .inl (cZ, 1120, .inl mt)), (l8, .inl (cI, 4, .inl fr)), (l9, .inl (cI, 4, .inl tt))] ∧ va_S A s.heap H locs ∧ lv_has ls 8 [(0, .ref mo), (1, .int y), (2, .int (nI 3)), (3, .int (nI (cr_ba y 1))), (4, .int cv), (5, .int gd), (6, .int (nI i))]) ?_ 1 cv0 gd0 ⟨⟨Nat.le_refl _, by omega, hz0, hcv⟩, hP, hD, hS, lv_sub hl [1, 2, 3, 4, 5, 6, 0] rfl⟩
                intro i cv gd H locs ls hI130 ih130
                obtain ⟨⟨h1, h2, hz, hc⟩, hP, hD, hS, hl⟩ := hI130
                rcases hz with ⟨rfl, hg⟩ | ⟨rfl, hg⟩
                · refine lv_iload hx hb dM_takes_130 (lv_at hl 6 rfl) ?_
                  refine lv_iload_n hx hb dM_takes_132 rfl (lv_at hl 2 rfl) ?_
                  refine lv_icmp_ge (tgt := 199) hx hb dM_takes_133 (by decide) (fun c_133 => ?_) (fun c_133 => ?_)
                  · rw [nI_leI (by omega) (by omega)] at c_133
                    refine lv_iload hx hb dM_takes_199 (lv_at hl 5 rfl) ?_
                    refine lv_if_eq (tgt := 233) hx hb dM_takes_201 (by decide) (fun c_201 => ?_) (fun c_201 => ?_)
                    · exact absurd c_201 (by decide)
                    · have hin : i = 3 := by omega
                      subst hin
                      rw [cr_acc_dec (by omega) (by omega) hg.1] at hc
                      obtain rfl : cv = nI (cr_dec y 3) := (cr_eqn (by have := cr_dec_lt y 3; omega)).2 hc
                      have hdl := cr_dec_lt y 3
                      refine lv_iload hx hb dM_takes_204 (lv_at hl 4 rfl) ?_
                      refine lv_ldc (v := nI 1114111) hx hb hown (hts (.constant RX2 52 (nI 1114111)) (by decide +kernel)) dM_takes_206 ?_
                      refine lv_icmp_gt (tgt := 233) hx hb dM_takes_208 (by decide) (fun c_208 => ?_) (fun c_208 => ?_)
                      · rw [nI_ltI (by omega) (by omega)] at c_208
                        refine lv_iconst (v := nI 0) hx hb dM_takes_233 (by decide) ?_
                        exact W.zret (v := nI 0) (ty := .boolean) hx hb hr (by first | rfl | decide) (fun t9 ht9 hW9 => ⟨⟨nI 0, [(mo, .inr (2, [.int (nI 0), .ref l1, .ref l2, .int (nI n), .ref l3, .ref l4, .int (nI nk), .ref l5, .ref l6, .int (nI mn), .ref l7, .ref l8, .ref l9, .int by0, .int fd])), (l1, .inl (cI, 2400, .inl f)), (l2, .inl (cI, 2400, .inl g)), (l3, .inl (cI, 2400, .inl kf)), (l4, .inl (cI, 2400, .inl kg)), (l5, .inl (cI, 4800, .inl ef)), (l6, .inl (cI, 4800, .inl eg)), (l7, .inl (cZ, 1120, .inl mt)), (l8, .inl (cI, 4, .inl fr)), (l9, .inl (cI, 4, .inl tt))], rfl, ⟨rfl, Or.inr ⟨rfl, fun h => absurd (hSet.char (cr_Tk_S hSet (by omega) (by omega) h)).1 (by omega)⟩⟩, by rw [ht9]; exact hP, va_K.moved hW9.alike hK, hD⟩, hS.F ht9⟩) hS.2.2 dM_takes_234
                      · rw [nI_ltI (by omega) (by omega)] at c_208
                        refine lv_iload hx hb dM_takes_211 (lv_at hl 4 rfl) ?_
                        have hPc := hP.sub (ws' := []) [] rfl
                        have hDc := hD.sub (ws' := []) [] (by decide) rfl
                        have hFc := va_free (wc := []) hD hS hA [] rfl
                        refine va_calli (va_runS (As := [.int (nI (cr_dec y 3))]) (rest := []) ⟨hx, hb, hml, hown, hts⟩ (m_length l dC dI _ (cr_dec y 3) (by omega)) (va_cwS 1 hts gM_takes_M_length rfl rfl rfl (by decide +kernel) ⟨Nat.le_of_ble_eq_true rfl, Nat.le_of_ble_eq_true rfl⟩) (cr_preS hPc (hK.sub (tys' := []) [] rfl) hDc) rfl rfl hl.1 rfl (lv_room (Nat.le_of_ble_eq_true rfl)) dM_takes_213 ⟨Nat.zero_le _, Nat.zero_le _⟩) hS (fun q _ h => hFc q h) hFc (fun r_213 u_213 t_213 H_213 locs ht_213 hvm_213 hw_213 hB_213 hz_213 hk_213 hS => ?_)
                        obtain ⟨rfl, rfl⟩ := hw_213
                        obtain ⟨hP, hD⟩ := cr_back (wr := [(mo, .inr (2, [.int (nI 0), .ref l1, .ref l2, .int (nI n), .ref l3, .ref l4, .int (nI nk), .ref l5, .ref l6, .int (nI mn), .ref l7, .ref l8, .ref l9, .int by0, .int fd])), (l1, .inl (cI, 2400, .inl f)), (l2, .inl (cI, 2400, .inl g)), (l3, .inl (cI, 2400, .inl kf)), (l4, .inl (cI, 2400, .inl kg)), (l5, .inl (cI, 4800, .inl ef)), (l6, .inl (cI, 4800, .inl eg)), (l7, .inl (cZ, 1120, .inl mt)), (l8, .inl (cI, 4, .inl fr)), (l9, .inl (cI, 4, .inl tt))]) (w1 := []) hP hD [] [0, 1, 2, 3, 4, 5, 6, 7, 8, 9] rfl rfl (by decide) (by decide) hk_213 hFc hB_213 ht_213
                        clear hPc hDc hFc
                        generalize H_213 = H at hP hS ⊢
                        have hP := hP.sub (ws' := [(mo, .inr (2, [.int (nI 0), .ref l1, .ref l2, .int (nI n), .ref l3, .ref l4, .int (nI nk), .ref l5, .ref l6, .int (nI mn), .ref l7, .ref l8, .ref l9, .int by0, .int fd])), (l1, .inl (cI, 2400, .inl f)), (l2, .inl (cI, 2400, .inl g)), (l3, .inl (cI, 2400, .inl kf)), (l4, .inl (cI, 2400, .inl kg)), (l5, .inl (cI, 4800, .inl ef)), (l6, .inl (cI, 4800, .inl eg)), (l7, .inl (cZ, 1120, .inl mt)), (l8, .inl (cI, 4, .inl fr)), (l9, .inl (cI, 4, .inl tt))]) [0, 1, 2, 3, 4, 5, 6, 7, 8, 9] rfl
                        have hD := hD.sub (ws' := [(mo, .inr (2, [.int (nI 0), .ref l1, .ref l2, .int (nI n), .ref l3, .ref l4, .int (nI nk), .ref l5, .ref l6, .int (nI mn), .ref l7, .ref l8, .ref l9, .int by0, .int fd])), (l1, .inl (cI, 2400, .inl f)), (l2, .inl (cI, 2400, .inl g)), (l3, .inl (cI, 2400, .inl kf)), (l4, .inl (cI, 2400, .inl kg)), (l5, .inl (cI, 4800, .inl ef)), (l6, .inl (cI, 4800, .inl eg)), (l7, .inl (cZ, 1120, .inl mt)), (l8, .inl (cI, 4, .inl fr)), (l9, .inl (cI, 4, .inl tt))]) [0, 1, 2, 3, 4, 5, 6, 7, 8, 9] (by decide) rfl
                        refine lv_iload_n hx hb dM_takes_216 rfl (lv_at hl 2 rfl) ?_
                        refine lv_icmp_ne (tgt := 233) hx hb dM_takes_217 (by decide) (fun c_217 => ?_) (fun c_217 => ?_)
                        · have hl9 := cr_len_le (cr_dec y 3)
                          rw [nI_eq (by omega) (by omega)] at c_217
                          refine lv_iconst (v := nI 0) hx hb dM_takes_233 (by decide) ?_
                          exact W.zret (v := nI 0) (ty := .boolean) hx hb hr (by first | rfl | decide) (fun t9 ht9 hW9 => ⟨⟨nI 0, [(mo, .inr (2, [.int (nI 0), .ref l1, .ref l2, .int (nI n), .ref l3, .ref l4, .int (nI nk), .ref l5, .ref l6, .int (nI mn), .ref l7, .ref l8, .ref l9, .int by0, .int fd])), (l1, .inl (cI, 2400, .inl f)), (l2, .inl (cI, 2400, .inl g)), (l3, .inl (cI, 2400, .inl kf)), (l4, .inl (cI, 2400, .inl kg)), (l5, .inl (cI, 4800, .inl ef)), (l6, .inl (cI, 4800, .inl eg)), (l7, .inl (cZ, 1120, .inl mt)), (l8, .inl (cI, 4, .inl fr)), (l9, .inl (cI, 4, .inl tt))], rfl, ⟨rfl, Or.inr ⟨rfl, fun h => c_217 (cr_Tk_len hSet (by omega) (by omega) h)⟩⟩, by rw [ht9]; exact hP, va_K.moved hW9.alike hK, hD⟩, hS.F ht9⟩) hS.2.2 dM_takes_234
                        · have hl9 := cr_len_le (cr_dec y 3)
                          rw [nI_eq (by omega) (by omega)] at c_217
                          refine lv_aload_n hx hb dM_takes_220 rfl (lv_at hl 0 rfl) ?_
                          refine lv_iload hx hb dM_takes_221 (lv_at hl 4 rfl) ?_
                          have hPc := hP.sub (ws' := [(mo, .inr (2, [.int (nI 0), .ref l1, .ref l2, .int (nI n), .ref l3, .ref l4, .int (nI nk), .ref l5, .ref l6, .int (nI mn), .ref l7, .ref l8, .ref l9, .int by0, .int fd])), (l1, .inl (cI, 2400, .inl f)), (l2, .inl (cI, 2400, .inl g)), (l3, .inl (cI, 2400, .inl kf)), (l4, .inl (cI, 2400, .inl kg)), (l5, .inl (cI, 4800, .inl ef)), (l6, .inl (cI, 4800, .inl eg)), (l7, .inl (cZ, 1120, .inl mt)), (l8, .inl (cI, 4, .inl fr)), (l9, .inl (cI, 4, .inl tt))]) [0, 1, 2, 3, 4, 5, 6, 7, 8, 9] rfl
                          have hDc := hD.sub (ws' := [(mo, .inr (2, [.int (nI 0), .ref l1, .ref l2, .int (nI n), .ref l3, .ref l4, .int (nI nk), .ref l5, .ref l6, .int (nI mn), .ref l7, .ref l8, .ref l9, .int by0, .int fd])), (l1, .inl (cI, 2400, .inl f)), (l2, .inl (cI, 2400, .inl g)), (l3, .inl (cI, 2400, .inl kf)), (l4, .inl (cI, 2400, .inl kg)), (l5, .inl (cI, 4800, .inl ef)), (l6, .inl (cI, 4800, .inl eg)), (l7, .inl (cZ, 1120, .inl mt)), (l8, .inl (cI, 4, .inl fr)), (l9, .inl (cI, 4, .inl tt))]) [0, 1, 2, 3, 4, 5, 6, 7, 8, 9] (by decide) rfl
                          have hFc := va_free (wc := [(mo, .inr (2, [.int (nI 0), .ref l1, .ref l2, .int (nI n), .ref l3, .ref l4, .int (nI nk), .ref l5, .ref l6, .int (nI mn), .ref l7, .ref l8, .ref l9, .int by0, .int fd])), (l1, .inl (cI, 2400, .inl f)), (l2, .inl (cI, 2400, .inl g)), (l3, .inl (cI, 2400, .inl kf)), (l4, .inl (cI, 2400, .inl kg)), (l5, .inl (cI, 4800, .inl ef)), (l6, .inl (cI, 4800, .inl eg)), (l7, .inl (cZ, 1120, .inl mt)), (l8, .inl (cI, 4, .inl fr)), (l9, .inl (cI, 4, .inl tt))]) hD hS hA [0, 1, 2, 3, 4, 5, 6, 7, 8, 9] rfl
                          refine va_calli (va_runV (As := [.int (nI (cr_dec y 3))]) (rest := []) ⟨hx, hb, hml, hown, hts⟩ (m_isIn l dC dI _ mo l1 l2 l3 l4 l5 l6 l7 l8 l9 cI cZ (nI 0) by0 fd n nk mn f g kf kg ef eg mt fr tt S hSet hn (nI (cr_dec y 3))) (cwV 1 hts gM_takes_M_isIn rfl rfl rfl (by decide +kernel) ⟨Nat.le_of_ble_eq_true rfl, Nat.le_of_ble_eq_true rfl⟩) (cr_preV hPc hK hDc (ci := 2) (q0 := 0) rfl rfl) rfl rfl hl.1 rfl (lv_room (Nat.le_of_ble_eq_true rfl)) dM_takes_223 ⟨Nat.zero_le _, Nat.zero_le _⟩) hS (fun q _ h => hFc q h) hFc (fun r_223 u_223 t_223 H_223 locs ht_223 hvm_223 hw_223 hB_223 hz_223 hk_223 hS => ?_)
                          obtain ⟨rfl, hzi⟩ := hw_223
                          rw [cr_Hs_big hSet (by omega)] at hzi
                          obtain ⟨hP, hD⟩ := cr_back (wr := []) (w1 := [(mo, .inr (2, [.int (nI 0), .ref l1, .ref l2, .int (nI n), .ref l3, .ref l4, .int (nI nk), .ref l5, .ref l6, .int (nI mn), .ref l7, .ref l8, .ref l9, .int by0, .int fd])), (l1, .inl (cI, 2400, .inl f)), (l2, .inl (cI, 2400, .inl g)), (l3, .inl (cI, 2400, .inl kf)), (l4, .inl (cI, 2400, .inl kg)), (l5, .inl (cI, 4800, .inl ef)), (l6, .inl (cI, 4800, .inl eg)), (l7, .inl (cZ, 1120, .inl mt)), (l8, .inl (cI, 4, .inl fr)), (l9, .inl (cI, 4, .inl tt))]) hP hD [0, 1, 2, 3, 4, 5, 6, 7, 8, 9] [] rfl rfl (by decide) (by decide) hk_223 hFc hB_223 ht_223
                          clear hPc hDc hFc
                          generalize H_223 = H at hP hS ⊢
                          have hP := hP.sub (ws' := [(mo, .inr (2, [.int (nI 0), .ref l1, .ref l2, .int (nI n), .ref l3, .ref l4, .int (nI nk), .ref l5, .ref l6, .int (nI mn), .ref l7, .ref l8, .ref l9, .int by0, .int fd])), (l1, .inl (cI, 2400, .inl f)), (l2, .inl (cI, 2400, .inl g)), (l3, .inl (cI, 2400, .inl kf)), (l4, .inl (cI, 2400, .inl kg)), (l5, .inl (cI, 4800, .inl ef)), (l6, .inl (cI, 4800, .inl eg)), (l7, .inl (cZ, 1120, .inl mt)), (l8, .inl (cI, 4, .inl fr)), (l9, .inl (cI, 4, .inl tt))]) [0, 1, 2, 3, 4, 5, 6, 7, 8, 9] rfl
                          have hD := hD.sub (ws' := [(mo, .inr (2, [.int (nI 0), .ref l1, .ref l2, .int (nI n), .ref l3, .ref l4, .int (nI nk), .ref l5, .ref l6, .int (nI mn), .ref l7, .ref l8, .ref l9, .int by0, .int fd])), (l1, .inl (cI, 2400, .inl f)), (l2, .inl (cI, 2400, .inl g)), (l3, .inl (cI, 2400, .inl kf)), (l4, .inl (cI, 2400, .inl kg)), (l5, .inl (cI, 4800, .inl ef)), (l6, .inl (cI, 4800, .inl eg)), (l7, .inl (cZ, 1120, .inl mt)), (l8, .inl (cI, 4, .inl fr)), (l9, .inl (cI, 4, .inl tt))]) [0, 1, 2, 3, 4, 5, 6, 7, 8, 9] (by decide) rfl
                          rcases hzi with ⟨rfl, hS9⟩ | ⟨rfl, hS9⟩
                          · refine lv_if_eq (tgt := 233) hx hb dM_takes_226 (by decide) (fun c_226 => ?_) (fun c_226 => ?_)
                            · exact absurd c_226 (by decide)
                            · refine lv_iconst (v := nI 1) hx hb dM_takes_229 (by decide) ?_
                              refine lv_goto (tgt := 234) hx hb dM_takes_230 (by decide) ?_
                              exact W.zret (v := nI 1) (ty := .boolean) hx hb hr (by first | rfl | decide) (fun t9 ht9 hW9 => ⟨⟨nI 1, [(mo, .inr (2, [.int (nI 0), .ref l1, .ref l2, .int (nI n), .ref l3, .ref l4, .int (nI nk), .ref l5, .ref l6, .int (nI mn), .ref l7, .ref l8, .ref l9, .int by0, .int fd])), (l1, .inl (cI, 2400, .inl f)), (l2, .inl (cI, 2400, .inl g)), (l3, .inl (cI, 2400, .inl kf)), (l4, .inl (cI, 2400, .inl kg)), (l5, .inl (cI, 4800, .inl ef)), (l6, .inl (cI, 4800, .inl eg)), (l7, .inl (cZ, 1120, .inl mt)), (l8, .inl (cI, 4, .inl fr)), (l9, .inl (cI, 4, .inl tt))], rfl, ⟨rfl, Or.inl ⟨rfl, ⟨3, _, rfl, by omega, by omega, hS9, c_217, cr_gd_by (by omega) (by omega) hg c_217 (by omega)⟩⟩⟩, by rw [ht9]; exact hP, va_K.moved hW9.alike hK, hD⟩, hS.F ht9⟩) hS.2.2 dM_takes_234
                          · refine lv_if_eq (tgt := 233) hx hb dM_takes_226 (by decide) (fun c_226 => ?_) (fun c_226 => ?_)
                            · refine lv_iconst (v := nI 0) hx hb dM_takes_233 (by decide) ?_
                              exact W.zret (v := nI 0) (ty := .boolean) hx hb hr (by first | rfl | decide) (fun t9 ht9 hW9 => ⟨⟨nI 0, [(mo, .inr (2, [.int (nI 0), .ref l1, .ref l2, .int (nI n), .ref l3, .ref l4, .int (nI nk), .ref l5, .ref l6, .int (nI mn), .ref l7, .ref l8, .ref l9, .int by0, .int fd])), (l1, .inl (cI, 2400, .inl f)), (l2, .inl (cI, 2400, .inl g)), (l3, .inl (cI, 2400, .inl kf)), (l4, .inl (cI, 2400, .inl kg)), (l5, .inl (cI, 4800, .inl ef)), (l6, .inl (cI, 4800, .inl eg)), (l7, .inl (cZ, 1120, .inl mt)), (l8, .inl (cI, 4, .inl fr)), (l9, .inl (cI, 4, .inl tt))], rfl, ⟨rfl, Or.inr ⟨rfl, fun h => hS9 (cr_Tk_S hSet (by omega) (by omega) h)⟩⟩, by rw [ht9]; exact hP, va_K.moved hW9.alike hK, hD⟩, hS.F ht9⟩) hS.2.2 dM_takes_234
                            · exact absurd (by decide) c_226
                  · rw [nI_leI (by omega) (by omega)] at c_133
                    rcases (show i = 1 ∨ i = 2 by omega) with rfl | rfl
                    · have hbk := cr_ba_lt y 2
                      refine lv_iload_n hx hb dM_takes_136 rfl (lv_at hl 1 rfl) ?_
                      refine lv_bipush (v := nI 24) hx hb dM_takes_137 (by decide) ?_
                      refine lv_bipush (v := nI 8) hx hb dM_takes_139 (by decide) ?_
                      refine lv_iload hx hb dM_takes_141 (lv_at hl 6 rfl) ?_
                      refine lv_imul hx hb dM_takes_143 ?_
                      refine cr_top (y := nI 8) (by decide) ?_
                      refine lv_isub hx hb dM_takes_144 ?_
                      refine cr_top (y := nI 16) (by decide) ?_
                      refine lv_ishr hx hb dM_takes_145 ?_
                      refine lv_sipush (v := nI 255) hx hb dM_takes_146 (by decide) ?_
                      refine lv_iand hx hb dM_takes_149 ?_
                      refine cr_top (y := nI (cr_ba y 2)) (cr_sba y _ 16 (by decide) (by decide)) ?_
                      refine lv_istore (lv' := [(7, .int (nI (cr_ba y 2))), (0, .ref mo), (1, .int y), (2, .int (nI 3)), (3, .int (nI (cr_ba y 1))), (4, .int cv), (5, .int (nI 1)), (6, .int (nI 1))]) hx hb dM_takes_150 hl (by decide) rfl (fun ls hl => ?_)
                      refine lv_iload hx hb dM_takes_152 (lv_at hl 6 rfl) ?_
                      refine lv_if_eq (tgt := 177) hx hb dM_takes_154 (by decide) (fun c_154 => ?_) (fun c_154 => ?_)
                      · exact absurd c_154 (by decide)
                      · refine lv_iload hx hb dM_takes_157 (lv_at hl 0 rfl) ?_
                        refine lv_sipush (v := nI 128) hx hb dM_takes_159 (by decide) ?_
                        refine lv_icmp_lt (tgt := 177) hx hb dM_takes_162 (by decide) (fun c_162 => ?_) (fun c_162 => ?_)
                        · rw [nI_ltI (by omega) (by omega)] at c_162
                          refine lv_iconst (v := nI 0) hx hb dM_takes_177 (by decide) ?_
                          refine lv_istore (lv' := [(5, .int (nI 0)), (7, .int (nI (cr_ba y 2))), (0, .ref mo), (1, .int y), (2, .int (nI 3)), (3, .int (nI (cr_ba y 1))), (4, .int cv), (6, .int (nI 1))]) hx hb dM_takes_178 hl (by decide) rfl (fun ls hl => ?_)
                          refine lv_iload hx hb dM_takes_180 (lv_at hl 6 rfl) ?_
                          refine lv_bipush (v := nI 64) hx hb dM_takes_182 (by decide) ?_
                          refine lv_imul hx hb dM_takes_184 ?_
                          refine lv_iload hx hb dM_takes_185 (lv_at hl 1 rfl) ?_
                          refine lv_bipush (v := nI 63) hx hb dM_takes_187 (by decide) ?_
                          refine lv_iand hx hb dM_takes_189 ?_
                          refine cr_top (y := nI (cr_ba y 2 % 64)) (cr_and63 (by omega)) ?_
                          refine lv_iadd hx hb dM_takes_190 ?_
                          refine lv_istore (lv' := [(4, .int ((cv * (nI 64)) + (nI (cr_ba y 2 % 64)))), (5, .int (nI 0)), (7, .int (nI (cr_ba y 2))), (0, .ref mo), (1, .int y), (2, .int (nI 3)), (3, .int (nI (cr_ba y 1))), (6, .int (nI 1))]) hx hb dM_takes_191 hl (by decide) rfl (fun ls hl => ?_)
                          refine lv_iinc (v := nI 2) (lv' := [(6, .int (nI 2)), (4, .int ((cv * (nI 64)) + (nI (cr_ba y 2 % 64)))), (5, .int (nI 0)), (7, .int (nI (cr_ba y 2))), (0, .ref mo), (1, .int y), (2, .int (nI 3)), (3, .int (nI (cr_ba y 1)))]) hx hb dM_takes_193 hl (k := 7) rfl (by decide) (by decide) rfl (fun ls hl => ?_)
                          refine lv_goto (tgt := 130) hx hb dM_takes_196 (by decide) ?_
                          exact ih130 2 ((cv * (nI 64)) + (nI (cr_ba y 2 % 64))) (nI 0) _ _ _ ⟨⟨by omega, by omega, Or.inr ⟨rfl, cr_gd_n1 (by omega) (show ¬ (128 ≤ cr_ba y 2 ∧ cr_ba y 2 < 192) by omega)⟩, cr_acc_step (by omega) (by omega) hc (cr_acc_in y 3 1 (by omega))⟩, hP, hD, hS, lv_sub hl [4, 5, 6, 7, 1, 2, 0] rfl⟩ (by omega)
                        · rw [nI_ltI (by omega) (by omega)] at c_162
                          refine lv_iload hx hb dM_takes_165 (lv_at hl 0 rfl) ?_
                          refine lv_sipush (v := nI 192) hx hb dM_takes_167 (by decide) ?_
                          refine lv_icmp_ge (tgt := 177) hx hb dM_takes_170 (by decide) (fun c_170 => ?_) (fun c_170 => ?_)
                          · rw [nI_leI (by omega) (by omega)] at c_170
                            refine lv_iconst (v := nI 0) hx hb dM_takes_177 (by decide) ?_
                            refine lv_istore (lv' := [(5, .int (nI 0)), (7, .int (nI (cr_ba y 2))), (0, .ref mo), (1, .int y), (2, .int (nI 3)), (3, .int (nI (cr_ba y 1))), (4, .int cv), (6, .int (nI 1))]) hx hb dM_takes_178 hl (by decide) rfl (fun ls hl => ?_)
                            refine lv_iload hx hb dM_takes_180 (lv_at hl 6 rfl) ?_
                            refine lv_bipush (v := nI 64) hx hb dM_takes_182 (by decide) ?_
                            refine lv_imul hx hb dM_takes_184 ?_
                            refine lv_iload hx hb dM_takes_185 (lv_at hl 1 rfl) ?_
                            refine lv_bipush (v := nI 63) hx hb dM_takes_187 (by decide) ?_
                            refine lv_iand hx hb dM_takes_189 ?_
                            refine cr_top (y := nI (cr_ba y 2 % 64)) (cr_and63 (by omega)) ?_
                            refine lv_iadd hx hb dM_takes_190 ?_
                            refine lv_istore (lv' := [(4, .int ((cv * (nI 64)) + (nI (cr_ba y 2 % 64)))), (5, .int (nI 0)), (7, .int (nI (cr_ba y 2))), (0, .ref mo), (1, .int y), (2, .int (nI 3)), (3, .int (nI (cr_ba y 1))), (6, .int (nI 1))]) hx hb dM_takes_191 hl (by decide) rfl (fun ls hl => ?_)
                            refine lv_iinc (v := nI 2) (lv' := [(6, .int (nI 2)), (4, .int ((cv * (nI 64)) + (nI (cr_ba y 2 % 64)))), (5, .int (nI 0)), (7, .int (nI (cr_ba y 2))), (0, .ref mo), (1, .int y), (2, .int (nI 3)), (3, .int (nI (cr_ba y 1)))]) hx hb dM_takes_193 hl (k := 7) rfl (by decide) (by decide) rfl (fun ls hl => ?_)
                            refine lv_goto (tgt := 130) hx hb dM_takes_196 (by decide) ?_
                            exact ih130 2 ((cv * (nI 64)) + (nI (cr_ba y 2 % 64))) (nI 0) _ _ _ ⟨⟨by omega, by omega, Or.inr ⟨rfl, cr_gd_n1 (by omega) (show ¬ (128 ≤ cr_ba y 2 ∧ cr_ba y 2 < 192) by omega)⟩, cr_acc_step (by omega) (by omega) hc (cr_acc_in y 3 1 (by omega))⟩, hP, hD, hS, lv_sub hl [4, 5, 6, 7, 1, 2, 0] rfl⟩ (by omega)
                          · rw [nI_leI (by omega) (by omega)] at c_170
                            refine lv_iconst (v := nI 1) hx hb dM_takes_173 (by decide) ?_
                            refine lv_goto (tgt := 178) hx hb dM_takes_174 (by decide) ?_
                            refine lv_istore (lv' := [(5, .int (nI 1)), (7, .int (nI (cr_ba y 2))), (0, .ref mo), (1, .int y), (2, .int (nI 3)), (3, .int (nI (cr_ba y 1))), (4, .int cv), (6, .int (nI 1))]) hx hb dM_takes_178 hl (by decide) rfl (fun ls hl => ?_)
                            refine lv_iload hx hb dM_takes_180 (lv_at hl 6 rfl) ?_
                            refine lv_bipush (v := nI 64) hx hb dM_takes_182 (by decide) ?_
                            refine lv_imul hx hb dM_takes_184 ?_
                            refine lv_iload hx hb dM_takes_185 (lv_at hl 1 rfl) ?_
                            refine lv_bipush (v := nI 63) hx hb dM_takes_187 (by decide) ?_
                            refine lv_iand hx hb dM_takes_189 ?_
                            refine cr_top (y := nI (cr_ba y 2 % 64)) (cr_and63 (by omega)) ?_
                            refine lv_iadd hx hb dM_takes_190 ?_
                            refine lv_istore (lv' := [(4, .int ((cv * (nI 64)) + (nI (cr_ba y 2 % 64)))), (5, .int (nI 1)), (7, .int (nI (cr_ba y 2))), (0, .ref mo), (1, .int y), (2, .int (nI 3)), (3, .int (nI (cr_ba y 1))), (6, .int (nI 1))]) hx hb dM_takes_191 hl (by decide) rfl (fun ls hl => ?_)
                            refine lv_iinc (v := nI 2) (lv' := [(6, .int (nI 2)), (4, .int ((cv * (nI 64)) + (nI (cr_ba y 2 % 64)))), (5, .int (nI 1)), (7, .int (nI (cr_ba y 2))), (0, .ref mo), (1, .int y), (2, .int (nI 3)), (3, .int (nI (cr_ba y 1)))]) hx hb dM_takes_193 hl (k := 7) rfl (by decide) (by decide) rfl (fun ls hl => ?_)
                            refine lv_goto (tgt := 130) hx hb dM_takes_196 (by decide) ?_
                            exact ih130 2 ((cv * (nI 64)) + (nI (cr_ba y 2 % 64))) (nI 1) _ _ _ ⟨⟨by omega, by omega, Or.inl ⟨rfl, cr_gd_s hg (show 128 ≤ cr_ba y 2 ∧ cr_ba y 2 < 192 by omega)⟩, cr_acc_step (by omega) (by omega) hc (cr_acc_in y 3 1 (by omega))⟩, hP, hD, hS, lv_sub hl [4, 5, 6, 7, 1, 2, 0] rfl⟩ (by omega)
                    · have hbk := cr_ba_lt y 3
                      refine lv_iload_n hx hb dM_takes_136 rfl (lv_at hl 1 rfl) ?_
                      refine lv_bipush (v := nI 24) hx hb dM_takes_137 (by decide) ?_
                      refine lv_bipush (v := nI 8) hx hb dM_takes_139 (by decide) ?_
                      refine lv_iload hx hb dM_takes_141 (lv_at hl 6 rfl) ?_
                      refine lv_imul hx hb dM_takes_143 ?_
                      refine cr_top (y := nI 16) (by decide) ?_
                      refine lv_isub hx hb dM_takes_144 ?_
                      refine cr_top (y := nI 8) (by decide) ?_
                      refine lv_ishr hx hb dM_takes_145 ?_
                      refine lv_sipush (v := nI 255) hx hb dM_takes_146 (by decide) ?_
                      refine lv_iand hx hb dM_takes_149 ?_
                      refine cr_top (y := nI (cr_ba y 3)) (cr_sba y _ 8 (by decide) (by decide)) ?_
                      refine lv_istore (lv' := [(7, .int (nI (cr_ba y 3))), (0, .ref mo), (1, .int y), (2, .int (nI 3)), (3, .int (nI (cr_ba y 1))), (4, .int cv), (5, .int (nI 1)), (6, .int (nI 2))]) hx hb dM_takes_150 hl (by decide) rfl (fun ls hl => ?_)
                      refine lv_iload hx hb dM_takes_152 (lv_at hl 6 rfl) ?_
                      refine lv_if_eq (tgt := 177) hx hb dM_takes_154 (by decide) (fun c_154 => ?_) (fun c_154 => ?_)
                      · exact absurd c_154 (by decide)
                      · refine lv_iload hx hb dM_takes_157 (lv_at hl 0 rfl) ?_
                        refine lv_sipush (v := nI 128) hx hb dM_takes_159 (by decide) ?_
                        refine lv_icmp_lt (tgt := 177) hx hb dM_takes_162 (by decide) (fun c_162 => ?_) (fun c_162 => ?_)
                        · rw [nI_ltI (by omega) (by omega)] at c_162
                          refine lv_iconst (v := nI 0) hx hb dM_takes_177 (by decide) ?_
                          refine lv_istore (lv' := [(5, .int (nI 0)), (7, .int (nI (cr_ba y 3))), (0, .ref mo), (1, .int y), (2, .int (nI 3)), (3, .int (nI (cr_ba y 1))), (4, .int cv), (6, .int (nI 2))]) hx hb dM_takes_178 hl (by decide) rfl (fun ls hl => ?_)
                          refine lv_iload hx hb dM_takes_180 (lv_at hl 6 rfl) ?_
                          refine lv_bipush (v := nI 64) hx hb dM_takes_182 (by decide) ?_
                          refine lv_imul hx hb dM_takes_184 ?_
                          refine lv_iload hx hb dM_takes_185 (lv_at hl 1 rfl) ?_
                          refine lv_bipush (v := nI 63) hx hb dM_takes_187 (by decide) ?_
                          refine lv_iand hx hb dM_takes_189 ?_
                          refine cr_top (y := nI (cr_ba y 3 % 64)) (cr_and63 (by omega)) ?_
                          refine lv_iadd hx hb dM_takes_190 ?_
                          refine lv_istore (lv' := [(4, .int ((cv * (nI 64)) + (nI (cr_ba y 3 % 64)))), (5, .int (nI 0)), (7, .int (nI (cr_ba y 3))), (0, .ref mo), (1, .int y), (2, .int (nI 3)), (3, .int (nI (cr_ba y 1))), (6, .int (nI 2))]) hx hb dM_takes_191 hl (by decide) rfl (fun ls hl => ?_)
                          refine lv_iinc (v := nI 3) (lv' := [(6, .int (nI 3)), (4, .int ((cv * (nI 64)) + (nI (cr_ba y 3 % 64)))), (5, .int (nI 0)), (7, .int (nI (cr_ba y 3))), (0, .ref mo), (1, .int y), (2, .int (nI 3)), (3, .int (nI (cr_ba y 1)))]) hx hb dM_takes_193 hl (k := 7) rfl (by decide) (by decide) rfl (fun ls hl => ?_)
                          refine lv_goto (tgt := 130) hx hb dM_takes_196 (by decide) ?_
                          exact ih130 3 ((cv * (nI 64)) + (nI (cr_ba y 3 % 64))) (nI 0) _ _ _ ⟨⟨by omega, by omega, Or.inr ⟨rfl, cr_gd_n1 (by omega) (show ¬ (128 ≤ cr_ba y 3 ∧ cr_ba y 3 < 192) by omega)⟩, cr_acc_step (by omega) (by omega) hc (cr_acc_in y 3 2 (by omega))⟩, hP, hD, hS, lv_sub hl [4, 5, 6, 7, 1, 2, 0] rfl⟩ (by omega)
                        · rw [nI_ltI (by omega) (by omega)] at c_162
                          refine lv_iload hx hb dM_takes_165 (lv_at hl 0 rfl) ?_
                          refine lv_sipush (v := nI 192) hx hb dM_takes_167 (by decide) ?_
                          refine lv_icmp_ge (tgt := 177) hx hb dM_takes_170 (by decide) (fun c_170 => ?_) (fun c_170 => ?_)
                          · rw [nI_leI (by omega) (by omega)] at c_170
                            refine lv_iconst (v := nI 0) hx hb dM_takes_177 (by decide) ?_
                            refine lv_istore (lv' := [(5, .int (nI 0)), (7, .int (nI (cr_ba y 3))), (0, .ref mo), (1, .int y), (2, .int (nI 3)), (3, .int (nI (cr_ba y 1))), (4, .int cv), (6, .int (nI 2))]) hx hb dM_takes_178 hl (by decide) rfl (fun ls hl => ?_)
                            refine lv_iload hx hb dM_takes_180 (lv_at hl 6 rfl) ?_
                            refine lv_bipush (v := nI 64) hx hb dM_takes_182 (by decide) ?_
                            refine lv_imul hx hb dM_takes_184 ?_
                            refine lv_iload hx hb dM_takes_185 (lv_at hl 1 rfl) ?_
                            refine lv_bipush (v := nI 63) hx hb dM_takes_187 (by decide) ?_
                            refine lv_iand hx hb dM_takes_189 ?_
                            refine cr_top (y := nI (cr_ba y 3 % 64)) (cr_and63 (by omega)) ?_
                            refine lv_iadd hx hb dM_takes_190 ?_
                            refine lv_istore (lv' := [(4, .int ((cv * (nI 64)) + (nI (cr_ba y 3 % 64)))), (5, .int (nI 0)), (7, .int (nI (cr_ba y 3))), (0, .ref mo), (1, .int y), (2, .int (nI 3)), (3, .int (nI (cr_ba y 1))), (6, .int (nI 2))]) hx hb dM_takes_191 hl (by decide) rfl (fun ls hl => ?_)
                            refine lv_iinc (v := nI 3) (lv' := [(6, .int (nI 3)), (4, .int ((cv * (nI 64)) + (nI (cr_ba y 3 % 64)))), (5, .int (nI 0)), (7, .int (nI (cr_ba y 3))), (0, .ref mo), (1, .int y), (2, .int (nI 3)), (3, .int (nI (cr_ba y 1)))]) hx hb dM_takes_193 hl (k := 7) rfl (by decide) (by decide) rfl (fun ls hl => ?_)
                            refine lv_goto (tgt := 130) hx hb dM_takes_196 (by decide) ?_
                            exact ih130 3 ((cv * (nI 64)) + (nI (cr_ba y 3 % 64))) (nI 0) _ _ _ ⟨⟨by omega, by omega, Or.inr ⟨rfl, cr_gd_n1 (by omega) (show ¬ (128 ≤ cr_ba y 3 ∧ cr_ba y 3 < 192) by omega)⟩, cr_acc_step (by omega) (by omega) hc (cr_acc_in y 3 2 (by omega))⟩, hP, hD, hS, lv_sub hl [4, 5, 6, 7, 1, 2, 0] rfl⟩ (by omega)
                          · rw [nI_leI (by omega) (by omega)] at c_170
                            refine lv_iconst (v := nI 1) hx hb dM_takes_173 (by decide) ?_
                            refine lv_goto (tgt := 178) hx hb dM_takes_174 (by decide) ?_
                            refine lv_istore (lv' := [(5, .int (nI 1)), (7, .int (nI (cr_ba y 3))), (0, .ref mo), (1, .int y), (2, .int (nI 3)), (3, .int (nI (cr_ba y 1))), (4, .int cv), (6, .int (nI 2))]) hx hb dM_takes_178 hl (by decide) rfl (fun ls hl => ?_)
                            refine lv_iload hx hb dM_takes_180 (lv_at hl 6 rfl) ?_
                            refine lv_bipush (v := nI 64) hx hb dM_takes_182 (by decide) ?_
                            refine lv_imul hx hb dM_takes_184 ?_
                            refine lv_iload hx hb dM_takes_185 (lv_at hl 1 rfl) ?_
                            refine lv_bipush (v := nI 63) hx hb dM_takes_187 (by decide) ?_
                            refine lv_iand hx hb dM_takes_189 ?_
                            refine cr_top (y := nI (cr_ba y 3 % 64)) (cr_and63 (by omega)) ?_
                            refine lv_iadd hx hb dM_takes_190 ?_
                            refine lv_istore (lv' := [(4, .int ((cv * (nI 64)) + (nI (cr_ba y 3 % 64)))), (5, .int (nI 1)), (7, .int (nI (cr_ba y 3))), (0, .ref mo), (1, .int y), (2, .int (nI 3)), (3, .int (nI (cr_ba y 1))), (6, .int (nI 2))]) hx hb dM_takes_191 hl (by decide) rfl (fun ls hl => ?_)
                            refine lv_iinc (v := nI 3) (lv' := [(6, .int (nI 3)), (4, .int ((cv * (nI 64)) + (nI (cr_ba y 3 % 64)))), (5, .int (nI 1)), (7, .int (nI (cr_ba y 3))), (0, .ref mo), (1, .int y), (2, .int (nI 3)), (3, .int (nI (cr_ba y 1)))]) hx hb dM_takes_193 hl (k := 7) rfl (by decide) (by decide) rfl (fun ls hl => ?_)
                            refine lv_goto (tgt := 130) hx hb dM_takes_196 (by decide) ?_
                            exact ih130 3 ((cv * (nI 64)) + (nI (cr_ba y 3 % 64))) (nI 1) _ _ _ ⟨⟨by omega, by omega, Or.inl ⟨rfl, cr_gd_s hg (show 128 ≤ cr_ba y 3 ∧ cr_ba y 3 < 192 by omega)⟩, cr_acc_step (by omega) (by omega) hc (cr_acc_in y 3 2 (by omega))⟩, hP, hD, hS, lv_sub hl [4, 5, 6, 7, 1, 2, 0] rfl⟩ (by omega)
                · refine lv_iload hx hb dM_takes_130 (lv_at hl 6 rfl) ?_
                  refine lv_iload_n hx hb dM_takes_132 rfl (lv_at hl 2 rfl) ?_
                  refine lv_icmp_ge (tgt := 199) hx hb dM_takes_133 (by decide) (fun c_133 => ?_) (fun c_133 => ?_)
                  · rw [nI_leI (by omega) (by omega)] at c_133
                    refine lv_iload hx hb dM_takes_199 (lv_at hl 5 rfl) ?_
                    refine lv_if_eq (tgt := 233) hx hb dM_takes_201 (by decide) (fun c_201 => ?_) (fun c_201 => ?_)
                    · refine lv_iconst (v := nI 0) hx hb dM_takes_233 (by decide) ?_
                      exact W.zret (v := nI 0) (ty := .boolean) hx hb hr (by first | rfl | decide) (fun t9 ht9 hW9 => ⟨⟨nI 0, [(mo, .inr (2, [.int (nI 0), .ref l1, .ref l2, .int (nI n), .ref l3, .ref l4, .int (nI nk), .ref l5, .ref l6, .int (nI mn), .ref l7, .ref l8, .ref l9, .int by0, .int fd])), (l1, .inl (cI, 2400, .inl f)), (l2, .inl (cI, 2400, .inl g)), (l3, .inl (cI, 2400, .inl kf)), (l4, .inl (cI, 2400, .inl kg)), (l5, .inl (cI, 4800, .inl ef)), (l6, .inl (cI, 4800, .inl eg)), (l7, .inl (cZ, 1120, .inl mt)), (l8, .inl (cI, 4, .inl fr)), (l9, .inl (cI, 4, .inl tt))], rfl, ⟨rfl, Or.inr ⟨rfl, fun h => hg (by rw [show i = 3 from (by omega)]; exact cr_Tk_gd hSet (by omega) (by omega) h)⟩⟩, by rw [ht9]; exact hP, va_K.moved hW9.alike hK, hD⟩, hS.F ht9⟩) hS.2.2 dM_takes_234
                    · exact absurd (by decide) c_201
                  · rw [nI_leI (by omega) (by omega)] at c_133
                    rcases (show i = 1 ∨ i = 2 by omega) with rfl | rfl
                    · have hbk := cr_ba_lt y 2
                      refine lv_iload_n hx hb dM_takes_136 rfl (lv_at hl 1 rfl) ?_
                      refine lv_bipush (v := nI 24) hx hb dM_takes_137 (by decide) ?_
                      refine lv_bipush (v := nI 8) hx hb dM_takes_139 (by decide) ?_
                      refine lv_iload hx hb dM_takes_141 (lv_at hl 6 rfl) ?_
                      refine lv_imul hx hb dM_takes_143 ?_
                      refine cr_top (y := nI 8) (by decide) ?_
                      refine lv_isub hx hb dM_takes_144 ?_
                      refine cr_top (y := nI 16) (by decide) ?_
                      refine lv_ishr hx hb dM_takes_145 ?_
                      refine lv_sipush (v := nI 255) hx hb dM_takes_146 (by decide) ?_
                      refine lv_iand hx hb dM_takes_149 ?_
                      refine cr_top (y := nI (cr_ba y 2)) (cr_sba y _ 16 (by decide) (by decide)) ?_
                      refine lv_istore (lv' := [(7, .int (nI (cr_ba y 2))), (0, .ref mo), (1, .int y), (2, .int (nI 3)), (3, .int (nI (cr_ba y 1))), (4, .int cv), (5, .int (nI 0)), (6, .int (nI 1))]) hx hb dM_takes_150 hl (by decide) rfl (fun ls hl => ?_)
                      refine lv_iload hx hb dM_takes_152 (lv_at hl 6 rfl) ?_
                      refine lv_if_eq (tgt := 177) hx hb dM_takes_154 (by decide) (fun c_154 => ?_) (fun c_154 => ?_)
                      · refine lv_iconst (v := nI 0) hx hb dM_takes_177 (by decide) ?_
                        refine lv_istore (lv' := [(5, .int (nI 0)), (7, .int (nI (cr_ba y 2))), (0, .ref mo), (1, .int y), (2, .int (nI 3)), (3, .int (nI (cr_ba y 1))), (4, .int cv), (6, .int (nI 1))]) hx hb dM_takes_178 hl (by decide) rfl (fun ls hl => ?_)
                        refine lv_iload hx hb dM_takes_180 (lv_at hl 6 rfl) ?_
                        refine lv_bipush (v := nI 64) hx hb dM_takes_182 (by decide) ?_
                        refine lv_imul hx hb dM_takes_184 ?_
                        refine lv_iload hx hb dM_takes_185 (lv_at hl 1 rfl) ?_
                        refine lv_bipush (v := nI 63) hx hb dM_takes_187 (by decide) ?_
                        refine lv_iand hx hb dM_takes_189 ?_
                        refine cr_top (y := nI (cr_ba y 2 % 64)) (cr_and63 (by omega)) ?_
                        refine lv_iadd hx hb dM_takes_190 ?_
                        refine lv_istore (lv' := [(4, .int ((cv * (nI 64)) + (nI (cr_ba y 2 % 64)))), (5, .int (nI 0)), (7, .int (nI (cr_ba y 2))), (0, .ref mo), (1, .int y), (2, .int (nI 3)), (3, .int (nI (cr_ba y 1))), (6, .int (nI 1))]) hx hb dM_takes_191 hl (by decide) rfl (fun ls hl => ?_)
                        refine lv_iinc (v := nI 2) (lv' := [(6, .int (nI 2)), (4, .int ((cv * (nI 64)) + (nI (cr_ba y 2 % 64)))), (5, .int (nI 0)), (7, .int (nI (cr_ba y 2))), (0, .ref mo), (1, .int y), (2, .int (nI 3)), (3, .int (nI (cr_ba y 1)))]) hx hb dM_takes_193 hl (k := 7) rfl (by decide) (by decide) rfl (fun ls hl => ?_)
                        refine lv_goto (tgt := 130) hx hb dM_takes_196 (by decide) ?_
                        exact ih130 2 ((cv * (nI 64)) + (nI (cr_ba y 2 % 64))) (nI 0) _ _ _ ⟨⟨by omega, by omega, Or.inr ⟨rfl, cr_gd_n0 hg⟩, cr_acc_step (by omega) (by omega) hc (cr_acc_in y 3 1 (by omega))⟩, hP, hD, hS, lv_sub hl [4, 5, 6, 7, 1, 2, 0] rfl⟩ (by omega)
                      · exact absurd (by decide) c_154
                    · have hbk := cr_ba_lt y 3
                      refine lv_iload_n hx hb dM_takes_136 rfl (lv_at hl 1 rfl) ?_
                      refine lv_bipush (v := nI 24) hx hb dM_takes_137 (by decide) ?_
                      refine lv_bipush (v := nI 8) hx hb dM_takes_139 (by decide) ?_
                      refine lv_iload hx hb dM_takes_141 (lv_at hl 6 rfl) ?_
                      refine lv_imul hx hb dM_takes_143 ?_
                      refine cr_top (y := nI 16) (by decide) ?_
                      refine lv_isub hx hb dM_takes_144 ?_
                      refine cr_top (y := nI 8) (by decide) ?_
                      refine lv_ishr hx hb dM_takes_145 ?_
                      refine lv_sipush (v := nI 255) hx hb dM_takes_146 (by decide) ?_
                      refine lv_iand hx hb dM_takes_149 ?_
                      refine cr_top (y := nI (cr_ba y 3)) (cr_sba y _ 8 (by decide) (by decide)) ?_
                      refine lv_istore (lv' := [(7, .int (nI (cr_ba y 3))), (0, .ref mo), (1, .int y), (2, .int (nI 3)), (3, .int (nI (cr_ba y 1))), (4, .int cv), (5, .int (nI 0)), (6, .int (nI 2))]) hx hb dM_takes_150 hl (by decide) rfl (fun ls hl => ?_)
                      refine lv_iload hx hb dM_takes_152 (lv_at hl 6 rfl) ?_
                      refine lv_if_eq (tgt := 177) hx hb dM_takes_154 (by decide) (fun c_154 => ?_) (fun c_154 => ?_)
                      · refine lv_iconst (v := nI 0) hx hb dM_takes_177 (by decide) ?_
                        refine lv_istore (lv' := [(5, .int (nI 0)), (7, .int (nI (cr_ba y 3))), (0, .ref mo), (1, .int y), (2, .int (nI 3)), (3, .int (nI (cr_ba y 1))), (4, .int cv), (6, .int (nI 2))]) hx hb dM_takes_178 hl (by decide) rfl (fun ls hl => ?_)
                        refine lv_iload hx hb dM_takes_180 (lv_at hl 6 rfl) ?_
                        refine lv_bipush (v := nI 64) hx hb dM_takes_182 (by decide) ?_
                        refine lv_imul hx hb dM_takes_184 ?_
                        refine lv_iload hx hb dM_takes_185 (lv_at hl 1 rfl) ?_
                        refine lv_bipush (v := nI 63) hx hb dM_takes_187 (by decide) ?_
                        refine lv_iand hx hb dM_takes_189 ?_
                        refine cr_top (y := nI (cr_ba y 3 % 64)) (cr_and63 (by omega)) ?_
                        refine lv_iadd hx hb dM_takes_190 ?_
                        refine lv_istore (lv' := [(4, .int ((cv * (nI 64)) + (nI (cr_ba y 3 % 64)))), (5, .int (nI 0)), (7, .int (nI (cr_ba y 3))), (0, .ref mo), (1, .int y), (2, .int (nI 3)), (3, .int (nI (cr_ba y 1))), (6, .int (nI 2))]) hx hb dM_takes_191 hl (by decide) rfl (fun ls hl => ?_)
                        refine lv_iinc (v := nI 3) (lv' := [(6, .int (nI 3)), (4, .int ((cv * (nI 64)) + (nI (cr_ba y 3 % 64)))), (5, .int (nI 0)), (7, .int (nI (cr_ba y 3))), (0, .ref mo), (1, .int y), (2, .int (nI 3)), (3, .int (nI (cr_ba y 1)))]) hx hb dM_takes_193 hl (k := 7) rfl (by decide) (by decide) rfl (fun ls hl => ?_)
                        refine lv_goto (tgt := 130) hx hb dM_takes_196 (by decide) ?_
                        exact ih130 3 ((cv * (nI 64)) + (nI (cr_ba y 3 % 64))) (nI 0) _ _ _ ⟨⟨by omega, by omega, Or.inr ⟨rfl, cr_gd_n0 hg⟩, cr_acc_step (by omega) (by omega) hc (cr_acc_in y 3 2 (by omega))⟩, hP, hD, hS, lv_sub hl [4, 5, 6, 7, 1, 2, 0] rfl⟩ (by omega)
                      · exact absurd (by decide) c_154
              · refine lv_iload_n hx hb dM_takes_68 rfl (lv_at hl 4 rfl) ?_
                refine lv_iconst (v := nI 1) hx hb dM_takes_69 (by decide) ?_
                refine lv_icmp_ne (tgt := 88) hx hb dM_takes_70 (by decide) (fun c_70 => ?_) (fun c_70 => ?_)
                · refine lv_iload hx hb dM_takes_88 (lv_at hl 0 rfl) ?_
                  refine lv_if_lt (tgt := 124) hx hb dM_takes_90 (by decide) (fun c_90 => ?_) (fun c_90 => ?_)
                  · rw [cr_lt0] at c_90
                    refine lv_iconst (v := nI 0) hx hb dM_takes_124 (by decide) ?_
                    refine lv_istore (lv' := [(5, .int (nI 0)), (4, .int cv0), (3, .int (nI (cr_ba y 1))), (0, .ref mo), (1, .int y), (2, .int (nI 3))]) hx hb dM_takes_125 hl (by decide) rfl (fun ls hl => ?_)
                    exact jn127 (nI 0) _ _ _ ⟨Or.inr ⟨rfl, cr_ngd_1 (show ¬ (224 ≤ cr_ba y 1 ∧ cr_ba y 1 < 224 + 16) by omega)⟩, hP, hD, hS, lv_sub hl [3, 4, 5, 2, 1, 0] rfl⟩
                  · rw [cr_lt0] at c_90
                    refine lv_iload hx hb dM_takes_93 (lv_at hl 0 rfl) ?_
                    refine lv_iload_n hx hb dM_takes_95 rfl (lv_at hl 4 rfl) ?_
                    refine lv_iconst (v := nI 2) hx hb dM_takes_96 (by decide) ?_
                    refine lv_icmp_ne (tgt := 105) hx hb dM_takes_97 (by decide) (fun c_97 => ?_) (fun c_97 => ?_)
                    · refine lv_iload_n hx hb dM_takes_105 rfl (lv_at hl 4 rfl) ?_
                      refine lv_iconst (v := nI 3) hx hb dM_takes_106 (by decide) ?_
                      refine lv_icmp_ne (tgt := 115) hx hb dM_takes_107 (by decide) (fun c_107 => ?_) (fun c_107 => ?_)
                      · exact absurd (by decide) c_107
                      · refine lv_bipush (v := nI 16) hx hb dM_takes_110 (by decide) ?_
                        refine lv_goto (tgt := 117) hx hb dM_takes_112 (by decide) ?_
                        refine lv_icmp_ge (tgt := 124) hx hb dM_takes_117 (by decide) (fun c_117 => ?_) (fun c_117 => ?_)
                        · rw [cr_nle' (by omega)] at c_117
                          refine lv_iconst (v := nI 0) hx hb dM_takes_124 (by decide) ?_
                          refine lv_istore (lv' := [(5, .int (nI 0)), (4, .int cv0), (3, .int (nI (cr_ba y 1))), (0, .ref mo), (1, .int y), (2, .int (nI 3))]) hx hb dM_takes_125 hl (by decide) rfl (fun ls hl => ?_)
                          exact jn127 (nI 0) _ _ _ ⟨Or.inr ⟨rfl, cr_ngd_1 (show ¬ (224 ≤ cr_ba y 1 ∧ cr_ba y 1 < 224 + 16) by omega)⟩, hP, hD, hS, lv_sub hl [3, 4, 5, 2, 1, 0] rfl⟩
                        · rw [cr_nle' (by omega)] at c_117
                          refine lv_iconst (v := nI 1) hx hb dM_takes_120 (by decide) ?_
                          refine lv_goto (tgt := 125) hx hb dM_takes_121 (by decide) ?_
                          refine lv_istore (lv' := [(5, .int (nI 1)), (4, .int cv0), (3, .int (nI (cr_ba y 1))), (0, .ref mo), (1, .int y), (2, .int (nI 3))]) hx hb dM_takes_125 hl (by decide) rfl (fun ls hl => ?_)
                          exact jn127 (nI 1) _ _ _ ⟨Or.inl ⟨rfl, cr_gd_1 (show 224 ≤ cr_ba y 1 ∧ cr_ba y 1 < 224 + 16 by omega)⟩, hP, hD, hS, lv_sub hl [3, 4, 5, 2, 1, 0] rfl⟩
                    · exact absurd c_97 (by decide)
                · exact absurd c_70 (by decide)
          · exact absurd c_37 (by decide)
        · exact absurd c_28 (by decide)
      · refine lv_iload_n hx hb dM_takes_17 rfl (lv_at hl 1 rfl) ?_
        refine lv_bipush (v := nI 24) hx hb dM_takes_18 (by decide) ?_
        refine lv_ishr hx hb dM_takes_20 ?_
        refine lv_sipush (v := nI 255) hx hb dM_takes_21 (by decide) ?_
        refine lv_iand hx hb dM_takes_24 ?_
        refine cr_top (y := nI (cr_ba y 1)) (cr_sba y _ 24 (by decide) (by decide)) ?_
        refine lv_istore_n (lv' := [(3, .int (nI (cr_ba y 1))), (0, .ref mo), (1, .int y), (2, .int (nI 4))]) hx hb dM_takes_25 rfl hl (by decide) rfl (fun ls hl => ?_)
        refine lv_iload_n hx hb dM_takes_26 rfl (lv_at hl 3 rfl) ?_
        refine lv_iconst (v := nI 1) hx hb dM_takes_27 (by decide) ?_
        refine lv_icmp_ne (tgt := 35) hx hb dM_takes_28 (by decide) (fun c_28 => ?_) (fun c_28 => ?_)
        · refine lv_iload_n hx hb dM_takes_35 rfl (lv_at hl 3 rfl) ?_
          refine lv_iconst (v := nI 2) hx hb dM_takes_36 (by decide) ?_
          refine lv_icmp_ne (tgt := 48) hx hb dM_takes_37 (by decide) (fun c_37 => ?_) (fun c_37 => ?_)
          · refine lv_iload_n hx hb dM_takes_48 rfl (lv_at hl 3 rfl) ?_
            refine lv_iconst (v := nI 3) hx hb dM_takes_49 (by decide) ?_
            refine lv_icmp_ne (tgt := 61) hx hb dM_takes_50 (by decide) (fun c_50 => ?_) (fun c_50 => ?_)
            · refine lv_iload_n hx hb dM_takes_61 rfl (lv_at hl 0 rfl) ?_
              refine lv_sipush (v := nI 240) hx hb dM_takes_62 (by decide) ?_
              refine lv_isub hx hb dM_takes_65 ?_
              obtain ⟨cv0, hcv0⟩ : ∃ q : Int32, q = (nI (cr_ba y 1)) - (nI 240) := ⟨_, rfl⟩
              refine cr_top hcv0.symm ?_
              have hcv : cv0.toInt = (cr_ba y 1 : Int) - (240 : Nat) := by rw [hcv0]; exact pk_sub_toInt (by omega) (by decide)
              refine lv_istore (lv' := [(4, .int cv0), (3, .int (nI (cr_ba y 1))), (0, .ref mo), (1, .int y), (2, .int (nI 4))]) hx hb dM_takes_66 hl (by decide) rfl (fun ls hl => ?_)
              refine cr_cut1 127 [] (fun (gd0 : Int32) H locs ls => (cr_zb gd0 (cr_gd y 4 1)) ∧ va_P (dC, dI) crCl [(mo, .inr (2, [.int (nI 0), .ref l1, .ref l2, .int (nI n), .ref l3, .ref l4, .int (nI nk), .ref l5, .ref l6, .int (nI mn), .ref l7, .ref l8, .ref l9, .int by0, .int fd])), (l1, .inl (cI, 2400, .inl f)), (l2, .inl (cI, 2400, .inl g)), (l3, .inl (cI, 2400, .inl kf)), (l4, .inl (cI, 2400, .inl kg)), (l5, .inl (cI, 4800, .inl ef)), (l6, .inl (cI, 4800, .inl eg)), (l7, .inl (cZ, 1120, .inl mt)), (l8, .inl (cI, 4, .inl fr)), (l9, .inl (cI, 4, .inl tt))] H ∧ va_D A [(mo, .inr (2, [.int (nI 0), .ref l1, .ref l2, .int (nI n), .ref l3, .ref l4, .int (nI nk), .ref l5, .ref l6, .int (nI mn), .ref l7, .ref l8, .ref l9, .int by0, .int fd])), (l1, .inl (cI, 2400, .inl f)), (l2, .inl (cI, 2400, .inl g)), (l3, .inl (cI, 2400, .inl kf)), (l4, .inl (cI, 2400, .inl kg)), (l5, .inl (cI, 4800, .inl ef)), (l6, .inl (cI, 4800, .inl eg)), (l7, .inl (cZ, 1120, .inl mt)), (l8, .inl (cI, 4, .inl fr)), (l9, .inl (cI, 4, .inl tt))] ∧ va_S A s.heap H locs ∧ lv_has ls 8 [(0, .ref mo), (1, .int y), (2, .int (nI 4)), (3, .int (nI (cr_ba y 1))), (4, .int cv0), (5, .int gd0)]) ?_ (fun jn127 => ?_)
              · intro gd0 H locs ls hJ127
                obtain ⟨hz0, hP, hD, hS, hl⟩ := hJ127
                refine lv_iconst (v := nI 1) hx hb dM_takes_127 (by decide) ?_
                refine lv_istore (lv' := [(6, .int (nI 1)), (0, .ref mo), (1, .int y), (2, .int (nI 4)), (3, .int (nI (cr_ba y 1))), (4, .int cv0), (5, .int gd0)]) hx hb dM_takes_128 hl (by decide) rfl (fun ls hl => ?_)
                refine cr_lp3 (fun (i : Nat) (cv : Int32) (gd : Int32) => 4 - i) (fun (i : Nat) (cv : Int32) (gd : Int32) H locs ls => (1 ≤ i ∧ i ≤ 4 ∧ cr_zb gd (cr_gd y 4 i) ∧ cv.toInt = cr_acc y 4 i) ∧ va_P (dC, dI) crCl [(mo, .inr (2, [.int (nI 0), .ref l1, .ref l2, .int (nI n), .ref l3, .ref l4, .int (nI nk), .ref l5, .ref l6, .int (nI mn), .ref l7, .ref l8, .ref l9, .int by0, .int fd])), (l1, .inl (cI, 2400, .inl f)), (l2, .inl (cI, 2400, .inl g)), (l3, .inl (cI, 2400, .inl kf)), (l4, .inl (cI, 2400, .inl kg)), (l5, .inl (cI, 4800, .inl ef)), (l6, .inl (cI, 4800, .inl eg)), (l7, .inl (cZ, 1120, .inl mt)), (l8, .inl (cI, 4, .inl fr)), (l9, .inl (cI, 4, .inl tt))] H ∧ va_D A [(mo, .inr (2, [.int (nI 0), .ref l1, .ref l2, .int (nI n), .ref l3, .ref l4, .int (nI nk), .ref l5, .ref l6, .int (nI mn), .ref l7, .ref l8, .ref l9, .int by0, .int fd])), (l1, .inl (cI, 2400, .inl f)), (l2, .inl (cI, 2400, .inl g)), (l3, .inl (cI, 2400, .inl kf)), (l4, .inl (cI, 2400, .inl kg)), (l5, .inl (cI, 4800, .inl ef)), (l6, .inl (cI, 4800, .inl eg)), (l7, .inl (cZ, 1120, .inl mt)), (l8, .inl (cI, 4, .inl fr)), (l9, .inl (cI, 4, .inl tt))] ∧ va_S A s.heap H locs ∧ lv_has ls 8 [(0, .ref mo), (1, .int y), (2, .int (nI 4)), (3, .int (nI (cr_ba y 1))), (4, .int cv), (5, .int gd), (6, .int (nI i))]) ?_ 1 cv0 gd0 ⟨⟨Nat.le_refl _, by omega, hz0, hcv⟩, hP, hD, hS, lv_sub hl [1, 2, 3, 4, 5, 6, 0] rfl⟩
                intro i cv gd H locs ls hI130 ih130
                obtain ⟨⟨h1, h2, hz, hc⟩, hP, hD, hS, hl⟩ := hI130
                rcases hz with ⟨rfl, hg⟩ | ⟨rfl, hg⟩
                · refine lv_iload hx hb dM_takes_130 (lv_at hl 6 rfl) ?_
                  refine lv_iload_n hx hb dM_takes_132 rfl (lv_at hl 2 rfl) ?_
                  refine lv_icmp_ge (tgt := 199) hx hb dM_takes_133 (by decide) (fun c_133 => ?_) (fun c_133 => ?_)
                  · rw [nI_leI (by omega) (by omega)] at c_133
                    refine lv_iload hx hb dM_takes_199 (lv_at hl 5 rfl) ?_
                    refine lv_if_eq (tgt := 233) hx hb dM_takes_201 (by decide) (fun c_201 => ?_) (fun c_201 => ?_)
                    · exact absurd c_201 (by decide)
                    · have hin : i = 4 := by omega
                      subst hin
                      rw [cr_acc_dec (by omega) (by omega) hg.1] at hc
                      obtain rfl : cv = nI (cr_dec y 4) := (cr_eqn (by have := cr_dec_lt y 4; omega)).2 hc
                      have hdl := cr_dec_lt y 4
                      refine lv_iload hx hb dM_takes_204 (lv_at hl 4 rfl) ?_
                      refine lv_ldc (v := nI 1114111) hx hb hown (hts (.constant RX2 52 (nI 1114111)) (by decide +kernel)) dM_takes_206 ?_
                      refine lv_icmp_gt (tgt := 233) hx hb dM_takes_208 (by decide) (fun c_208 => ?_) (fun c_208 => ?_)
                      · rw [nI_ltI (by omega) (by omega)] at c_208
                        refine lv_iconst (v := nI 0) hx hb dM_takes_233 (by decide) ?_
                        exact W.zret (v := nI 0) (ty := .boolean) hx hb hr (by first | rfl | decide) (fun t9 ht9 hW9 => ⟨⟨nI 0, [(mo, .inr (2, [.int (nI 0), .ref l1, .ref l2, .int (nI n), .ref l3, .ref l4, .int (nI nk), .ref l5, .ref l6, .int (nI mn), .ref l7, .ref l8, .ref l9, .int by0, .int fd])), (l1, .inl (cI, 2400, .inl f)), (l2, .inl (cI, 2400, .inl g)), (l3, .inl (cI, 2400, .inl kf)), (l4, .inl (cI, 2400, .inl kg)), (l5, .inl (cI, 4800, .inl ef)), (l6, .inl (cI, 4800, .inl eg)), (l7, .inl (cZ, 1120, .inl mt)), (l8, .inl (cI, 4, .inl fr)), (l9, .inl (cI, 4, .inl tt))], rfl, ⟨rfl, Or.inr ⟨rfl, fun h => absurd (hSet.char (cr_Tk_S hSet (by omega) (by omega) h)).1 (by omega)⟩⟩, by rw [ht9]; exact hP, va_K.moved hW9.alike hK, hD⟩, hS.F ht9⟩) hS.2.2 dM_takes_234
                      · rw [nI_ltI (by omega) (by omega)] at c_208
                        refine lv_iload hx hb dM_takes_211 (lv_at hl 4 rfl) ?_
                        have hPc := hP.sub (ws' := []) [] rfl
                        have hDc := hD.sub (ws' := []) [] (by decide) rfl
                        have hFc := va_free (wc := []) hD hS hA [] rfl
                        refine va_calli (va_runS (As := [.int (nI (cr_dec y 4))]) (rest := []) ⟨hx, hb, hml, hown, hts⟩ (m_length l dC dI _ (cr_dec y 4) (by omega)) (va_cwS 1 hts gM_takes_M_length rfl rfl rfl (by decide +kernel) ⟨Nat.le_of_ble_eq_true rfl, Nat.le_of_ble_eq_true rfl⟩) (cr_preS hPc (hK.sub (tys' := []) [] rfl) hDc) rfl rfl hl.1 rfl (lv_room (Nat.le_of_ble_eq_true rfl)) dM_takes_213 ⟨Nat.zero_le _, Nat.zero_le _⟩) hS (fun q _ h => hFc q h) hFc (fun r_213 u_213 t_213 H_213 locs ht_213 hvm_213 hw_213 hB_213 hz_213 hk_213 hS => ?_)
                        obtain ⟨rfl, rfl⟩ := hw_213
                        obtain ⟨hP, hD⟩ := cr_back (wr := [(mo, .inr (2, [.int (nI 0), .ref l1, .ref l2, .int (nI n), .ref l3, .ref l4, .int (nI nk), .ref l5, .ref l6, .int (nI mn), .ref l7, .ref l8, .ref l9, .int by0, .int fd])), (l1, .inl (cI, 2400, .inl f)), (l2, .inl (cI, 2400, .inl g)), (l3, .inl (cI, 2400, .inl kf)), (l4, .inl (cI, 2400, .inl kg)), (l5, .inl (cI, 4800, .inl ef)), (l6, .inl (cI, 4800, .inl eg)), (l7, .inl (cZ, 1120, .inl mt)), (l8, .inl (cI, 4, .inl fr)), (l9, .inl (cI, 4, .inl tt))]) (w1 := []) hP hD [] [0, 1, 2, 3, 4, 5, 6, 7, 8, 9] rfl rfl (by decide) (by decide) hk_213 hFc hB_213 ht_213
                        clear hPc hDc hFc
                        generalize H_213 = H at hP hS ⊢
                        have hP := hP.sub (ws' := [(mo, .inr (2, [.int (nI 0), .ref l1, .ref l2, .int (nI n), .ref l3, .ref l4, .int (nI nk), .ref l5, .ref l6, .int (nI mn), .ref l7, .ref l8, .ref l9, .int by0, .int fd])), (l1, .inl (cI, 2400, .inl f)), (l2, .inl (cI, 2400, .inl g)), (l3, .inl (cI, 2400, .inl kf)), (l4, .inl (cI, 2400, .inl kg)), (l5, .inl (cI, 4800, .inl ef)), (l6, .inl (cI, 4800, .inl eg)), (l7, .inl (cZ, 1120, .inl mt)), (l8, .inl (cI, 4, .inl fr)), (l9, .inl (cI, 4, .inl tt))]) [0, 1, 2, 3, 4, 5, 6, 7, 8, 9] rfl
                        have hD := hD.sub (ws' := [(mo, .inr (2, [.int (nI 0), .ref l1, .ref l2, .int (nI n), .ref l3, .ref l4, .int (nI nk), .ref l5, .ref l6, .int (nI mn), .ref l7, .ref l8, .ref l9, .int by0, .int fd])), (l1, .inl (cI, 2400, .inl f)), (l2, .inl (cI, 2400, .inl g)), (l3, .inl (cI, 2400, .inl kf)), (l4, .inl (cI, 2400, .inl kg)), (l5, .inl (cI, 4800, .inl ef)), (l6, .inl (cI, 4800, .inl eg)), (l7, .inl (cZ, 1120, .inl mt)), (l8, .inl (cI, 4, .inl fr)), (l9, .inl (cI, 4, .inl tt))]) [0, 1, 2, 3, 4, 5, 6, 7, 8, 9] (by decide) rfl
                        refine lv_iload_n hx hb dM_takes_216 rfl (lv_at hl 2 rfl) ?_
                        refine lv_icmp_ne (tgt := 233) hx hb dM_takes_217 (by decide) (fun c_217 => ?_) (fun c_217 => ?_)
                        · have hl9 := cr_len_le (cr_dec y 4)
                          rw [nI_eq (by omega) (by omega)] at c_217
                          refine lv_iconst (v := nI 0) hx hb dM_takes_233 (by decide) ?_
                          exact W.zret (v := nI 0) (ty := .boolean) hx hb hr (by first | rfl | decide) (fun t9 ht9 hW9 => ⟨⟨nI 0, [(mo, .inr (2, [.int (nI 0), .ref l1, .ref l2, .int (nI n), .ref l3, .ref l4, .int (nI nk), .ref l5, .ref l6, .int (nI mn), .ref l7, .ref l8, .ref l9, .int by0, .int fd])), (l1, .inl (cI, 2400, .inl f)), (l2, .inl (cI, 2400, .inl g)), (l3, .inl (cI, 2400, .inl kf)), (l4, .inl (cI, 2400, .inl kg)), (l5, .inl (cI, 4800, .inl ef)), (l6, .inl (cI, 4800, .inl eg)), (l7, .inl (cZ, 1120, .inl mt)), (l8, .inl (cI, 4, .inl fr)), (l9, .inl (cI, 4, .inl tt))], rfl, ⟨rfl, Or.inr ⟨rfl, fun h => c_217 (cr_Tk_len hSet (by omega) (by omega) h)⟩⟩, by rw [ht9]; exact hP, va_K.moved hW9.alike hK, hD⟩, hS.F ht9⟩) hS.2.2 dM_takes_234
                        · have hl9 := cr_len_le (cr_dec y 4)
                          rw [nI_eq (by omega) (by omega)] at c_217
                          refine lv_aload_n hx hb dM_takes_220 rfl (lv_at hl 0 rfl) ?_
                          refine lv_iload hx hb dM_takes_221 (lv_at hl 4 rfl) ?_
                          have hPc := hP.sub (ws' := [(mo, .inr (2, [.int (nI 0), .ref l1, .ref l2, .int (nI n), .ref l3, .ref l4, .int (nI nk), .ref l5, .ref l6, .int (nI mn), .ref l7, .ref l8, .ref l9, .int by0, .int fd])), (l1, .inl (cI, 2400, .inl f)), (l2, .inl (cI, 2400, .inl g)), (l3, .inl (cI, 2400, .inl kf)), (l4, .inl (cI, 2400, .inl kg)), (l5, .inl (cI, 4800, .inl ef)), (l6, .inl (cI, 4800, .inl eg)), (l7, .inl (cZ, 1120, .inl mt)), (l8, .inl (cI, 4, .inl fr)), (l9, .inl (cI, 4, .inl tt))]) [0, 1, 2, 3, 4, 5, 6, 7, 8, 9] rfl
                          have hDc := hD.sub (ws' := [(mo, .inr (2, [.int (nI 0), .ref l1, .ref l2, .int (nI n), .ref l3, .ref l4, .int (nI nk), .ref l5, .ref l6, .int (nI mn), .ref l7, .ref l8, .ref l9, .int by0, .int fd])), (l1, .inl (cI, 2400, .inl f)), (l2, .inl (cI, 2400, .inl g)), (l3, .inl (cI, 2400, .inl kf)), (l4, .inl (cI, 2400, .inl kg)), (l5, .inl (cI, 4800, .inl ef)), (l6, .inl (cI, 4800, .inl eg)), (l7, .inl (cZ, 1120, .inl mt)), (l8, .inl (cI, 4, .inl fr)), (l9, .inl (cI, 4, .inl tt))]) [0, 1, 2, 3, 4, 5, 6, 7, 8, 9] (by decide) rfl
                          have hFc := va_free (wc := [(mo, .inr (2, [.int (nI 0), .ref l1, .ref l2, .int (nI n), .ref l3, .ref l4, .int (nI nk), .ref l5, .ref l6, .int (nI mn), .ref l7, .ref l8, .ref l9, .int by0, .int fd])), (l1, .inl (cI, 2400, .inl f)), (l2, .inl (cI, 2400, .inl g)), (l3, .inl (cI, 2400, .inl kf)), (l4, .inl (cI, 2400, .inl kg)), (l5, .inl (cI, 4800, .inl ef)), (l6, .inl (cI, 4800, .inl eg)), (l7, .inl (cZ, 1120, .inl mt)), (l8, .inl (cI, 4, .inl fr)), (l9, .inl (cI, 4, .inl tt))]) hD hS hA [0, 1, 2, 3, 4, 5, 6, 7, 8, 9] rfl
                          refine va_calli (va_runV (As := [.int (nI (cr_dec y 4))]) (rest := []) ⟨hx, hb, hml, hown, hts⟩ (m_isIn l dC dI _ mo l1 l2 l3 l4 l5 l6 l7 l8 l9 cI cZ (nI 0) by0 fd n nk mn f g kf kg ef eg mt fr tt S hSet hn (nI (cr_dec y 4))) (cwV 1 hts gM_takes_M_isIn rfl rfl rfl (by decide +kernel) ⟨Nat.le_of_ble_eq_true rfl, Nat.le_of_ble_eq_true rfl⟩) (cr_preV hPc hK hDc (ci := 2) (q0 := 0) rfl rfl) rfl rfl hl.1 rfl (lv_room (Nat.le_of_ble_eq_true rfl)) dM_takes_223 ⟨Nat.zero_le _, Nat.zero_le _⟩) hS (fun q _ h => hFc q h) hFc (fun r_223 u_223 t_223 H_223 locs ht_223 hvm_223 hw_223 hB_223 hz_223 hk_223 hS => ?_)
                          obtain ⟨rfl, hzi⟩ := hw_223
                          rw [cr_Hs_big hSet (by omega)] at hzi
                          obtain ⟨hP, hD⟩ := cr_back (wr := []) (w1 := [(mo, .inr (2, [.int (nI 0), .ref l1, .ref l2, .int (nI n), .ref l3, .ref l4, .int (nI nk), .ref l5, .ref l6, .int (nI mn), .ref l7, .ref l8, .ref l9, .int by0, .int fd])), (l1, .inl (cI, 2400, .inl f)), (l2, .inl (cI, 2400, .inl g)), (l3, .inl (cI, 2400, .inl kf)), (l4, .inl (cI, 2400, .inl kg)), (l5, .inl (cI, 4800, .inl ef)), (l6, .inl (cI, 4800, .inl eg)), (l7, .inl (cZ, 1120, .inl mt)), (l8, .inl (cI, 4, .inl fr)), (l9, .inl (cI, 4, .inl tt))]) hP hD [0, 1, 2, 3, 4, 5, 6, 7, 8, 9] [] rfl rfl (by decide) (by decide) hk_223 hFc hB_223 ht_223
                          clear hPc hDc hFc
                          generalize H_223 = H at hP hS ⊢
                          have hP := hP.sub (ws' := [(mo, .inr (2, [.int (nI 0), .ref l1, .ref l2, .int (nI n), .ref l3, .ref l4, .int (nI nk), .ref l5, .ref l6, .int (nI mn), .ref l7, .ref l8, .ref l9, .int by0, .int fd])), (l1, .inl (cI, 2400, .inl f)), (l2, .inl (cI, 2400, .inl g)), (l3, .inl (cI, 2400, .inl kf)), (l4, .inl (cI, 2400, .inl kg)), (l5, .inl (cI, 4800, .inl ef)), (l6, .inl (cI, 4800, .inl eg)), (l7, .inl (cZ, 1120, .inl mt)), (l8, .inl (cI, 4, .inl fr)), (l9, .inl (cI, 4, .inl tt))]) [0, 1, 2, 3, 4, 5, 6, 7, 8, 9] rfl
                          have hD := hD.sub (ws' := [(mo, .inr (2, [.int (nI 0), .ref l1, .ref l2, .int (nI n), .ref l3, .ref l4, .int (nI nk), .ref l5, .ref l6, .int (nI mn), .ref l7, .ref l8, .ref l9, .int by0, .int fd])), (l1, .inl (cI, 2400, .inl f)), (l2, .inl (cI, 2400, .inl g)), (l3, .inl (cI, 2400, .inl kf)), (l4, .inl (cI, 2400, .inl kg)), (l5, .inl (cI, 4800, .inl ef)), (l6, .inl (cI, 4800, .inl eg)), (l7, .inl (cZ, 1120, .inl mt)), (l8, .inl (cI, 4, .inl fr)), (l9, .inl (cI, 4, .inl tt))]) [0, 1, 2, 3, 4, 5, 6, 7, 8, 9] (by decide) rfl
                          rcases hzi with ⟨rfl, hS9⟩ | ⟨rfl, hS9⟩
                          · refine lv_if_eq (tgt := 233) hx hb dM_takes_226 (by decide) (fun c_226 => ?_) (fun c_226 => ?_)
                            · exact absurd c_226 (by decide)
                            · refine lv_iconst (v := nI 1) hx hb dM_takes_229 (by decide) ?_
                              refine lv_goto (tgt := 234) hx hb dM_takes_230 (by decide) ?_
                              exact W.zret (v := nI 1) (ty := .boolean) hx hb hr (by first | rfl | decide) (fun t9 ht9 hW9 => ⟨⟨nI 1, [(mo, .inr (2, [.int (nI 0), .ref l1, .ref l2, .int (nI n), .ref l3, .ref l4, .int (nI nk), .ref l5, .ref l6, .int (nI mn), .ref l7, .ref l8, .ref l9, .int by0, .int fd])), (l1, .inl (cI, 2400, .inl f)), (l2, .inl (cI, 2400, .inl g)), (l3, .inl (cI, 2400, .inl kf)), (l4, .inl (cI, 2400, .inl kg)), (l5, .inl (cI, 4800, .inl ef)), (l6, .inl (cI, 4800, .inl eg)), (l7, .inl (cZ, 1120, .inl mt)), (l8, .inl (cI, 4, .inl fr)), (l9, .inl (cI, 4, .inl tt))], rfl, ⟨rfl, Or.inl ⟨rfl, ⟨4, _, rfl, by omega, by omega, hS9, c_217, cr_gd_by (by omega) (by omega) hg c_217 (by omega)⟩⟩⟩, by rw [ht9]; exact hP, va_K.moved hW9.alike hK, hD⟩, hS.F ht9⟩) hS.2.2 dM_takes_234
                          · refine lv_if_eq (tgt := 233) hx hb dM_takes_226 (by decide) (fun c_226 => ?_) (fun c_226 => ?_)
                            · refine lv_iconst (v := nI 0) hx hb dM_takes_233 (by decide) ?_
                              exact W.zret (v := nI 0) (ty := .boolean) hx hb hr (by first | rfl | decide) (fun t9 ht9 hW9 => ⟨⟨nI 0, [(mo, .inr (2, [.int (nI 0), .ref l1, .ref l2, .int (nI n), .ref l3, .ref l4, .int (nI nk), .ref l5, .ref l6, .int (nI mn), .ref l7, .ref l8, .ref l9, .int by0, .int fd])), (l1, .inl (cI, 2400, .inl f)), (l2, .inl (cI, 2400, .inl g)), (l3, .inl (cI, 2400, .inl kf)), (l4, .inl (cI, 2400, .inl kg)), (l5, .inl (cI, 4800, .inl ef)), (l6, .inl (cI, 4800, .inl eg)), (l7, .inl (cZ, 1120, .inl mt)), (l8, .inl (cI, 4, .inl fr)), (l9, .inl (cI, 4, .inl tt))], rfl, ⟨rfl, Or.inr ⟨rfl, fun h => hS9 (cr_Tk_S hSet (by omega) (by omega) h)⟩⟩, by rw [ht9]; exact hP, va_K.moved hW9.alike hK, hD⟩, hS.F ht9⟩) hS.2.2 dM_takes_234
                            · exact absurd (by decide) c_226
                  · rw [nI_leI (by omega) (by omega)] at c_133
                    rcases (show i = 1 ∨ i = 2 ∨ i = 3 by omega) with rfl | rfl | rfl
                    · have hbk := cr_ba_lt y 2
                      refine lv_iload_n hx hb dM_takes_136 rfl (lv_at hl 1 rfl) ?_
                      refine lv_bipush (v := nI 24) hx hb dM_takes_137 (by decide) ?_
                      refine lv_bipush (v := nI 8) hx hb dM_takes_139 (by decide) ?_
                      refine lv_iload hx hb dM_takes_141 (lv_at hl 6 rfl) ?_
                      refine lv_imul hx hb dM_takes_143 ?_
                      refine cr_top (y := nI 8) (by decide) ?_
                      refine lv_isub hx hb dM_takes_144 ?_
                      refine cr_top (y := nI 16) (by decide) ?_
                      refine lv_ishr hx hb dM_takes_145 ?_
                      refine lv_sipush (v := nI 255) hx hb dM_takes_146 (by decide) ?_
                      refine lv_iand hx hb dM_takes_149 ?_
                      refine cr_top (y := nI (cr_ba y 2)) (cr_sba y _ 16 (by decide) (by decide)) ?_
                      refine lv_istore (lv' := [(7, .int (nI (cr_ba y 2))), (0, .ref mo), (1, .int y), (2, .int (nI 4)), (3, .int (nI (cr_ba y 1))), (4, .int cv), (5, .int (nI 1)), (6, .int (nI 1))]) hx hb dM_takes_150 hl (by decide) rfl (fun ls hl => ?_)
                      refine lv_iload hx hb dM_takes_152 (lv_at hl 6 rfl) ?_
                      refine lv_if_eq (tgt := 177) hx hb dM_takes_154 (by decide) (fun c_154 => ?_) (fun c_154 => ?_)
                      · exact absurd c_154 (by decide)
                      · refine lv_iload hx hb dM_takes_157 (lv_at hl 0 rfl) ?_
                        refine lv_sipush (v := nI 128) hx hb dM_takes_159 (by decide) ?_
                        refine lv_icmp_lt (tgt := 177) hx hb dM_takes_162 (by decide) (fun c_162 => ?_) (fun c_162 => ?_)
                        · rw [nI_ltI (by omega) (by omega)] at c_162
                          refine lv_iconst (v := nI 0) hx hb dM_takes_177 (by decide) ?_
                          refine lv_istore (lv' := [(5, .int (nI 0)), (7, .int (nI (cr_ba y 2))), (0, .ref mo), (1, .int y), (2, .int (nI 4)), (3, .int (nI (cr_ba y 1))), (4, .int cv), (6, .int (nI 1))]) hx hb dM_takes_178 hl (by decide) rfl (fun ls hl => ?_)
                          refine lv_iload hx hb dM_takes_180 (lv_at hl 6 rfl) ?_
                          refine lv_bipush (v := nI 64) hx hb dM_takes_182 (by decide) ?_
                          refine lv_imul hx hb dM_takes_184 ?_
                          refine lv_iload hx hb dM_takes_185 (lv_at hl 1 rfl) ?_
                          refine lv_bipush (v := nI 63) hx hb dM_takes_187 (by decide) ?_
                          refine lv_iand hx hb dM_takes_189 ?_
                          refine cr_top (y := nI (cr_ba y 2 % 64)) (cr_and63 (by omega)) ?_
                          refine lv_iadd hx hb dM_takes_190 ?_
                          refine lv_istore (lv' := [(4, .int ((cv * (nI 64)) + (nI (cr_ba y 2 % 64)))), (5, .int (nI 0)), (7, .int (nI (cr_ba y 2))), (0, .ref mo), (1, .int y), (2, .int (nI 4)), (3, .int (nI (cr_ba y 1))), (6, .int (nI 1))]) hx hb dM_takes_191 hl (by decide) rfl (fun ls hl => ?_)
                          refine lv_iinc (v := nI 2) (lv' := [(6, .int (nI 2)), (4, .int ((cv * (nI 64)) + (nI (cr_ba y 2 % 64)))), (5, .int (nI 0)), (7, .int (nI (cr_ba y 2))), (0, .ref mo), (1, .int y), (2, .int (nI 4)), (3, .int (nI (cr_ba y 1)))]) hx hb dM_takes_193 hl (k := 7) rfl (by decide) (by decide) rfl (fun ls hl => ?_)
                          refine lv_goto (tgt := 130) hx hb dM_takes_196 (by decide) ?_
                          exact ih130 2 ((cv * (nI 64)) + (nI (cr_ba y 2 % 64))) (nI 0) _ _ _ ⟨⟨by omega, by omega, Or.inr ⟨rfl, cr_gd_n1 (by omega) (show ¬ (128 ≤ cr_ba y 2 ∧ cr_ba y 2 < 192) by omega)⟩, cr_acc_step (by omega) (by omega) hc (cr_acc_in y 4 1 (by omega))⟩, hP, hD, hS, lv_sub hl [4, 5, 6, 7, 1, 2, 0] rfl⟩ (by omega)
                        · rw [nI_ltI (by omega) (by omega)] at c_162
                          refine lv_iload hx hb dM_takes_165 (lv_at hl 0 rfl) ?_
                          refine lv_sipush (v := nI 192) hx hb dM_takes_167 (by decide) ?_
                          refine lv_icmp_ge (tgt := 177) hx hb dM_takes_170 (by decide) (fun c_170 => ?_) (fun c_170 => ?_)
                          · rw [nI_leI (by omega) (by omega)] at c_170
                            refine lv_iconst (v := nI 0) hx hb dM_takes_177 (by decide) ?_
                            refine lv_istore (lv' := [(5, .int (nI 0)), (7, .int (nI (cr_ba y 2))), (0, .ref mo), (1, .int y), (2, .int (nI 4)), (3, .int (nI (cr_ba y 1))), (4, .int cv), (6, .int (nI 1))]) hx hb dM_takes_178 hl (by decide) rfl (fun ls hl => ?_)
                            refine lv_iload hx hb dM_takes_180 (lv_at hl 6 rfl) ?_
                            refine lv_bipush (v := nI 64) hx hb dM_takes_182 (by decide) ?_
                            refine lv_imul hx hb dM_takes_184 ?_
                            refine lv_iload hx hb dM_takes_185 (lv_at hl 1 rfl) ?_
                            refine lv_bipush (v := nI 63) hx hb dM_takes_187 (by decide) ?_
                            refine lv_iand hx hb dM_takes_189 ?_
                            refine cr_top (y := nI (cr_ba y 2 % 64)) (cr_and63 (by omega)) ?_
                            refine lv_iadd hx hb dM_takes_190 ?_
                            refine lv_istore (lv' := [(4, .int ((cv * (nI 64)) + (nI (cr_ba y 2 % 64)))), (5, .int (nI 0)), (7, .int (nI (cr_ba y 2))), (0, .ref mo), (1, .int y), (2, .int (nI 4)), (3, .int (nI (cr_ba y 1))), (6, .int (nI 1))]) hx hb dM_takes_191 hl (by decide) rfl (fun ls hl => ?_)
                            refine lv_iinc (v := nI 2) (lv' := [(6, .int (nI 2)), (4, .int ((cv * (nI 64)) + (nI (cr_ba y 2 % 64)))), (5, .int (nI 0)), (7, .int (nI (cr_ba y 2))), (0, .ref mo), (1, .int y), (2, .int (nI 4)), (3, .int (nI (cr_ba y 1)))]) hx hb dM_takes_193 hl (k := 7) rfl (by decide) (by decide) rfl (fun ls hl => ?_)
                            refine lv_goto (tgt := 130) hx hb dM_takes_196 (by decide) ?_
                            exact ih130 2 ((cv * (nI 64)) + (nI (cr_ba y 2 % 64))) (nI 0) _ _ _ ⟨⟨by omega, by omega, Or.inr ⟨rfl, cr_gd_n1 (by omega) (show ¬ (128 ≤ cr_ba y 2 ∧ cr_ba y 2 < 192) by omega)⟩, cr_acc_step (by omega) (by omega) hc (cr_acc_in y 4 1 (by omega))⟩, hP, hD, hS, lv_sub hl [4, 5, 6, 7, 1, 2, 0] rfl⟩ (by omega)
                          · rw [nI_leI (by omega) (by omega)] at c_170
                            refine lv_iconst (v := nI 1) hx hb dM_takes_173 (by decide) ?_
                            refine lv_goto (tgt := 178) hx hb dM_takes_174 (by decide) ?_
                            refine lv_istore (lv' := [(5, .int (nI 1)), (7, .int (nI (cr_ba y 2))), (0, .ref mo), (1, .int y), (2, .int (nI 4)), (3, .int (nI (cr_ba y 1))), (4, .int cv), (6, .int (nI 1))]) hx hb dM_takes_178 hl (by decide) rfl (fun ls hl => ?_)
                            refine lv_iload hx hb dM_takes_180 (lv_at hl 6 rfl) ?_
                            refine lv_bipush (v := nI 64) hx hb dM_takes_182 (by decide) ?_
                            refine lv_imul hx hb dM_takes_184 ?_
                            refine lv_iload hx hb dM_takes_185 (lv_at hl 1 rfl) ?_
                            refine lv_bipush (v := nI 63) hx hb dM_takes_187 (by decide) ?_
                            refine lv_iand hx hb dM_takes_189 ?_
                            refine cr_top (y := nI (cr_ba y 2 % 64)) (cr_and63 (by omega)) ?_
                            refine lv_iadd hx hb dM_takes_190 ?_
                            refine lv_istore (lv' := [(4, .int ((cv * (nI 64)) + (nI (cr_ba y 2 % 64)))), (5, .int (nI 1)), (7, .int (nI (cr_ba y 2))), (0, .ref mo), (1, .int y), (2, .int (nI 4)), (3, .int (nI (cr_ba y 1))), (6, .int (nI 1))]) hx hb dM_takes_191 hl (by decide) rfl (fun ls hl => ?_)
                            refine lv_iinc (v := nI 2) (lv' := [(6, .int (nI 2)), (4, .int ((cv * (nI 64)) + (nI (cr_ba y 2 % 64)))), (5, .int (nI 1)), (7, .int (nI (cr_ba y 2))), (0, .ref mo), (1, .int y), (2, .int (nI 4)), (3, .int (nI (cr_ba y 1)))]) hx hb dM_takes_193 hl (k := 7) rfl (by decide) (by decide) rfl (fun ls hl => ?_)
                            refine lv_goto (tgt := 130) hx hb dM_takes_196 (by decide) ?_
                            exact ih130 2 ((cv * (nI 64)) + (nI (cr_ba y 2 % 64))) (nI 1) _ _ _ ⟨⟨by omega, by omega, Or.inl ⟨rfl, cr_gd_s hg (show 128 ≤ cr_ba y 2 ∧ cr_ba y 2 < 192 by omega)⟩, cr_acc_step (by omega) (by omega) hc (cr_acc_in y 4 1 (by omega))⟩, hP, hD, hS, lv_sub hl [4, 5, 6, 7, 1, 2, 0] rfl⟩ (by omega)
                    · have hbk := cr_ba_lt y 3
                      refine lv_iload_n hx hb dM_takes_136 rfl (lv_at hl 1 rfl) ?_
                      refine lv_bipush (v := nI 24) hx hb dM_takes_137 (by decide) ?_
                      refine lv_bipush (v := nI 8) hx hb dM_takes_139 (by decide) ?_
                      refine lv_iload hx hb dM_takes_141 (lv_at hl 6 rfl) ?_
                      refine lv_imul hx hb dM_takes_143 ?_
                      refine cr_top (y := nI 16) (by decide) ?_
                      refine lv_isub hx hb dM_takes_144 ?_
                      refine cr_top (y := nI 8) (by decide) ?_
                      refine lv_ishr hx hb dM_takes_145 ?_
                      refine lv_sipush (v := nI 255) hx hb dM_takes_146 (by decide) ?_
                      refine lv_iand hx hb dM_takes_149 ?_
                      refine cr_top (y := nI (cr_ba y 3)) (cr_sba y _ 8 (by decide) (by decide)) ?_
                      refine lv_istore (lv' := [(7, .int (nI (cr_ba y 3))), (0, .ref mo), (1, .int y), (2, .int (nI 4)), (3, .int (nI (cr_ba y 1))), (4, .int cv), (5, .int (nI 1)), (6, .int (nI 2))]) hx hb dM_takes_150 hl (by decide) rfl (fun ls hl => ?_)
                      refine lv_iload hx hb dM_takes_152 (lv_at hl 6 rfl) ?_
                      refine lv_if_eq (tgt := 177) hx hb dM_takes_154 (by decide) (fun c_154 => ?_) (fun c_154 => ?_)
                      · exact absurd c_154 (by decide)
                      · refine lv_iload hx hb dM_takes_157 (lv_at hl 0 rfl) ?_
                        refine lv_sipush (v := nI 128) hx hb dM_takes_159 (by decide) ?_
                        refine lv_icmp_lt (tgt := 177) hx hb dM_takes_162 (by decide) (fun c_162 => ?_) (fun c_162 => ?_)
                        · rw [nI_ltI (by omega) (by omega)] at c_162
                          refine lv_iconst (v := nI 0) hx hb dM_takes_177 (by decide) ?_
                          refine lv_istore (lv' := [(5, .int (nI 0)), (7, .int (nI (cr_ba y 3))), (0, .ref mo), (1, .int y), (2, .int (nI 4)), (3, .int (nI (cr_ba y 1))), (4, .int cv), (6, .int (nI 2))]) hx hb dM_takes_178 hl (by decide) rfl (fun ls hl => ?_)
                          refine lv_iload hx hb dM_takes_180 (lv_at hl 6 rfl) ?_
                          refine lv_bipush (v := nI 64) hx hb dM_takes_182 (by decide) ?_
                          refine lv_imul hx hb dM_takes_184 ?_
                          refine lv_iload hx hb dM_takes_185 (lv_at hl 1 rfl) ?_
                          refine lv_bipush (v := nI 63) hx hb dM_takes_187 (by decide) ?_
                          refine lv_iand hx hb dM_takes_189 ?_
                          refine cr_top (y := nI (cr_ba y 3 % 64)) (cr_and63 (by omega)) ?_
                          refine lv_iadd hx hb dM_takes_190 ?_
                          refine lv_istore (lv' := [(4, .int ((cv * (nI 64)) + (nI (cr_ba y 3 % 64)))), (5, .int (nI 0)), (7, .int (nI (cr_ba y 3))), (0, .ref mo), (1, .int y), (2, .int (nI 4)), (3, .int (nI (cr_ba y 1))), (6, .int (nI 2))]) hx hb dM_takes_191 hl (by decide) rfl (fun ls hl => ?_)
                          refine lv_iinc (v := nI 3) (lv' := [(6, .int (nI 3)), (4, .int ((cv * (nI 64)) + (nI (cr_ba y 3 % 64)))), (5, .int (nI 0)), (7, .int (nI (cr_ba y 3))), (0, .ref mo), (1, .int y), (2, .int (nI 4)), (3, .int (nI (cr_ba y 1)))]) hx hb dM_takes_193 hl (k := 7) rfl (by decide) (by decide) rfl (fun ls hl => ?_)
                          refine lv_goto (tgt := 130) hx hb dM_takes_196 (by decide) ?_
                          exact ih130 3 ((cv * (nI 64)) + (nI (cr_ba y 3 % 64))) (nI 0) _ _ _ ⟨⟨by omega, by omega, Or.inr ⟨rfl, cr_gd_n1 (by omega) (show ¬ (128 ≤ cr_ba y 3 ∧ cr_ba y 3 < 192) by omega)⟩, cr_acc_step (by omega) (by omega) hc (cr_acc_in y 4 2 (by omega))⟩, hP, hD, hS, lv_sub hl [4, 5, 6, 7, 1, 2, 0] rfl⟩ (by omega)
                        · rw [nI_ltI (by omega) (by omega)] at c_162
                          refine lv_iload hx hb dM_takes_165 (lv_at hl 0 rfl) ?_
                          refine lv_sipush (v := nI 192) hx hb dM_takes_167 (by decide) ?_
                          refine lv_icmp_ge (tgt := 177) hx hb dM_takes_170 (by decide) (fun c_170 => ?_) (fun c_170 => ?_)
                          · rw [nI_leI (by omega) (by omega)] at c_170
                            refine lv_iconst (v := nI 0) hx hb dM_takes_177 (by decide) ?_
                            refine lv_istore (lv' := [(5, .int (nI 0)), (7, .int (nI (cr_ba y 3))), (0, .ref mo), (1, .int y), (2, .int (nI 4)), (3, .int (nI (cr_ba y 1))), (4, .int cv), (6, .int (nI 2))]) hx hb dM_takes_178 hl (by decide) rfl (fun ls hl => ?_)
                            refine lv_iload hx hb dM_takes_180 (lv_at hl 6 rfl) ?_
                            refine lv_bipush (v := nI 64) hx hb dM_takes_182 (by decide) ?_
                            refine lv_imul hx hb dM_takes_184 ?_
                            refine lv_iload hx hb dM_takes_185 (lv_at hl 1 rfl) ?_
                            refine lv_bipush (v := nI 63) hx hb dM_takes_187 (by decide) ?_
                            refine lv_iand hx hb dM_takes_189 ?_
                            refine cr_top (y := nI (cr_ba y 3 % 64)) (cr_and63 (by omega)) ?_
                            refine lv_iadd hx hb dM_takes_190 ?_
                            refine lv_istore (lv' := [(4, .int ((cv * (nI 64)) + (nI (cr_ba y 3 % 64)))), (5, .int (nI 0)), (7, .int (nI (cr_ba y 3))), (0, .ref mo), (1, .int y), (2, .int (nI 4)), (3, .int (nI (cr_ba y 1))), (6, .int (nI 2))]) hx hb dM_takes_191 hl (by decide) rfl (fun ls hl => ?_)
                            refine lv_iinc (v := nI 3) (lv' := [(6, .int (nI 3)), (4, .int ((cv * (nI 64)) + (nI (cr_ba y 3 % 64)))), (5, .int (nI 0)), (7, .int (nI (cr_ba y 3))), (0, .ref mo), (1, .int y), (2, .int (nI 4)), (3, .int (nI (cr_ba y 1)))]) hx hb dM_takes_193 hl (k := 7) rfl (by decide) (by decide) rfl (fun ls hl => ?_)
                            refine lv_goto (tgt := 130) hx hb dM_takes_196 (by decide) ?_
                            exact ih130 3 ((cv * (nI 64)) + (nI (cr_ba y 3 % 64))) (nI 0) _ _ _ ⟨⟨by omega, by omega, Or.inr ⟨rfl, cr_gd_n1 (by omega) (show ¬ (128 ≤ cr_ba y 3 ∧ cr_ba y 3 < 192) by omega)⟩, cr_acc_step (by omega) (by omega) hc (cr_acc_in y 4 2 (by omega))⟩, hP, hD, hS, lv_sub hl [4, 5, 6, 7, 1, 2, 0] rfl⟩ (by omega)
                          · rw [nI_leI (by omega) (by omega)] at c_170
                            refine lv_iconst (v := nI 1) hx hb dM_takes_173 (by decide) ?_
                            refine lv_goto (tgt := 178) hx hb dM_takes_174 (by decide) ?_
                            refine lv_istore (lv' := [(5, .int (nI 1)), (7, .int (nI (cr_ba y 3))), (0, .ref mo), (1, .int y), (2, .int (nI 4)), (3, .int (nI (cr_ba y 1))), (4, .int cv), (6, .int (nI 2))]) hx hb dM_takes_178 hl (by decide) rfl (fun ls hl => ?_)
                            refine lv_iload hx hb dM_takes_180 (lv_at hl 6 rfl) ?_
                            refine lv_bipush (v := nI 64) hx hb dM_takes_182 (by decide) ?_
                            refine lv_imul hx hb dM_takes_184 ?_
                            refine lv_iload hx hb dM_takes_185 (lv_at hl 1 rfl) ?_
                            refine lv_bipush (v := nI 63) hx hb dM_takes_187 (by decide) ?_
                            refine lv_iand hx hb dM_takes_189 ?_
                            refine cr_top (y := nI (cr_ba y 3 % 64)) (cr_and63 (by omega)) ?_
                            refine lv_iadd hx hb dM_takes_190 ?_
                            refine lv_istore (lv' := [(4, .int ((cv * (nI 64)) + (nI (cr_ba y 3 % 64)))), (5, .int (nI 1)), (7, .int (nI (cr_ba y 3))), (0, .ref mo), (1, .int y), (2, .int (nI 4)), (3, .int (nI (cr_ba y 1))), (6, .int (nI 2))]) hx hb dM_takes_191 hl (by decide) rfl (fun ls hl => ?_)
                            refine lv_iinc (v := nI 3) (lv' := [(6, .int (nI 3)), (4, .int ((cv * (nI 64)) + (nI (cr_ba y 3 % 64)))), (5, .int (nI 1)), (7, .int (nI (cr_ba y 3))), (0, .ref mo), (1, .int y), (2, .int (nI 4)), (3, .int (nI (cr_ba y 1)))]) hx hb dM_takes_193 hl (k := 7) rfl (by decide) (by decide) rfl (fun ls hl => ?_)
                            refine lv_goto (tgt := 130) hx hb dM_takes_196 (by decide) ?_
                            exact ih130 3 ((cv * (nI 64)) + (nI (cr_ba y 3 % 64))) (nI 1) _ _ _ ⟨⟨by omega, by omega, Or.inl ⟨rfl, cr_gd_s hg (show 128 ≤ cr_ba y 3 ∧ cr_ba y 3 < 192 by omega)⟩, cr_acc_step (by omega) (by omega) hc (cr_acc_in y 4 2 (by omega))⟩, hP, hD, hS, lv_sub hl [4, 5, 6, 7, 1, 2, 0] rfl⟩ (by omega)
                    · have hbk := cr_ba_lt y 4
                      refine lv_iload_n hx hb dM_takes_136 rfl (lv_at hl 1 rfl) ?_
                      refine lv_bipush (v := nI 24) hx hb dM_takes_137 (by decide) ?_
                      refine lv_bipush (v := nI 8) hx hb dM_takes_139 (by decide) ?_
                      refine lv_iload hx hb dM_takes_141 (lv_at hl 6 rfl) ?_
                      refine lv_imul hx hb dM_takes_143 ?_
                      refine cr_top (y := nI 24) (by decide) ?_
                      refine lv_isub hx hb dM_takes_144 ?_
                      refine cr_top (y := nI 0) (by decide) ?_
                      refine lv_ishr hx hb dM_takes_145 ?_
                      refine lv_sipush (v := nI 255) hx hb dM_takes_146 (by decide) ?_
                      refine lv_iand hx hb dM_takes_149 ?_
                      refine cr_top (y := nI (cr_ba y 4)) (cr_sba y _ 0 (by decide) (by decide)) ?_
                      refine lv_istore (lv' := [(7, .int (nI (cr_ba y 4))), (0, .ref mo), (1, .int y), (2, .int (nI 4)), (3, .int (nI (cr_ba y 1))), (4, .int cv), (5, .int (nI 1)), (6, .int (nI 3))]) hx hb dM_takes_150 hl (by decide) rfl (fun ls hl => ?_)
                      refine lv_iload hx hb dM_takes_152 (lv_at hl 6 rfl) ?_
                      refine lv_if_eq (tgt := 177) hx hb dM_takes_154 (by decide) (fun c_154 => ?_) (fun c_154 => ?_)
                      · exact absurd c_154 (by decide)
                      · refine lv_iload hx hb dM_takes_157 (lv_at hl 0 rfl) ?_
                        refine lv_sipush (v := nI 128) hx hb dM_takes_159 (by decide) ?_
                        refine lv_icmp_lt (tgt := 177) hx hb dM_takes_162 (by decide) (fun c_162 => ?_) (fun c_162 => ?_)
                        · rw [nI_ltI (by omega) (by omega)] at c_162
                          refine lv_iconst (v := nI 0) hx hb dM_takes_177 (by decide) ?_
                          refine lv_istore (lv' := [(5, .int (nI 0)), (7, .int (nI (cr_ba y 4))), (0, .ref mo), (1, .int y), (2, .int (nI 4)), (3, .int (nI (cr_ba y 1))), (4, .int cv), (6, .int (nI 3))]) hx hb dM_takes_178 hl (by decide) rfl (fun ls hl => ?_)
                          refine lv_iload hx hb dM_takes_180 (lv_at hl 6 rfl) ?_
                          refine lv_bipush (v := nI 64) hx hb dM_takes_182 (by decide) ?_
                          refine lv_imul hx hb dM_takes_184 ?_
                          refine lv_iload hx hb dM_takes_185 (lv_at hl 1 rfl) ?_
                          refine lv_bipush (v := nI 63) hx hb dM_takes_187 (by decide) ?_
                          refine lv_iand hx hb dM_takes_189 ?_
                          refine cr_top (y := nI (cr_ba y 4 % 64)) (cr_and63 (by omega)) ?_
                          refine lv_iadd hx hb dM_takes_190 ?_
                          refine lv_istore (lv' := [(4, .int ((cv * (nI 64)) + (nI (cr_ba y 4 % 64)))), (5, .int (nI 0)), (7, .int (nI (cr_ba y 4))), (0, .ref mo), (1, .int y), (2, .int (nI 4)), (3, .int (nI (cr_ba y 1))), (6, .int (nI 3))]) hx hb dM_takes_191 hl (by decide) rfl (fun ls hl => ?_)
                          refine lv_iinc (v := nI 4) (lv' := [(6, .int (nI 4)), (4, .int ((cv * (nI 64)) + (nI (cr_ba y 4 % 64)))), (5, .int (nI 0)), (7, .int (nI (cr_ba y 4))), (0, .ref mo), (1, .int y), (2, .int (nI 4)), (3, .int (nI (cr_ba y 1)))]) hx hb dM_takes_193 hl (k := 7) rfl (by decide) (by decide) rfl (fun ls hl => ?_)
                          refine lv_goto (tgt := 130) hx hb dM_takes_196 (by decide) ?_
                          exact ih130 4 ((cv * (nI 64)) + (nI (cr_ba y 4 % 64))) (nI 0) _ _ _ ⟨⟨by omega, by omega, Or.inr ⟨rfl, cr_gd_n1 (by omega) (show ¬ (128 ≤ cr_ba y 4 ∧ cr_ba y 4 < 192) by omega)⟩, cr_acc_step (by omega) (by omega) hc (cr_acc_in y 4 3 (by omega))⟩, hP, hD, hS, lv_sub hl [4, 5, 6, 7, 1, 2, 0] rfl⟩ (by omega)
                        · rw [nI_ltI (by omega) (by omega)] at c_162
                          refine lv_iload hx hb dM_takes_165 (lv_at hl 0 rfl) ?_
                          refine lv_sipush (v := nI 192) hx hb dM_takes_167 (by decide) ?_
                          refine lv_icmp_ge (tgt := 177) hx hb dM_takes_170 (by decide) (fun c_170 => ?_) (fun c_170 => ?_)
                          · rw [nI_leI (by omega) (by omega)] at c_170
                            refine lv_iconst (v := nI 0) hx hb dM_takes_177 (by decide) ?_
                            refine lv_istore (lv' := [(5, .int (nI 0)), (7, .int (nI (cr_ba y 4))), (0, .ref mo), (1, .int y), (2, .int (nI 4)), (3, .int (nI (cr_ba y 1))), (4, .int cv), (6, .int (nI 3))]) hx hb dM_takes_178 hl (by decide) rfl (fun ls hl => ?_)
                            refine lv_iload hx hb dM_takes_180 (lv_at hl 6 rfl) ?_
                            refine lv_bipush (v := nI 64) hx hb dM_takes_182 (by decide) ?_
                            refine lv_imul hx hb dM_takes_184 ?_
                            refine lv_iload hx hb dM_takes_185 (lv_at hl 1 rfl) ?_
                            refine lv_bipush (v := nI 63) hx hb dM_takes_187 (by decide) ?_
                            refine lv_iand hx hb dM_takes_189 ?_
                            refine cr_top (y := nI (cr_ba y 4 % 64)) (cr_and63 (by omega)) ?_
                            refine lv_iadd hx hb dM_takes_190 ?_
                            refine lv_istore (lv' := [(4, .int ((cv * (nI 64)) + (nI (cr_ba y 4 % 64)))), (5, .int (nI 0)), (7, .int (nI (cr_ba y 4))), (0, .ref mo), (1, .int y), (2, .int (nI 4)), (3, .int (nI (cr_ba y 1))), (6, .int (nI 3))]) hx hb dM_takes_191 hl (by decide) rfl (fun ls hl => ?_)
                            refine lv_iinc (v := nI 4) (lv' := [(6, .int (nI 4)), (4, .int ((cv * (nI 64)) + (nI (cr_ba y 4 % 64)))), (5, .int (nI 0)), (7, .int (nI (cr_ba y 4))), (0, .ref mo), (1, .int y), (2, .int (nI 4)), (3, .int (nI (cr_ba y 1)))]) hx hb dM_takes_193 hl (k := 7) rfl (by decide) (by decide) rfl (fun ls hl => ?_)
                            refine lv_goto (tgt := 130) hx hb dM_takes_196 (by decide) ?_
                            exact ih130 4 ((cv * (nI 64)) + (nI (cr_ba y 4 % 64))) (nI 0) _ _ _ ⟨⟨by omega, by omega, Or.inr ⟨rfl, cr_gd_n1 (by omega) (show ¬ (128 ≤ cr_ba y 4 ∧ cr_ba y 4 < 192) by omega)⟩, cr_acc_step (by omega) (by omega) hc (cr_acc_in y 4 3 (by omega))⟩, hP, hD, hS, lv_sub hl [4, 5, 6, 7, 1, 2, 0] rfl⟩ (by omega)
                          · rw [nI_leI (by omega) (by omega)] at c_170
                            refine lv_iconst (v := nI 1) hx hb dM_takes_173 (by decide) ?_
                            refine lv_goto (tgt := 178) hx hb dM_takes_174 (by decide) ?_
                            refine lv_istore (lv' := [(5, .int (nI 1)), (7, .int (nI (cr_ba y 4))), (0, .ref mo), (1, .int y), (2, .int (nI 4)), (3, .int (nI (cr_ba y 1))), (4, .int cv), (6, .int (nI 3))]) hx hb dM_takes_178 hl (by decide) rfl (fun ls hl => ?_)
                            refine lv_iload hx hb dM_takes_180 (lv_at hl 6 rfl) ?_
                            refine lv_bipush (v := nI 64) hx hb dM_takes_182 (by decide) ?_
                            refine lv_imul hx hb dM_takes_184 ?_
                            refine lv_iload hx hb dM_takes_185 (lv_at hl 1 rfl) ?_
                            refine lv_bipush (v := nI 63) hx hb dM_takes_187 (by decide) ?_
                            refine lv_iand hx hb dM_takes_189 ?_
                            refine cr_top (y := nI (cr_ba y 4 % 64)) (cr_and63 (by omega)) ?_
                            refine lv_iadd hx hb dM_takes_190 ?_
                            refine lv_istore (lv' := [(4, .int ((cv * (nI 64)) + (nI (cr_ba y 4 % 64)))), (5, .int (nI 1)), (7, .int (nI (cr_ba y 4))), (0, .ref mo), (1, .int y), (2, .int (nI 4)), (3, .int (nI (cr_ba y 1))), (6, .int (nI 3))]) hx hb dM_takes_191 hl (by decide) rfl (fun ls hl => ?_)
                            refine lv_iinc (v := nI 4) (lv' := [(6, .int (nI 4)), (4, .int ((cv * (nI 64)) + (nI (cr_ba y 4 % 64)))), (5, .int (nI 1)), (7, .int (nI (cr_ba y 4))), (0, .ref mo), (1, .int y), (2, .int (nI 4)), (3, .int (nI (cr_ba y 1)))]) hx hb dM_takes_193 hl (k := 7) rfl (by decide) (by decide) rfl (fun ls hl => ?_)
                            refine lv_goto (tgt := 130) hx hb dM_takes_196 (by decide) ?_
                            exact ih130 4 ((cv * (nI 64)) + (nI (cr_ba y 4 % 64))) (nI 1) _ _ _ ⟨⟨by omega, by omega, Or.inl ⟨rfl, cr_gd_s hg (show 128 ≤ cr_ba y 4 ∧ cr_ba y 4 < 192 by omega)⟩, cr_acc_step (by omega) (by omega) hc (cr_acc_in y 4 3 (by omega))⟩, hP, hD, hS, lv_sub hl [4, 5, 6, 7, 1, 2, 0] rfl⟩ (by omega)
                · refine lv_iload hx hb dM_takes_130 (lv_at hl 6 rfl) ?_
                  refine lv_iload_n hx hb dM_takes_132 rfl (lv_at hl 2 rfl) ?_
                  refine lv_icmp_ge (tgt := 199) hx hb dM_takes_133 (by decide) (fun c_133 => ?_) (fun c_133 => ?_)
                  · rw [nI_leI (by omega) (by omega)] at c_133
                    refine lv_iload hx hb dM_takes_199 (lv_at hl 5 rfl) ?_
                    refine lv_if_eq (tgt := 233) hx hb dM_takes_201 (by decide) (fun c_201 => ?_) (fun c_201 => ?_)
                    · refine lv_iconst (v := nI 0) hx hb dM_takes_233 (by decide) ?_
                      exact W.zret (v := nI 0) (ty := .boolean) hx hb hr (by first | rfl | decide) (fun t9 ht9 hW9 => ⟨⟨nI 0, [(mo, .inr (2, [.int (nI 0), .ref l1, .ref l2, .int (nI n), .ref l3, .ref l4, .int (nI nk), .ref l5, .ref l6, .int (nI mn), .ref l7, .ref l8, .ref l9, .int by0, .int fd])), (l1, .inl (cI, 2400, .inl f)), (l2, .inl (cI, 2400, .inl g)), (l3, .inl (cI, 2400, .inl kf)), (l4, .inl (cI, 2400, .inl kg)), (l5, .inl (cI, 4800, .inl ef)), (l6, .inl (cI, 4800, .inl eg)), (l7, .inl (cZ, 1120, .inl mt)), (l8, .inl (cI, 4, .inl fr)), (l9, .inl (cI, 4, .inl tt))], rfl, ⟨rfl, Or.inr ⟨rfl, fun h => hg (by rw [show i = 4 from (by omega)]; exact cr_Tk_gd hSet (by omega) (by omega) h)⟩⟩, by rw [ht9]; exact hP, va_K.moved hW9.alike hK, hD⟩, hS.F ht9⟩) hS.2.2 dM_takes_234
                    · exact absurd (by decide) c_201
                  · rw [nI_leI (by omega) (by omega)] at c_133
                    rcases (show i = 1 ∨ i = 2 ∨ i = 3 by omega) with rfl | rfl | rfl
                    · have hbk := cr_ba_lt y 2
                      refine lv_iload_n hx hb dM_takes_136 rfl (lv_at hl 1 rfl) ?_
                      refine lv_bipush (v := nI 24) hx hb dM_takes_137 (by decide) ?_
                      refine lv_bipush (v := nI 8) hx hb dM_takes_139 (by decide) ?_
                      refine lv_iload hx hb dM_takes_141 (lv_at hl 6 rfl) ?_
                      refine lv_imul hx hb dM_takes_143 ?_
                      refine cr_top (y := nI 8) (by decide) ?_
                      refine lv_isub hx hb dM_takes_144 ?_
                      refine cr_top (y := nI 16) (by decide) ?_
                      refine lv_ishr hx hb dM_takes_145 ?_
                      refine lv_sipush (v := nI 255) hx hb dM_takes_146 (by decide) ?_
                      refine lv_iand hx hb dM_takes_149 ?_
                      refine cr_top (y := nI (cr_ba y 2)) (cr_sba y _ 16 (by decide) (by decide)) ?_
                      refine lv_istore (lv' := [(7, .int (nI (cr_ba y 2))), (0, .ref mo), (1, .int y), (2, .int (nI 4)), (3, .int (nI (cr_ba y 1))), (4, .int cv), (5, .int (nI 0)), (6, .int (nI 1))]) hx hb dM_takes_150 hl (by decide) rfl (fun ls hl => ?_)
                      refine lv_iload hx hb dM_takes_152 (lv_at hl 6 rfl) ?_
                      refine lv_if_eq (tgt := 177) hx hb dM_takes_154 (by decide) (fun c_154 => ?_) (fun c_154 => ?_)
                      · refine lv_iconst (v := nI 0) hx hb dM_takes_177 (by decide) ?_
                        refine lv_istore (lv' := [(5, .int (nI 0)), (7, .int (nI (cr_ba y 2))), (0, .ref mo), (1, .int y), (2, .int (nI 4)), (3, .int (nI (cr_ba y 1))), (4, .int cv), (6, .int (nI 1))]) hx hb dM_takes_178 hl (by decide) rfl (fun ls hl => ?_)
                        refine lv_iload hx hb dM_takes_180 (lv_at hl 6 rfl) ?_
                        refine lv_bipush (v := nI 64) hx hb dM_takes_182 (by decide) ?_
                        refine lv_imul hx hb dM_takes_184 ?_
                        refine lv_iload hx hb dM_takes_185 (lv_at hl 1 rfl) ?_
                        refine lv_bipush (v := nI 63) hx hb dM_takes_187 (by decide) ?_
                        refine lv_iand hx hb dM_takes_189 ?_
                        refine cr_top (y := nI (cr_ba y 2 % 64)) (cr_and63 (by omega)) ?_
                        refine lv_iadd hx hb dM_takes_190 ?_
                        refine lv_istore (lv' := [(4, .int ((cv * (nI 64)) + (nI (cr_ba y 2 % 64)))), (5, .int (nI 0)), (7, .int (nI (cr_ba y 2))), (0, .ref mo), (1, .int y), (2, .int (nI 4)), (3, .int (nI (cr_ba y 1))), (6, .int (nI 1))]) hx hb dM_takes_191 hl (by decide) rfl (fun ls hl => ?_)
                        refine lv_iinc (v := nI 2) (lv' := [(6, .int (nI 2)), (4, .int ((cv * (nI 64)) + (nI (cr_ba y 2 % 64)))), (5, .int (nI 0)), (7, .int (nI (cr_ba y 2))), (0, .ref mo), (1, .int y), (2, .int (nI 4)), (3, .int (nI (cr_ba y 1)))]) hx hb dM_takes_193 hl (k := 7) rfl (by decide) (by decide) rfl (fun ls hl => ?_)
                        refine lv_goto (tgt := 130) hx hb dM_takes_196 (by decide) ?_
                        exact ih130 2 ((cv * (nI 64)) + (nI (cr_ba y 2 % 64))) (nI 0) _ _ _ ⟨⟨by omega, by omega, Or.inr ⟨rfl, cr_gd_n0 hg⟩, cr_acc_step (by omega) (by omega) hc (cr_acc_in y 4 1 (by omega))⟩, hP, hD, hS, lv_sub hl [4, 5, 6, 7, 1, 2, 0] rfl⟩ (by omega)
                      · exact absurd (by decide) c_154
                    · have hbk := cr_ba_lt y 3
                      refine lv_iload_n hx hb dM_takes_136 rfl (lv_at hl 1 rfl) ?_
                      refine lv_bipush (v := nI 24) hx hb dM_takes_137 (by decide) ?_
                      refine lv_bipush (v := nI 8) hx hb dM_takes_139 (by decide) ?_
                      refine lv_iload hx hb dM_takes_141 (lv_at hl 6 rfl) ?_
                      refine lv_imul hx hb dM_takes_143 ?_
                      refine cr_top (y := nI 16) (by decide) ?_
                      refine lv_isub hx hb dM_takes_144 ?_
                      refine cr_top (y := nI 8) (by decide) ?_
                      refine lv_ishr hx hb dM_takes_145 ?_
                      refine lv_sipush (v := nI 255) hx hb dM_takes_146 (by decide) ?_
                      refine lv_iand hx hb dM_takes_149 ?_
                      refine cr_top (y := nI (cr_ba y 3)) (cr_sba y _ 8 (by decide) (by decide)) ?_
                      refine lv_istore (lv' := [(7, .int (nI (cr_ba y 3))), (0, .ref mo), (1, .int y), (2, .int (nI 4)), (3, .int (nI (cr_ba y 1))), (4, .int cv), (5, .int (nI 0)), (6, .int (nI 2))]) hx hb dM_takes_150 hl (by decide) rfl (fun ls hl => ?_)
                      refine lv_iload hx hb dM_takes_152 (lv_at hl 6 rfl) ?_
                      refine lv_if_eq (tgt := 177) hx hb dM_takes_154 (by decide) (fun c_154 => ?_) (fun c_154 => ?_)
                      · refine lv_iconst (v := nI 0) hx hb dM_takes_177 (by decide) ?_
                        refine lv_istore (lv' := [(5, .int (nI 0)), (7, .int (nI (cr_ba y 3))), (0, .ref mo), (1, .int y), (2, .int (nI 4)), (3, .int (nI (cr_ba y 1))), (4, .int cv), (6, .int (nI 2))]) hx hb dM_takes_178 hl (by decide) rfl (fun ls hl => ?_)
                        refine lv_iload hx hb dM_takes_180 (lv_at hl 6 rfl) ?_
                        refine lv_bipush (v := nI 64) hx hb dM_takes_182 (by decide) ?_
                        refine lv_imul hx hb dM_takes_184 ?_
                        refine lv_iload hx hb dM_takes_185 (lv_at hl 1 rfl) ?_
                        refine lv_bipush (v := nI 63) hx hb dM_takes_187 (by decide) ?_
                        refine lv_iand hx hb dM_takes_189 ?_
                        refine cr_top (y := nI (cr_ba y 3 % 64)) (cr_and63 (by omega)) ?_
                        refine lv_iadd hx hb dM_takes_190 ?_
                        refine lv_istore (lv' := [(4, .int ((cv * (nI 64)) + (nI (cr_ba y 3 % 64)))), (5, .int (nI 0)), (7, .int (nI (cr_ba y 3))), (0, .ref mo), (1, .int y), (2, .int (nI 4)), (3, .int (nI (cr_ba y 1))), (6, .int (nI 2))]) hx hb dM_takes_191 hl (by decide) rfl (fun ls hl => ?_)
                        refine lv_iinc (v := nI 3) (lv' := [(6, .int (nI 3)), (4, .int ((cv * (nI 64)) + (nI (cr_ba y 3 % 64)))), (5, .int (nI 0)), (7, .int (nI (cr_ba y 3))), (0, .ref mo), (1, .int y), (2, .int (nI 4)), (3, .int (nI (cr_ba y 1)))]) hx hb dM_takes_193 hl (k := 7) rfl (by decide) (by decide) rfl (fun ls hl => ?_)
                        refine lv_goto (tgt := 130) hx hb dM_takes_196 (by decide) ?_
                        exact ih130 3 ((cv * (nI 64)) + (nI (cr_ba y 3 % 64))) (nI 0) _ _ _ ⟨⟨by omega, by omega, Or.inr ⟨rfl, cr_gd_n0 hg⟩, cr_acc_step (by omega) (by omega) hc (cr_acc_in y 4 2 (by omega))⟩, hP, hD, hS, lv_sub hl [4, 5, 6, 7, 1, 2, 0] rfl⟩ (by omega)
                      · exact absurd (by decide) c_154
                    · have hbk := cr_ba_lt y 4
                      refine lv_iload_n hx hb dM_takes_136 rfl (lv_at hl 1 rfl) ?_
                      refine lv_bipush (v := nI 24) hx hb dM_takes_137 (by decide) ?_
                      refine lv_bipush (v := nI 8) hx hb dM_takes_139 (by decide) ?_
                      refine lv_iload hx hb dM_takes_141 (lv_at hl 6 rfl) ?_
                      refine lv_imul hx hb dM_takes_143 ?_
                      refine cr_top (y := nI 24) (by decide) ?_
                      refine lv_isub hx hb dM_takes_144 ?_
                      refine cr_top (y := nI 0) (by decide) ?_
                      refine lv_ishr hx hb dM_takes_145 ?_
                      refine lv_sipush (v := nI 255) hx hb dM_takes_146 (by decide) ?_
                      refine lv_iand hx hb dM_takes_149 ?_
                      refine cr_top (y := nI (cr_ba y 4)) (cr_sba y _ 0 (by decide) (by decide)) ?_
                      refine lv_istore (lv' := [(7, .int (nI (cr_ba y 4))), (0, .ref mo), (1, .int y), (2, .int (nI 4)), (3, .int (nI (cr_ba y 1))), (4, .int cv), (5, .int (nI 0)), (6, .int (nI 3))]) hx hb dM_takes_150 hl (by decide) rfl (fun ls hl => ?_)
                      refine lv_iload hx hb dM_takes_152 (lv_at hl 6 rfl) ?_
                      refine lv_if_eq (tgt := 177) hx hb dM_takes_154 (by decide) (fun c_154 => ?_) (fun c_154 => ?_)
                      · refine lv_iconst (v := nI 0) hx hb dM_takes_177 (by decide) ?_
                        refine lv_istore (lv' := [(5, .int (nI 0)), (7, .int (nI (cr_ba y 4))), (0, .ref mo), (1, .int y), (2, .int (nI 4)), (3, .int (nI (cr_ba y 1))), (4, .int cv), (6, .int (nI 3))]) hx hb dM_takes_178 hl (by decide) rfl (fun ls hl => ?_)
                        refine lv_iload hx hb dM_takes_180 (lv_at hl 6 rfl) ?_
                        refine lv_bipush (v := nI 64) hx hb dM_takes_182 (by decide) ?_
                        refine lv_imul hx hb dM_takes_184 ?_
                        refine lv_iload hx hb dM_takes_185 (lv_at hl 1 rfl) ?_
                        refine lv_bipush (v := nI 63) hx hb dM_takes_187 (by decide) ?_
                        refine lv_iand hx hb dM_takes_189 ?_
                        refine cr_top (y := nI (cr_ba y 4 % 64)) (cr_and63 (by omega)) ?_
                        refine lv_iadd hx hb dM_takes_190 ?_
                        refine lv_istore (lv' := [(4, .int ((cv * (nI 64)) + (nI (cr_ba y 4 % 64)))), (5, .int (nI 0)), (7, .int (nI (cr_ba y 4))), (0, .ref mo), (1, .int y), (2, .int (nI 4)), (3, .int (nI (cr_ba y 1))), (6, .int (nI 3))]) hx hb dM_takes_191 hl (by decide) rfl (fun ls hl => ?_)
                        refine lv_iinc (v := nI 4) (lv' := [(6, .int (nI 4)), (4, .int ((cv * (nI 64)) + (nI (cr_ba y 4 % 64)))), (5, .int (nI 0)), (7, .int (nI (cr_ba y 4))), (0, .ref mo), (1, .int y), (2, .int (nI 4)), (3, .int (nI (cr_ba y 1)))]) hx hb dM_takes_193 hl (k := 7) rfl (by decide) (by decide) rfl (fun ls hl => ?_)
                        refine lv_goto (tgt := 130) hx hb dM_takes_196 (by decide) ?_
                        exact ih130 4 ((cv * (nI 64)) + (nI (cr_ba y 4 % 64))) (nI 0) _ _ _ ⟨⟨by omega, by omega, Or.inr ⟨rfl, cr_gd_n0 hg⟩, cr_acc_step (by omega) (by omega) hc (cr_acc_in y 4 3 (by omega))⟩, hP, hD, hS, lv_sub hl [4, 5, 6, 7, 1, 2, 0] rfl⟩ (by omega)
                      · exact absurd (by decide) c_154
              · refine lv_iload_n hx hb dM_takes_68 rfl (lv_at hl 4 rfl) ?_
                refine lv_iconst (v := nI 1) hx hb dM_takes_69 (by decide) ?_
                refine lv_icmp_ne (tgt := 88) hx hb dM_takes_70 (by decide) (fun c_70 => ?_) (fun c_70 => ?_)
                · refine lv_iload hx hb dM_takes_88 (lv_at hl 0 rfl) ?_
                  refine lv_if_lt (tgt := 124) hx hb dM_takes_90 (by decide) (fun c_90 => ?_) (fun c_90 => ?_)
                  · rw [cr_lt0] at c_90
                    refine lv_iconst (v := nI 0) hx hb dM_takes_124 (by decide) ?_
                    refine lv_istore (lv' := [(5, .int (nI 0)), (4, .int cv0), (3, .int (nI (cr_ba y 1))), (0, .ref mo), (1, .int y), (2, .int (nI 4))]) hx hb dM_takes_125 hl (by decide) rfl (fun ls hl => ?_)
                    exact jn127 (nI 0) _ _ _ ⟨Or.inr ⟨rfl, cr_ngd_1 (show ¬ (240 ≤ cr_ba y 1 ∧ cr_ba y 1 < 240 + 8) by omega)⟩, hP, hD, hS, lv_sub hl [3, 4, 5, 2, 1, 0] rfl⟩
                  · rw [cr_lt0] at c_90
                    refine lv_iload hx hb dM_takes_93 (lv_at hl 0 rfl) ?_
                    refine lv_iload_n hx hb dM_takes_95 rfl (lv_at hl 4 rfl) ?_
                    refine lv_iconst (v := nI 2) hx hb dM_takes_96 (by decide) ?_
                    refine lv_icmp_ne (tgt := 105) hx hb dM_takes_97 (by decide) (fun c_97 => ?_) (fun c_97 => ?_)
                    · refine lv_iload_n hx hb dM_takes_105 rfl (lv_at hl 4 rfl) ?_
                      refine lv_iconst (v := nI 3) hx hb dM_takes_106 (by decide) ?_
                      refine lv_icmp_ne (tgt := 115) hx hb dM_takes_107 (by decide) (fun c_107 => ?_) (fun c_107 => ?_)
                      · refine lv_bipush (v := nI 8) hx hb dM_takes_115 (by decide) ?_
                        refine lv_icmp_ge (tgt := 124) hx hb dM_takes_117 (by decide) (fun c_117 => ?_) (fun c_117 => ?_)
                        · rw [cr_nle' (by omega)] at c_117
                          refine lv_iconst (v := nI 0) hx hb dM_takes_124 (by decide) ?_
                          refine lv_istore (lv' := [(5, .int (nI 0)), (4, .int cv0), (3, .int (nI (cr_ba y 1))), (0, .ref mo), (1, .int y), (2, .int (nI 4))]) hx hb dM_takes_125 hl (by decide) rfl (fun ls hl => ?_)
                          exact jn127 (nI 0) _ _ _ ⟨Or.inr ⟨rfl, cr_ngd_1 (show ¬ (240 ≤ cr_ba y 1 ∧ cr_ba y 1 < 240 + 8) by omega)⟩, hP, hD, hS, lv_sub hl [3, 4, 5, 2, 1, 0] rfl⟩
                        · rw [cr_nle' (by omega)] at c_117
                          refine lv_iconst (v := nI 1) hx hb dM_takes_120 (by decide) ?_
                          refine lv_goto (tgt := 125) hx hb dM_takes_121 (by decide) ?_
                          refine lv_istore (lv' := [(5, .int (nI 1)), (4, .int cv0), (3, .int (nI (cr_ba y 1))), (0, .ref mo), (1, .int y), (2, .int (nI 4))]) hx hb dM_takes_125 hl (by decide) rfl (fun ls hl => ?_)
                          exact jn127 (nI 1) _ _ _ ⟨Or.inl ⟨rfl, cr_gd_1 (show 240 ≤ cr_ba y 1 ∧ cr_ba y 1 < 240 + 8 by omega)⟩, hP, hD, hS, lv_sub hl [3, 4, 5, 2, 1, 0] rfl⟩
                      · exact absurd c_107 (by decide)
                    · exact absurd c_97 (by decide)
                · exact absurd c_70 (by decide)
            · exact absurd c_50 (by decide)
          · exact absurd c_37 (by decide)
        · exact absurd c_28 (by decide)
    · refine lv_iconst (v := nI 0) hx hb dM_takes_15 (by decide) ?_
      exact W.zret (v := nI 0) (ty := .boolean) hx hb hr (by first | rfl | decide) (fun t9 ht9 hW9 => ⟨⟨nI 0, [(mo, .inr (2, [.int (nI 0), .ref l1, .ref l2, .int (nI n), .ref l3, .ref l4, .int (nI nk), .ref l5, .ref l6, .int (nI mn), .ref l7, .ref l8, .ref l9, .int by0, .int fd])), (l1, .inl (cI, 2400, .inl f)), (l2, .inl (cI, 2400, .inl g)), (l3, .inl (cI, 2400, .inl kf)), (l4, .inl (cI, 2400, .inl kg)), (l5, .inl (cI, 4800, .inl ef)), (l6, .inl (cI, 4800, .inl eg)), (l7, .inl (cZ, 1120, .inl mt)), (l8, .inl (cI, 4, .inl fr)), (l9, .inl (cI, 4, .inl tt))], rfl, ⟨rfl, Or.inr ⟨rfl, cr_Tk_out (by rw [Int32.le_iff_toInt_le, nI_toInt (by decide)] at c_12; omega)⟩⟩, by rw [ht9]; exact hP, va_K.moved hW9.alike hK, hD⟩, hS.F ht9⟩) hS.2.2 dM_takes_16

set_option maxHeartbeats 4000000 in
set_option maxRecDepth 100000 in
theorem m_standsFor (l : Launch) (dC : Nat → ClassId) (dI : Nat → Nat → Nat) (sz : Nat) (c0 : Nat) (hc : c0 < 1120) : Met l yM_standsFor wsM_standsFor ({ frames := 1, cells := 0, slots := 0, locals := 20 }) (va_Pc [.int (nI c0)] (cr_pre dC dI [] [] sz)) (va_Qi (fun (rr : Int32) (u : va_W) => u = [] ∧ rr = nI (cr_sf c0)) (cr_at dC dI [] (va_A [] sz)) (va_A [] sz)) 0 0 (va_A [] sz) := by
  refine Met.ofW (cc := cM_standsFor) (maxL := 2) (ret := (some .int)) (by decide) rfl ?_
  intro p e s m args below meth c s₁ B hml hv
  obtain ⟨rfl, hsz, hP, hK, hD0⟩ := hv
  have hx := B.exec
  have hb := B.bytes
  have hr := B.returns
  have hts := atoms_spec (ws := wsM_standsFor) B.pre
  have hown : s.vm.findClass RX2 = some m.cls := findClass_of_methodNamed B.named
  have hlocks := B.notSynchronized
  subst hsz
  have hD := hD0.self (sz := s.heap.size)
  generalize hAe : va_A [] s.heap.size = A at hD ⊢
  have hA : ∀ q : Nat, s.heap.size ≤ q → A q := fun q h => by rw [← hAe]; exact Or.inr h
  have hS : va_S A s.heap s.heap [] := va_S.rf
  have hP : va_P (dC, dI) crCl [] s.heap := hP
  have hl := lv_entry ([.int (nI c0)]) (n := 2) (Nat.le_of_ble_eq_true rfl)
  rw [lg_entry_eq]
  generalize (lg_sl ([.int (nI c0)]) ++ List.replicate (2 - (lg_sl ([.int (nI c0)])).length) Slot.unset).toArray = ls at hl ⊢
  have hl : lv_has ls 2 [(0, .int (nI c0))] := hl
  rcases (show (0 ≤ c0 ∧ c0 ≤ 64) ∨ (65 ≤ c0 ∧ c0 ≤ 90) ∨ (91 ≤ c0 ∧ c0 ≤ 191) ∨ (192 ≤ c0 ∧ c0 ≤ 214) ∨ (215 ≤ c0 ∧ c0 ≤ 215) ∨ (216 ≤ c0 ∧ c0 ≤ 222) ∨ (223 ≤ c0 ∧ c0 ≤ 912) ∨ (913 ≤ c0 ∧ c0 ≤ 937) ∨ (938 ≤ c0 ∧ c0 ≤ 1023) ∨ (1024 ≤ c0 ∧ c0 ≤ 1039) ∨ (1040 ≤ c0 ∧ c0 ≤ 1071) ∨ (1072 ≤ c0 ∧ c0 ≤ 1119) by omega) with hiv | hiv | hiv | hiv | hiv | hiv | hiv | hiv | hiv | hiv | hiv | hiv
  · have hslin := cr_sl_in c0
    refine lv_iload_n hx hb dM_standsFor_0 rfl (lv_at hl 0 rfl) ?_
    refine lv_bipush (v := nI 65) hx hb dM_standsFor_1 (by decide) ?_
    refine lv_icmp_lt (tgt := 12) hx hb dM_standsFor_3 (by decide) (fun c_3 => ?_) (fun c_3 => ?_)
    · refine lv_iload_n hx hb dM_standsFor_12 rfl (lv_at hl 0 rfl) ?_
      refine lv_sipush (v := nI 192) hx hb dM_standsFor_13 (by decide) ?_
      refine lv_icmp_lt (tgt := 33) hx hb dM_standsFor_16 (by decide) (fun c_16 => ?_) (fun c_16 => ?_)
      · refine lv_iload_n hx hb dM_standsFor_33 rfl (lv_at hl 0 rfl) ?_
        refine lv_sipush (v := nI 913) hx hb dM_standsFor_34 (by decide) ?_
        refine lv_icmp_lt (tgt := 47) hx hb dM_standsFor_37 (by decide) (fun c_37 => ?_) (fun c_37 => ?_)
        · refine lv_iload_n hx hb dM_standsFor_47 rfl (lv_at hl 0 rfl) ?_
          refine lv_sipush (v := nI 1040) hx hb dM_standsFor_48 (by decide) ?_
          refine lv_icmp_lt (tgt := 68) hx hb dM_standsFor_51 (by decide) (fun c_51 => ?_) (fun c_51 => ?_)
          · refine lv_iload_n hx hb dM_standsFor_68 rfl (lv_at hl 0 rfl) ?_
            refine lv_sipush (v := nI 1024) hx hb dM_standsFor_69 (by decide) ?_
            refine lv_icmp_lt (tgt := 89) hx hb dM_standsFor_72 (by decide) (fun c_72 => ?_) (fun c_72 => ?_)
            · refine lv_iload_n hx hb dM_standsFor_89 rfl (lv_at hl 0 rfl) ?_
              refine cr_top (y := nI (cr_sl c0)) (congrArg nI (by unfold cr_sl; rw [if_neg (by omega), if_neg (by omega)])) ?_
              refine lv_istore_n (lv' := [(1, .int (nI (cr_sl c0))), (0, .int (nI c0))]) hx hb dM_standsFor_90 rfl hl (by decide) rfl (fun ls hl => ?_)
              refine lv_iload_n hx hb dM_standsFor_91 rfl (lv_at hl 0 rfl) ?_
              rcases cr_sw_in (cr_sl c0) with hw | hw | hw | hw | hw | hw
              · refine lv_lookup (off := 52) (tgt := 144) hx hb dM_standsFor_92 (by decide) (by rw [hw.1]; decide) (by decide) ?_
                refine lv_bipush (v := nI 107) hx hb dM_standsFor_144 (by decide) ?_
                exact W.iret (v := nI 107) hx hb hr (fun t9 ht9 hW9 => ⟨⟨nI 107, [], rfl, ⟨rfl, congrArg nI (show _ = cr_sw (cr_sl c0) from hw.2.symm)⟩, by rw [ht9]; exact hP, va_K.moved hW9.alike hK, hD⟩, hS.F ht9⟩) hS.2.2 dM_standsFor_146
              · refine lv_lookup (off := 55) (tgt := 147) hx hb dM_standsFor_92 (by decide) (by rw [hw.1]; decide) (by decide) ?_
                refine lv_bipush (v := nI 115) hx hb dM_standsFor_147 (by decide) ?_
                exact W.iret (v := nI 115) hx hb hr (fun t9 ht9 hW9 => ⟨⟨nI 115, [], rfl, ⟨rfl, congrArg nI (show _ = cr_sw (cr_sl c0) from hw.2.symm)⟩, by rw [ht9]; exact hP, va_K.moved hW9.alike hK, hD⟩, hS.F ht9⟩) hS.2.2 dM_standsFor_149
              · refine lv_lookup (off := 58) (tgt := 150) hx hb dM_standsFor_92 (by decide) (by rw [hw.1]; decide) (by decide) ?_
                refine lv_sipush (v := nI 229) hx hb dM_standsFor_150 (by decide) ?_
                exact W.iret (v := nI 229) hx hb hr (fun t9 ht9 hW9 => ⟨⟨nI 229, [], rfl, ⟨rfl, congrArg nI (show _ = cr_sw (cr_sl c0) from hw.2.symm)⟩, by rw [ht9]; exact hP, va_K.moved hW9.alike hK, hD⟩, hS.F ht9⟩) hS.2.2 dM_standsFor_153
              · refine lv_lookup (off := 62) (tgt := 154) hx hb dM_standsFor_92 (by decide) (by rw [hw.1]; decide) (by decide) ?_
                refine lv_sipush (v := nI 956) hx hb dM_standsFor_154 (by decide) ?_
                exact W.iret (v := nI 956) hx hb hr (fun t9 ht9 hW9 => ⟨⟨nI 956, [], rfl, ⟨rfl, congrArg nI (show _ = cr_sw (cr_sl c0) from hw.2.symm)⟩, by rw [ht9]; exact hP, va_K.moved hW9.alike hK, hD⟩, hS.F ht9⟩) hS.2.2 dM_standsFor_157
              · refine lv_lookup (off := 66) (tgt := 158) hx hb dM_standsFor_92 (by decide) (by rw [hw.1]; decide) (by decide) ?_
                refine lv_sipush (v := nI 963) hx hb dM_standsFor_158 (by decide) ?_
                exact W.iret (v := nI 963) hx hb hr (fun t9 ht9 hW9 => ⟨⟨nI 963, [], rfl, ⟨rfl, congrArg nI (show _ = cr_sw (cr_sl c0) from hw.2.symm)⟩, by rw [ht9]; exact hP, va_K.moved hW9.alike hK, hD⟩, hS.F ht9⟩) hS.2.2 dM_standsFor_161
              · refine lv_lookup (off := 70) (tgt := 162) hx hb dM_standsFor_92 (by decide) (cr_lk (by rw [nI_toInt (by omega)]; omega) (by rw [nI_toInt (by omega)]; omega) (by rw [nI_toInt (by omega)]; omega) (by rw [nI_toInt (by omega)]; omega) (by rw [nI_toInt (by omega)]; omega)) (by decide) ?_
                refine lv_iload_n hx hb dM_standsFor_162 rfl (lv_at hl 0 rfl) ?_
                exact W.iret (v := nI (cr_sl c0)) hx hb hr (fun t9 ht9 hW9 => ⟨⟨nI (cr_sl c0), [], rfl, ⟨rfl, congrArg nI (show _ = cr_sw (cr_sl c0) from hw.1.symm)⟩, by rw [ht9]; exact hP, va_K.moved hW9.alike hK, hD⟩, hS.F ht9⟩) hS.2.2 dM_standsFor_163
            · exact absurd ((nI_ltI (by omega) (by omega)).2 (by omega)) c_72
          · exact absurd ((nI_ltI (by omega) (by omega)).2 (by omega)) c_51
        · exact absurd ((nI_ltI (by omega) (by omega)).2 (by omega)) c_37
      · exact absurd ((nI_ltI (by omega) (by omega)).2 (by omega)) c_16
    · exact absurd ((nI_ltI (by omega) (by omega)).2 (by omega)) c_3
  · have hslin := cr_sl_in c0
    refine lv_iload_n hx hb dM_standsFor_0 rfl (lv_at hl 0 rfl) ?_
    refine lv_bipush (v := nI 65) hx hb dM_standsFor_1 (by decide) ?_
    refine lv_icmp_lt (tgt := 12) hx hb dM_standsFor_3 (by decide) (fun c_3 => ?_) (fun c_3 => ?_)
    · exact absurd ((nI_ltI (by omega) (by omega)).1 c_3) (by omega)
    · refine lv_iload_n hx hb dM_standsFor_6 rfl (lv_at hl 0 rfl) ?_
      refine lv_bipush (v := nI 90) hx hb dM_standsFor_7 (by decide) ?_
      refine lv_icmp_le (tgt := 61) hx hb dM_standsFor_9 (by decide) (fun c_9 => ?_) (fun c_9 => ?_)
      · refine lv_iload_n hx hb dM_standsFor_61 rfl (lv_at hl 0 rfl) ?_
        refine lv_bipush (v := nI 32) hx hb dM_standsFor_62 (by decide) ?_
        refine lv_iadd hx hb dM_standsFor_64 ?_
        refine cr_top (y := nI (c0 + 32)) (nI_add c0 32) ?_
        refine lv_goto (tgt := 90) hx hb dM_standsFor_65 (by decide) ?_
        refine cr_top (y := nI (cr_sl c0)) (congrArg nI (by unfold cr_sl; rw [if_pos (by omega)])) ?_
        refine lv_istore_n (lv' := [(1, .int (nI (cr_sl c0))), (0, .int (nI c0))]) hx hb dM_standsFor_90 rfl hl (by decide) rfl (fun ls hl => ?_)
        refine lv_iload_n hx hb dM_standsFor_91 rfl (lv_at hl 0 rfl) ?_
        rcases cr_sw_in (cr_sl c0) with hw | hw | hw | hw | hw | hw
        · refine lv_lookup (off := 52) (tgt := 144) hx hb dM_standsFor_92 (by decide) (by rw [hw.1]; decide) (by decide) ?_
          refine lv_bipush (v := nI 107) hx hb dM_standsFor_144 (by decide) ?_
          exact W.iret (v := nI 107) hx hb hr (fun t9 ht9 hW9 => ⟨⟨nI 107, [], rfl, ⟨rfl, congrArg nI (show _ = cr_sw (cr_sl c0) from hw.2.symm)⟩, by rw [ht9]; exact hP, va_K.moved hW9.alike hK, hD⟩, hS.F ht9⟩) hS.2.2 dM_standsFor_146
        · refine lv_lookup (off := 55) (tgt := 147) hx hb dM_standsFor_92 (by decide) (by rw [hw.1]; decide) (by decide) ?_
          refine lv_bipush (v := nI 115) hx hb dM_standsFor_147 (by decide) ?_
          exact W.iret (v := nI 115) hx hb hr (fun t9 ht9 hW9 => ⟨⟨nI 115, [], rfl, ⟨rfl, congrArg nI (show _ = cr_sw (cr_sl c0) from hw.2.symm)⟩, by rw [ht9]; exact hP, va_K.moved hW9.alike hK, hD⟩, hS.F ht9⟩) hS.2.2 dM_standsFor_149
        · refine lv_lookup (off := 58) (tgt := 150) hx hb dM_standsFor_92 (by decide) (by rw [hw.1]; decide) (by decide) ?_
          refine lv_sipush (v := nI 229) hx hb dM_standsFor_150 (by decide) ?_
          exact W.iret (v := nI 229) hx hb hr (fun t9 ht9 hW9 => ⟨⟨nI 229, [], rfl, ⟨rfl, congrArg nI (show _ = cr_sw (cr_sl c0) from hw.2.symm)⟩, by rw [ht9]; exact hP, va_K.moved hW9.alike hK, hD⟩, hS.F ht9⟩) hS.2.2 dM_standsFor_153
        · refine lv_lookup (off := 62) (tgt := 154) hx hb dM_standsFor_92 (by decide) (by rw [hw.1]; decide) (by decide) ?_
          refine lv_sipush (v := nI 956) hx hb dM_standsFor_154 (by decide) ?_
          exact W.iret (v := nI 956) hx hb hr (fun t9 ht9 hW9 => ⟨⟨nI 956, [], rfl, ⟨rfl, congrArg nI (show _ = cr_sw (cr_sl c0) from hw.2.symm)⟩, by rw [ht9]; exact hP, va_K.moved hW9.alike hK, hD⟩, hS.F ht9⟩) hS.2.2 dM_standsFor_157
        · refine lv_lookup (off := 66) (tgt := 158) hx hb dM_standsFor_92 (by decide) (by rw [hw.1]; decide) (by decide) ?_
          refine lv_sipush (v := nI 963) hx hb dM_standsFor_158 (by decide) ?_
          exact W.iret (v := nI 963) hx hb hr (fun t9 ht9 hW9 => ⟨⟨nI 963, [], rfl, ⟨rfl, congrArg nI (show _ = cr_sw (cr_sl c0) from hw.2.symm)⟩, by rw [ht9]; exact hP, va_K.moved hW9.alike hK, hD⟩, hS.F ht9⟩) hS.2.2 dM_standsFor_161
        · refine lv_lookup (off := 70) (tgt := 162) hx hb dM_standsFor_92 (by decide) (cr_lk (by rw [nI_toInt (by omega)]; omega) (by rw [nI_toInt (by omega)]; omega) (by rw [nI_toInt (by omega)]; omega) (by rw [nI_toInt (by omega)]; omega) (by rw [nI_toInt (by omega)]; omega)) (by decide) ?_
          refine lv_iload_n hx hb dM_standsFor_162 rfl (lv_at hl 0 rfl) ?_
          exact W.iret (v := nI (cr_sl c0)) hx hb hr (fun t9 ht9 hW9 => ⟨⟨nI (cr_sl c0), [], rfl, ⟨rfl, congrArg nI (show _ = cr_sw (cr_sl c0) from hw.1.symm)⟩, by rw [ht9]; exact hP, va_K.moved hW9.alike hK, hD⟩, hS.F ht9⟩) hS.2.2 dM_standsFor_163
      · exact absurd ((nI_leI (by omega) (by omega)).2 (by omega)) c_9
  · have hslin := cr_sl_in c0
    refine lv_iload_n hx hb dM_standsFor_0 rfl (lv_at hl 0 rfl) ?_
    refine lv_bipush (v := nI 65) hx hb dM_standsFor_1 (by decide) ?_
    refine lv_icmp_lt (tgt := 12) hx hb dM_standsFor_3 (by decide) (fun c_3 => ?_) (fun c_3 => ?_)
    · exact absurd ((nI_ltI (by omega) (by omega)).1 c_3) (by omega)
    · refine lv_iload_n hx hb dM_standsFor_6 rfl (lv_at hl 0 rfl) ?_
      refine lv_bipush (v := nI 90) hx hb dM_standsFor_7 (by decide) ?_
      refine lv_icmp_le (tgt := 61) hx hb dM_standsFor_9 (by decide) (fun c_9 => ?_) (fun c_9 => ?_)
      · exact absurd ((nI_leI (by omega) (by omega)).1 c_9) (by omega)
      · refine lv_iload_n hx hb dM_standsFor_12 rfl (lv_at hl 0 rfl) ?_
        refine lv_sipush (v := nI 192) hx hb dM_standsFor_13 (by decide) ?_
        refine lv_icmp_lt (tgt := 33) hx hb dM_standsFor_16 (by decide) (fun c_16 => ?_) (fun c_16 => ?_)
        · refine lv_iload_n hx hb dM_standsFor_33 rfl (lv_at hl 0 rfl) ?_
          refine lv_sipush (v := nI 913) hx hb dM_standsFor_34 (by decide) ?_
          refine lv_icmp_lt (tgt := 47) hx hb dM_standsFor_37 (by decide) (fun c_37 => ?_) (fun c_37 => ?_)
          · refine lv_iload_n hx hb dM_standsFor_47 rfl (lv_at hl 0 rfl) ?_
            refine lv_sipush (v := nI 1040) hx hb dM_standsFor_48 (by decide) ?_
            refine lv_icmp_lt (tgt := 68) hx hb dM_standsFor_51 (by decide) (fun c_51 => ?_) (fun c_51 => ?_)
            · refine lv_iload_n hx hb dM_standsFor_68 rfl (lv_at hl 0 rfl) ?_
              refine lv_sipush (v := nI 1024) hx hb dM_standsFor_69 (by decide) ?_
              refine lv_icmp_lt (tgt := 89) hx hb dM_standsFor_72 (by decide) (fun c_72 => ?_) (fun c_72 => ?_)
              · refine lv_iload_n hx hb dM_standsFor_89 rfl (lv_at hl 0 rfl) ?_
                refine cr_top (y := nI (cr_sl c0)) (congrArg nI (by unfold cr_sl; rw [if_neg (by omega), if_neg (by omega)])) ?_
                refine lv_istore_n (lv' := [(1, .int (nI (cr_sl c0))), (0, .int (nI c0))]) hx hb dM_standsFor_90 rfl hl (by decide) rfl (fun ls hl => ?_)
                refine lv_iload_n hx hb dM_standsFor_91 rfl (lv_at hl 0 rfl) ?_
                rcases cr_sw_in (cr_sl c0) with hw | hw | hw | hw | hw | hw
                · refine lv_lookup (off := 52) (tgt := 144) hx hb dM_standsFor_92 (by decide) (by rw [hw.1]; decide) (by decide) ?_
                  refine lv_bipush (v := nI 107) hx hb dM_standsFor_144 (by decide) ?_
                  exact W.iret (v := nI 107) hx hb hr (fun t9 ht9 hW9 => ⟨⟨nI 107, [], rfl, ⟨rfl, congrArg nI (show _ = cr_sw (cr_sl c0) from hw.2.symm)⟩, by rw [ht9]; exact hP, va_K.moved hW9.alike hK, hD⟩, hS.F ht9⟩) hS.2.2 dM_standsFor_146
                · refine lv_lookup (off := 55) (tgt := 147) hx hb dM_standsFor_92 (by decide) (by rw [hw.1]; decide) (by decide) ?_
                  refine lv_bipush (v := nI 115) hx hb dM_standsFor_147 (by decide) ?_
                  exact W.iret (v := nI 115) hx hb hr (fun t9 ht9 hW9 => ⟨⟨nI 115, [], rfl, ⟨rfl, congrArg nI (show _ = cr_sw (cr_sl c0) from hw.2.symm)⟩, by rw [ht9]; exact hP, va_K.moved hW9.alike hK, hD⟩, hS.F ht9⟩) hS.2.2 dM_standsFor_149
                · refine lv_lookup (off := 58) (tgt := 150) hx hb dM_standsFor_92 (by decide) (by rw [hw.1]; decide) (by decide) ?_
                  refine lv_sipush (v := nI 229) hx hb dM_standsFor_150 (by decide) ?_
                  exact W.iret (v := nI 229) hx hb hr (fun t9 ht9 hW9 => ⟨⟨nI 229, [], rfl, ⟨rfl, congrArg nI (show _ = cr_sw (cr_sl c0) from hw.2.symm)⟩, by rw [ht9]; exact hP, va_K.moved hW9.alike hK, hD⟩, hS.F ht9⟩) hS.2.2 dM_standsFor_153
                · refine lv_lookup (off := 62) (tgt := 154) hx hb dM_standsFor_92 (by decide) (by rw [hw.1]; decide) (by decide) ?_
                  refine lv_sipush (v := nI 956) hx hb dM_standsFor_154 (by decide) ?_
                  exact W.iret (v := nI 956) hx hb hr (fun t9 ht9 hW9 => ⟨⟨nI 956, [], rfl, ⟨rfl, congrArg nI (show _ = cr_sw (cr_sl c0) from hw.2.symm)⟩, by rw [ht9]; exact hP, va_K.moved hW9.alike hK, hD⟩, hS.F ht9⟩) hS.2.2 dM_standsFor_157
                · refine lv_lookup (off := 66) (tgt := 158) hx hb dM_standsFor_92 (by decide) (by rw [hw.1]; decide) (by decide) ?_
                  refine lv_sipush (v := nI 963) hx hb dM_standsFor_158 (by decide) ?_
                  exact W.iret (v := nI 963) hx hb hr (fun t9 ht9 hW9 => ⟨⟨nI 963, [], rfl, ⟨rfl, congrArg nI (show _ = cr_sw (cr_sl c0) from hw.2.symm)⟩, by rw [ht9]; exact hP, va_K.moved hW9.alike hK, hD⟩, hS.F ht9⟩) hS.2.2 dM_standsFor_161
                · refine lv_lookup (off := 70) (tgt := 162) hx hb dM_standsFor_92 (by decide) (cr_lk (by rw [nI_toInt (by omega)]; omega) (by rw [nI_toInt (by omega)]; omega) (by rw [nI_toInt (by omega)]; omega) (by rw [nI_toInt (by omega)]; omega) (by rw [nI_toInt (by omega)]; omega)) (by decide) ?_
                  refine lv_iload_n hx hb dM_standsFor_162 rfl (lv_at hl 0 rfl) ?_
                  exact W.iret (v := nI (cr_sl c0)) hx hb hr (fun t9 ht9 hW9 => ⟨⟨nI (cr_sl c0), [], rfl, ⟨rfl, congrArg nI (show _ = cr_sw (cr_sl c0) from hw.1.symm)⟩, by rw [ht9]; exact hP, va_K.moved hW9.alike hK, hD⟩, hS.F ht9⟩) hS.2.2 dM_standsFor_163
              · exact absurd ((nI_ltI (by omega) (by omega)).2 (by omega)) c_72
            · exact absurd ((nI_ltI (by omega) (by omega)).2 (by omega)) c_51
          · exact absurd ((nI_ltI (by omega) (by omega)).2 (by omega)) c_37
        · exact absurd ((nI_ltI (by omega) (by omega)).2 (by omega)) c_16
  · have hslin := cr_sl_in c0
    refine lv_iload_n hx hb dM_standsFor_0 rfl (lv_at hl 0 rfl) ?_
    refine lv_bipush (v := nI 65) hx hb dM_standsFor_1 (by decide) ?_
    refine lv_icmp_lt (tgt := 12) hx hb dM_standsFor_3 (by decide) (fun c_3 => ?_) (fun c_3 => ?_)
    · exact absurd ((nI_ltI (by omega) (by omega)).1 c_3) (by omega)
    · refine lv_iload_n hx hb dM_standsFor_6 rfl (lv_at hl 0 rfl) ?_
      refine lv_bipush (v := nI 90) hx hb dM_standsFor_7 (by decide) ?_
      refine lv_icmp_le (tgt := 61) hx hb dM_standsFor_9 (by decide) (fun c_9 => ?_) (fun c_9 => ?_)
      · exact absurd ((nI_leI (by omega) (by omega)).1 c_9) (by omega)
      · refine lv_iload_n hx hb dM_standsFor_12 rfl (lv_at hl 0 rfl) ?_
        refine lv_sipush (v := nI 192) hx hb dM_standsFor_13 (by decide) ?_
        refine lv_icmp_lt (tgt := 33) hx hb dM_standsFor_16 (by decide) (fun c_16 => ?_) (fun c_16 => ?_)
        · exact absurd ((nI_ltI (by omega) (by omega)).1 c_16) (by omega)
        · refine lv_iload_n hx hb dM_standsFor_19 rfl (lv_at hl 0 rfl) ?_
          refine lv_sipush (v := nI 222) hx hb dM_standsFor_20 (by decide) ?_
          refine lv_icmp_gt (tgt := 33) hx hb dM_standsFor_23 (by decide) (fun c_23 => ?_) (fun c_23 => ?_)
          · exact absurd ((nI_ltI (by omega) (by omega)).1 c_23) (by omega)
          · refine lv_iload_n hx hb dM_standsFor_26 rfl (lv_at hl 0 rfl) ?_
            refine lv_sipush (v := nI 215) hx hb dM_standsFor_27 (by decide) ?_
            refine lv_icmp_ne (tgt := 61) hx hb dM_standsFor_30 (by decide) (fun c_30 => ?_) (fun c_30 => ?_)
            · refine lv_iload_n hx hb dM_standsFor_61 rfl (lv_at hl 0 rfl) ?_
              refine lv_bipush (v := nI 32) hx hb dM_standsFor_62 (by decide) ?_
              refine lv_iadd hx hb dM_standsFor_64 ?_
              refine cr_top (y := nI (c0 + 32)) (nI_add c0 32) ?_
              refine lv_goto (tgt := 90) hx hb dM_standsFor_65 (by decide) ?_
              refine cr_top (y := nI (cr_sl c0)) (congrArg nI (by unfold cr_sl; rw [if_pos (by omega)])) ?_
              refine lv_istore_n (lv' := [(1, .int (nI (cr_sl c0))), (0, .int (nI c0))]) hx hb dM_standsFor_90 rfl hl (by decide) rfl (fun ls hl => ?_)
              refine lv_iload_n hx hb dM_standsFor_91 rfl (lv_at hl 0 rfl) ?_
              rcases cr_sw_in (cr_sl c0) with hw | hw | hw | hw | hw | hw
              · refine lv_lookup (off := 52) (tgt := 144) hx hb dM_standsFor_92 (by decide) (by rw [hw.1]; decide) (by decide) ?_
                refine lv_bipush (v := nI 107) hx hb dM_standsFor_144 (by decide) ?_
                exact W.iret (v := nI 107) hx hb hr (fun t9 ht9 hW9 => ⟨⟨nI 107, [], rfl, ⟨rfl, congrArg nI (show _ = cr_sw (cr_sl c0) from hw.2.symm)⟩, by rw [ht9]; exact hP, va_K.moved hW9.alike hK, hD⟩, hS.F ht9⟩) hS.2.2 dM_standsFor_146
              · refine lv_lookup (off := 55) (tgt := 147) hx hb dM_standsFor_92 (by decide) (by rw [hw.1]; decide) (by decide) ?_
                refine lv_bipush (v := nI 115) hx hb dM_standsFor_147 (by decide) ?_
                exact W.iret (v := nI 115) hx hb hr (fun t9 ht9 hW9 => ⟨⟨nI 115, [], rfl, ⟨rfl, congrArg nI (show _ = cr_sw (cr_sl c0) from hw.2.symm)⟩, by rw [ht9]; exact hP, va_K.moved hW9.alike hK, hD⟩, hS.F ht9⟩) hS.2.2 dM_standsFor_149
              · refine lv_lookup (off := 58) (tgt := 150) hx hb dM_standsFor_92 (by decide) (by rw [hw.1]; decide) (by decide) ?_
                refine lv_sipush (v := nI 229) hx hb dM_standsFor_150 (by decide) ?_
                exact W.iret (v := nI 229) hx hb hr (fun t9 ht9 hW9 => ⟨⟨nI 229, [], rfl, ⟨rfl, congrArg nI (show _ = cr_sw (cr_sl c0) from hw.2.symm)⟩, by rw [ht9]; exact hP, va_K.moved hW9.alike hK, hD⟩, hS.F ht9⟩) hS.2.2 dM_standsFor_153
              · refine lv_lookup (off := 62) (tgt := 154) hx hb dM_standsFor_92 (by decide) (by rw [hw.1]; decide) (by decide) ?_
                refine lv_sipush (v := nI 956) hx hb dM_standsFor_154 (by decide) ?_
                exact W.iret (v := nI 956) hx hb hr (fun t9 ht9 hW9 => ⟨⟨nI 956, [], rfl, ⟨rfl, congrArg nI (show _ = cr_sw (cr_sl c0) from hw.2.symm)⟩, by rw [ht9]; exact hP, va_K.moved hW9.alike hK, hD⟩, hS.F ht9⟩) hS.2.2 dM_standsFor_157
              · refine lv_lookup (off := 66) (tgt := 158) hx hb dM_standsFor_92 (by decide) (by rw [hw.1]; decide) (by decide) ?_
                refine lv_sipush (v := nI 963) hx hb dM_standsFor_158 (by decide) ?_
                exact W.iret (v := nI 963) hx hb hr (fun t9 ht9 hW9 => ⟨⟨nI 963, [], rfl, ⟨rfl, congrArg nI (show _ = cr_sw (cr_sl c0) from hw.2.symm)⟩, by rw [ht9]; exact hP, va_K.moved hW9.alike hK, hD⟩, hS.F ht9⟩) hS.2.2 dM_standsFor_161
              · refine lv_lookup (off := 70) (tgt := 162) hx hb dM_standsFor_92 (by decide) (cr_lk (by rw [nI_toInt (by omega)]; omega) (by rw [nI_toInt (by omega)]; omega) (by rw [nI_toInt (by omega)]; omega) (by rw [nI_toInt (by omega)]; omega) (by rw [nI_toInt (by omega)]; omega)) (by decide) ?_
                refine lv_iload_n hx hb dM_standsFor_162 rfl (lv_at hl 0 rfl) ?_
                exact W.iret (v := nI (cr_sl c0)) hx hb hr (fun t9 ht9 hW9 => ⟨⟨nI (cr_sl c0), [], rfl, ⟨rfl, congrArg nI (show _ = cr_sw (cr_sl c0) from hw.1.symm)⟩, by rw [ht9]; exact hP, va_K.moved hW9.alike hK, hD⟩, hS.F ht9⟩) hS.2.2 dM_standsFor_163
            · exact absurd ((nI_eq (by omega) (by omega)).1 c_30) (by omega)
  · have hslin := cr_sl_in c0
    refine lv_iload_n hx hb dM_standsFor_0 rfl (lv_at hl 0 rfl) ?_
    refine lv_bipush (v := nI 65) hx hb dM_standsFor_1 (by decide) ?_
    refine lv_icmp_lt (tgt := 12) hx hb dM_standsFor_3 (by decide) (fun c_3 => ?_) (fun c_3 => ?_)
    · exact absurd ((nI_ltI (by omega) (by omega)).1 c_3) (by omega)
    · refine lv_iload_n hx hb dM_standsFor_6 rfl (lv_at hl 0 rfl) ?_
      refine lv_bipush (v := nI 90) hx hb dM_standsFor_7 (by decide) ?_
      refine lv_icmp_le (tgt := 61) hx hb dM_standsFor_9 (by decide) (fun c_9 => ?_) (fun c_9 => ?_)
      · exact absurd ((nI_leI (by omega) (by omega)).1 c_9) (by omega)
      · refine lv_iload_n hx hb dM_standsFor_12 rfl (lv_at hl 0 rfl) ?_
        refine lv_sipush (v := nI 192) hx hb dM_standsFor_13 (by decide) ?_
        refine lv_icmp_lt (tgt := 33) hx hb dM_standsFor_16 (by decide) (fun c_16 => ?_) (fun c_16 => ?_)
        · exact absurd ((nI_ltI (by omega) (by omega)).1 c_16) (by omega)
        · refine lv_iload_n hx hb dM_standsFor_19 rfl (lv_at hl 0 rfl) ?_
          refine lv_sipush (v := nI 222) hx hb dM_standsFor_20 (by decide) ?_
          refine lv_icmp_gt (tgt := 33) hx hb dM_standsFor_23 (by decide) (fun c_23 => ?_) (fun c_23 => ?_)
          · exact absurd ((nI_ltI (by omega) (by omega)).1 c_23) (by omega)
          · refine lv_iload_n hx hb dM_standsFor_26 rfl (lv_at hl 0 rfl) ?_
            refine lv_sipush (v := nI 215) hx hb dM_standsFor_27 (by decide) ?_
            refine lv_icmp_ne (tgt := 61) hx hb dM_standsFor_30 (by decide) (fun c_30 => ?_) (fun c_30 => ?_)
            · exact absurd ((nI_eq (by omega) (by omega)).2 (by omega)) c_30
            · refine lv_iload_n hx hb dM_standsFor_33 rfl (lv_at hl 0 rfl) ?_
              refine lv_sipush (v := nI 913) hx hb dM_standsFor_34 (by decide) ?_
              refine lv_icmp_lt (tgt := 47) hx hb dM_standsFor_37 (by decide) (fun c_37 => ?_) (fun c_37 => ?_)
              · refine lv_iload_n hx hb dM_standsFor_47 rfl (lv_at hl 0 rfl) ?_
                refine lv_sipush (v := nI 1040) hx hb dM_standsFor_48 (by decide) ?_
                refine lv_icmp_lt (tgt := 68) hx hb dM_standsFor_51 (by decide) (fun c_51 => ?_) (fun c_51 => ?_)
                · refine lv_iload_n hx hb dM_standsFor_68 rfl (lv_at hl 0 rfl) ?_
                  refine lv_sipush (v := nI 1024) hx hb dM_standsFor_69 (by decide) ?_
                  refine lv_icmp_lt (tgt := 89) hx hb dM_standsFor_72 (by decide) (fun c_72 => ?_) (fun c_72 => ?_)
                  · refine lv_iload_n hx hb dM_standsFor_89 rfl (lv_at hl 0 rfl) ?_
                    refine cr_top (y := nI (cr_sl c0)) (congrArg nI (by unfold cr_sl; rw [if_neg (by omega), if_neg (by omega)])) ?_
                    refine lv_istore_n (lv' := [(1, .int (nI (cr_sl c0))), (0, .int (nI c0))]) hx hb dM_standsFor_90 rfl hl (by decide) rfl (fun ls hl => ?_)
                    refine lv_iload_n hx hb dM_standsFor_91 rfl (lv_at hl 0 rfl) ?_
                    rcases cr_sw_in (cr_sl c0) with hw | hw | hw | hw | hw | hw
                    · refine lv_lookup (off := 52) (tgt := 144) hx hb dM_standsFor_92 (by decide) (by rw [hw.1]; decide) (by decide) ?_
                      refine lv_bipush (v := nI 107) hx hb dM_standsFor_144 (by decide) ?_
                      exact W.iret (v := nI 107) hx hb hr (fun t9 ht9 hW9 => ⟨⟨nI 107, [], rfl, ⟨rfl, congrArg nI (show _ = cr_sw (cr_sl c0) from hw.2.symm)⟩, by rw [ht9]; exact hP, va_K.moved hW9.alike hK, hD⟩, hS.F ht9⟩) hS.2.2 dM_standsFor_146
                    · refine lv_lookup (off := 55) (tgt := 147) hx hb dM_standsFor_92 (by decide) (by rw [hw.1]; decide) (by decide) ?_
                      refine lv_bipush (v := nI 115) hx hb dM_standsFor_147 (by decide) ?_
                      exact W.iret (v := nI 115) hx hb hr (fun t9 ht9 hW9 => ⟨⟨nI 115, [], rfl, ⟨rfl, congrArg nI (show _ = cr_sw (cr_sl c0) from hw.2.symm)⟩, by rw [ht9]; exact hP, va_K.moved hW9.alike hK, hD⟩, hS.F ht9⟩) hS.2.2 dM_standsFor_149
                    · refine lv_lookup (off := 58) (tgt := 150) hx hb dM_standsFor_92 (by decide) (by rw [hw.1]; decide) (by decide) ?_
                      refine lv_sipush (v := nI 229) hx hb dM_standsFor_150 (by decide) ?_
                      exact W.iret (v := nI 229) hx hb hr (fun t9 ht9 hW9 => ⟨⟨nI 229, [], rfl, ⟨rfl, congrArg nI (show _ = cr_sw (cr_sl c0) from hw.2.symm)⟩, by rw [ht9]; exact hP, va_K.moved hW9.alike hK, hD⟩, hS.F ht9⟩) hS.2.2 dM_standsFor_153
                    · refine lv_lookup (off := 62) (tgt := 154) hx hb dM_standsFor_92 (by decide) (by rw [hw.1]; decide) (by decide) ?_
                      refine lv_sipush (v := nI 956) hx hb dM_standsFor_154 (by decide) ?_
                      exact W.iret (v := nI 956) hx hb hr (fun t9 ht9 hW9 => ⟨⟨nI 956, [], rfl, ⟨rfl, congrArg nI (show _ = cr_sw (cr_sl c0) from hw.2.symm)⟩, by rw [ht9]; exact hP, va_K.moved hW9.alike hK, hD⟩, hS.F ht9⟩) hS.2.2 dM_standsFor_157
                    · refine lv_lookup (off := 66) (tgt := 158) hx hb dM_standsFor_92 (by decide) (by rw [hw.1]; decide) (by decide) ?_
                      refine lv_sipush (v := nI 963) hx hb dM_standsFor_158 (by decide) ?_
                      exact W.iret (v := nI 963) hx hb hr (fun t9 ht9 hW9 => ⟨⟨nI 963, [], rfl, ⟨rfl, congrArg nI (show _ = cr_sw (cr_sl c0) from hw.2.symm)⟩, by rw [ht9]; exact hP, va_K.moved hW9.alike hK, hD⟩, hS.F ht9⟩) hS.2.2 dM_standsFor_161
                    · refine lv_lookup (off := 70) (tgt := 162) hx hb dM_standsFor_92 (by decide) (cr_lk (by rw [nI_toInt (by omega)]; omega) (by rw [nI_toInt (by omega)]; omega) (by rw [nI_toInt (by omega)]; omega) (by rw [nI_toInt (by omega)]; omega) (by rw [nI_toInt (by omega)]; omega)) (by decide) ?_
                      refine lv_iload_n hx hb dM_standsFor_162 rfl (lv_at hl 0 rfl) ?_
                      exact W.iret (v := nI (cr_sl c0)) hx hb hr (fun t9 ht9 hW9 => ⟨⟨nI (cr_sl c0), [], rfl, ⟨rfl, congrArg nI (show _ = cr_sw (cr_sl c0) from hw.1.symm)⟩, by rw [ht9]; exact hP, va_K.moved hW9.alike hK, hD⟩, hS.F ht9⟩) hS.2.2 dM_standsFor_163
                  · exact absurd ((nI_ltI (by omega) (by omega)).2 (by omega)) c_72
                · exact absurd ((nI_ltI (by omega) (by omega)).2 (by omega)) c_51
              · exact absurd ((nI_ltI (by omega) (by omega)).2 (by omega)) c_37
  · have hslin := cr_sl_in c0
    refine lv_iload_n hx hb dM_standsFor_0 rfl (lv_at hl 0 rfl) ?_
    refine lv_bipush (v := nI 65) hx hb dM_standsFor_1 (by decide) ?_
    refine lv_icmp_lt (tgt := 12) hx hb dM_standsFor_3 (by decide) (fun c_3 => ?_) (fun c_3 => ?_)
    · exact absurd ((nI_ltI (by omega) (by omega)).1 c_3) (by omega)
    · refine lv_iload_n hx hb dM_standsFor_6 rfl (lv_at hl 0 rfl) ?_
      refine lv_bipush (v := nI 90) hx hb dM_standsFor_7 (by decide) ?_
      refine lv_icmp_le (tgt := 61) hx hb dM_standsFor_9 (by decide) (fun c_9 => ?_) (fun c_9 => ?_)
      · exact absurd ((nI_leI (by omega) (by omega)).1 c_9) (by omega)
      · refine lv_iload_n hx hb dM_standsFor_12 rfl (lv_at hl 0 rfl) ?_
        refine lv_sipush (v := nI 192) hx hb dM_standsFor_13 (by decide) ?_
        refine lv_icmp_lt (tgt := 33) hx hb dM_standsFor_16 (by decide) (fun c_16 => ?_) (fun c_16 => ?_)
        · exact absurd ((nI_ltI (by omega) (by omega)).1 c_16) (by omega)
        · refine lv_iload_n hx hb dM_standsFor_19 rfl (lv_at hl 0 rfl) ?_
          refine lv_sipush (v := nI 222) hx hb dM_standsFor_20 (by decide) ?_
          refine lv_icmp_gt (tgt := 33) hx hb dM_standsFor_23 (by decide) (fun c_23 => ?_) (fun c_23 => ?_)
          · exact absurd ((nI_ltI (by omega) (by omega)).1 c_23) (by omega)
          · refine lv_iload_n hx hb dM_standsFor_26 rfl (lv_at hl 0 rfl) ?_
            refine lv_sipush (v := nI 215) hx hb dM_standsFor_27 (by decide) ?_
            refine lv_icmp_ne (tgt := 61) hx hb dM_standsFor_30 (by decide) (fun c_30 => ?_) (fun c_30 => ?_)
            · refine lv_iload_n hx hb dM_standsFor_61 rfl (lv_at hl 0 rfl) ?_
              refine lv_bipush (v := nI 32) hx hb dM_standsFor_62 (by decide) ?_
              refine lv_iadd hx hb dM_standsFor_64 ?_
              refine cr_top (y := nI (c0 + 32)) (nI_add c0 32) ?_
              refine lv_goto (tgt := 90) hx hb dM_standsFor_65 (by decide) ?_
              refine cr_top (y := nI (cr_sl c0)) (congrArg nI (by unfold cr_sl; rw [if_pos (by omega)])) ?_
              refine lv_istore_n (lv' := [(1, .int (nI (cr_sl c0))), (0, .int (nI c0))]) hx hb dM_standsFor_90 rfl hl (by decide) rfl (fun ls hl => ?_)
              refine lv_iload_n hx hb dM_standsFor_91 rfl (lv_at hl 0 rfl) ?_
              rcases cr_sw_in (cr_sl c0) with hw | hw | hw | hw | hw | hw
              · refine lv_lookup (off := 52) (tgt := 144) hx hb dM_standsFor_92 (by decide) (by rw [hw.1]; decide) (by decide) ?_
                refine lv_bipush (v := nI 107) hx hb dM_standsFor_144 (by decide) ?_
                exact W.iret (v := nI 107) hx hb hr (fun t9 ht9 hW9 => ⟨⟨nI 107, [], rfl, ⟨rfl, congrArg nI (show _ = cr_sw (cr_sl c0) from hw.2.symm)⟩, by rw [ht9]; exact hP, va_K.moved hW9.alike hK, hD⟩, hS.F ht9⟩) hS.2.2 dM_standsFor_146
              · refine lv_lookup (off := 55) (tgt := 147) hx hb dM_standsFor_92 (by decide) (by rw [hw.1]; decide) (by decide) ?_
                refine lv_bipush (v := nI 115) hx hb dM_standsFor_147 (by decide) ?_
                exact W.iret (v := nI 115) hx hb hr (fun t9 ht9 hW9 => ⟨⟨nI 115, [], rfl, ⟨rfl, congrArg nI (show _ = cr_sw (cr_sl c0) from hw.2.symm)⟩, by rw [ht9]; exact hP, va_K.moved hW9.alike hK, hD⟩, hS.F ht9⟩) hS.2.2 dM_standsFor_149
              · refine lv_lookup (off := 58) (tgt := 150) hx hb dM_standsFor_92 (by decide) (by rw [hw.1]; decide) (by decide) ?_
                refine lv_sipush (v := nI 229) hx hb dM_standsFor_150 (by decide) ?_
                exact W.iret (v := nI 229) hx hb hr (fun t9 ht9 hW9 => ⟨⟨nI 229, [], rfl, ⟨rfl, congrArg nI (show _ = cr_sw (cr_sl c0) from hw.2.symm)⟩, by rw [ht9]; exact hP, va_K.moved hW9.alike hK, hD⟩, hS.F ht9⟩) hS.2.2 dM_standsFor_153
              · refine lv_lookup (off := 62) (tgt := 154) hx hb dM_standsFor_92 (by decide) (by rw [hw.1]; decide) (by decide) ?_
                refine lv_sipush (v := nI 956) hx hb dM_standsFor_154 (by decide) ?_
                exact W.iret (v := nI 956) hx hb hr (fun t9 ht9 hW9 => ⟨⟨nI 956, [], rfl, ⟨rfl, congrArg nI (show _ = cr_sw (cr_sl c0) from hw.2.symm)⟩, by rw [ht9]; exact hP, va_K.moved hW9.alike hK, hD⟩, hS.F ht9⟩) hS.2.2 dM_standsFor_157
              · refine lv_lookup (off := 66) (tgt := 158) hx hb dM_standsFor_92 (by decide) (by rw [hw.1]; decide) (by decide) ?_
                refine lv_sipush (v := nI 963) hx hb dM_standsFor_158 (by decide) ?_
                exact W.iret (v := nI 963) hx hb hr (fun t9 ht9 hW9 => ⟨⟨nI 963, [], rfl, ⟨rfl, congrArg nI (show _ = cr_sw (cr_sl c0) from hw.2.symm)⟩, by rw [ht9]; exact hP, va_K.moved hW9.alike hK, hD⟩, hS.F ht9⟩) hS.2.2 dM_standsFor_161
              · refine lv_lookup (off := 70) (tgt := 162) hx hb dM_standsFor_92 (by decide) (cr_lk (by rw [nI_toInt (by omega)]; omega) (by rw [nI_toInt (by omega)]; omega) (by rw [nI_toInt (by omega)]; omega) (by rw [nI_toInt (by omega)]; omega) (by rw [nI_toInt (by omega)]; omega)) (by decide) ?_
                refine lv_iload_n hx hb dM_standsFor_162 rfl (lv_at hl 0 rfl) ?_
                exact W.iret (v := nI (cr_sl c0)) hx hb hr (fun t9 ht9 hW9 => ⟨⟨nI (cr_sl c0), [], rfl, ⟨rfl, congrArg nI (show _ = cr_sw (cr_sl c0) from hw.1.symm)⟩, by rw [ht9]; exact hP, va_K.moved hW9.alike hK, hD⟩, hS.F ht9⟩) hS.2.2 dM_standsFor_163
            · exact absurd ((nI_eq (by omega) (by omega)).1 c_30) (by omega)
  · have hslin := cr_sl_in c0
    refine lv_iload_n hx hb dM_standsFor_0 rfl (lv_at hl 0 rfl) ?_
    refine lv_bipush (v := nI 65) hx hb dM_standsFor_1 (by decide) ?_
    refine lv_icmp_lt (tgt := 12) hx hb dM_standsFor_3 (by decide) (fun c_3 => ?_) (fun c_3 => ?_)
    · exact absurd ((nI_ltI (by omega) (by omega)).1 c_3) (by omega)
    · refine lv_iload_n hx hb dM_standsFor_6 rfl (lv_at hl 0 rfl) ?_
      refine lv_bipush (v := nI 90) hx hb dM_standsFor_7 (by decide) ?_
      refine lv_icmp_le (tgt := 61) hx hb dM_standsFor_9 (by decide) (fun c_9 => ?_) (fun c_9 => ?_)
      · exact absurd ((nI_leI (by omega) (by omega)).1 c_9) (by omega)
      · refine lv_iload_n hx hb dM_standsFor_12 rfl (lv_at hl 0 rfl) ?_
        refine lv_sipush (v := nI 192) hx hb dM_standsFor_13 (by decide) ?_
        refine lv_icmp_lt (tgt := 33) hx hb dM_standsFor_16 (by decide) (fun c_16 => ?_) (fun c_16 => ?_)
        · exact absurd ((nI_ltI (by omega) (by omega)).1 c_16) (by omega)
        · refine lv_iload_n hx hb dM_standsFor_19 rfl (lv_at hl 0 rfl) ?_
          refine lv_sipush (v := nI 222) hx hb dM_standsFor_20 (by decide) ?_
          refine lv_icmp_gt (tgt := 33) hx hb dM_standsFor_23 (by decide) (fun c_23 => ?_) (fun c_23 => ?_)
          · refine lv_iload_n hx hb dM_standsFor_33 rfl (lv_at hl 0 rfl) ?_
            refine lv_sipush (v := nI 913) hx hb dM_standsFor_34 (by decide) ?_
            refine lv_icmp_lt (tgt := 47) hx hb dM_standsFor_37 (by decide) (fun c_37 => ?_) (fun c_37 => ?_)
            · refine lv_iload_n hx hb dM_standsFor_47 rfl (lv_at hl 0 rfl) ?_
              refine lv_sipush (v := nI 1040) hx hb dM_standsFor_48 (by decide) ?_
              refine lv_icmp_lt (tgt := 68) hx hb dM_standsFor_51 (by decide) (fun c_51 => ?_) (fun c_51 => ?_)
              · refine lv_iload_n hx hb dM_standsFor_68 rfl (lv_at hl 0 rfl) ?_
                refine lv_sipush (v := nI 1024) hx hb dM_standsFor_69 (by decide) ?_
                refine lv_icmp_lt (tgt := 89) hx hb dM_standsFor_72 (by decide) (fun c_72 => ?_) (fun c_72 => ?_)
                · refine lv_iload_n hx hb dM_standsFor_89 rfl (lv_at hl 0 rfl) ?_
                  refine cr_top (y := nI (cr_sl c0)) (congrArg nI (by unfold cr_sl; rw [if_neg (by omega), if_neg (by omega)])) ?_
                  refine lv_istore_n (lv' := [(1, .int (nI (cr_sl c0))), (0, .int (nI c0))]) hx hb dM_standsFor_90 rfl hl (by decide) rfl (fun ls hl => ?_)
                  refine lv_iload_n hx hb dM_standsFor_91 rfl (lv_at hl 0 rfl) ?_
                  rcases cr_sw_in (cr_sl c0) with hw | hw | hw | hw | hw | hw
                  · refine lv_lookup (off := 52) (tgt := 144) hx hb dM_standsFor_92 (by decide) (by rw [hw.1]; decide) (by decide) ?_
                    refine lv_bipush (v := nI 107) hx hb dM_standsFor_144 (by decide) ?_
                    exact W.iret (v := nI 107) hx hb hr (fun t9 ht9 hW9 => ⟨⟨nI 107, [], rfl, ⟨rfl, congrArg nI (show _ = cr_sw (cr_sl c0) from hw.2.symm)⟩, by rw [ht9]; exact hP, va_K.moved hW9.alike hK, hD⟩, hS.F ht9⟩) hS.2.2 dM_standsFor_146
                  · refine lv_lookup (off := 55) (tgt := 147) hx hb dM_standsFor_92 (by decide) (by rw [hw.1]; decide) (by decide) ?_
                    refine lv_bipush (v := nI 115) hx hb dM_standsFor_147 (by decide) ?_
                    exact W.iret (v := nI 115) hx hb hr (fun t9 ht9 hW9 => ⟨⟨nI 115, [], rfl, ⟨rfl, congrArg nI (show _ = cr_sw (cr_sl c0) from hw.2.symm)⟩, by rw [ht9]; exact hP, va_K.moved hW9.alike hK, hD⟩, hS.F ht9⟩) hS.2.2 dM_standsFor_149
                  · refine lv_lookup (off := 58) (tgt := 150) hx hb dM_standsFor_92 (by decide) (by rw [hw.1]; decide) (by decide) ?_
                    refine lv_sipush (v := nI 229) hx hb dM_standsFor_150 (by decide) ?_
                    exact W.iret (v := nI 229) hx hb hr (fun t9 ht9 hW9 => ⟨⟨nI 229, [], rfl, ⟨rfl, congrArg nI (show _ = cr_sw (cr_sl c0) from hw.2.symm)⟩, by rw [ht9]; exact hP, va_K.moved hW9.alike hK, hD⟩, hS.F ht9⟩) hS.2.2 dM_standsFor_153
                  · refine lv_lookup (off := 62) (tgt := 154) hx hb dM_standsFor_92 (by decide) (by rw [hw.1]; decide) (by decide) ?_
                    refine lv_sipush (v := nI 956) hx hb dM_standsFor_154 (by decide) ?_
                    exact W.iret (v := nI 956) hx hb hr (fun t9 ht9 hW9 => ⟨⟨nI 956, [], rfl, ⟨rfl, congrArg nI (show _ = cr_sw (cr_sl c0) from hw.2.symm)⟩, by rw [ht9]; exact hP, va_K.moved hW9.alike hK, hD⟩, hS.F ht9⟩) hS.2.2 dM_standsFor_157
                  · refine lv_lookup (off := 66) (tgt := 158) hx hb dM_standsFor_92 (by decide) (by rw [hw.1]; decide) (by decide) ?_
                    refine lv_sipush (v := nI 963) hx hb dM_standsFor_158 (by decide) ?_
                    exact W.iret (v := nI 963) hx hb hr (fun t9 ht9 hW9 => ⟨⟨nI 963, [], rfl, ⟨rfl, congrArg nI (show _ = cr_sw (cr_sl c0) from hw.2.symm)⟩, by rw [ht9]; exact hP, va_K.moved hW9.alike hK, hD⟩, hS.F ht9⟩) hS.2.2 dM_standsFor_161
                  · refine lv_lookup (off := 70) (tgt := 162) hx hb dM_standsFor_92 (by decide) (cr_lk (by rw [nI_toInt (by omega)]; omega) (by rw [nI_toInt (by omega)]; omega) (by rw [nI_toInt (by omega)]; omega) (by rw [nI_toInt (by omega)]; omega) (by rw [nI_toInt (by omega)]; omega)) (by decide) ?_
                    refine lv_iload_n hx hb dM_standsFor_162 rfl (lv_at hl 0 rfl) ?_
                    exact W.iret (v := nI (cr_sl c0)) hx hb hr (fun t9 ht9 hW9 => ⟨⟨nI (cr_sl c0), [], rfl, ⟨rfl, congrArg nI (show _ = cr_sw (cr_sl c0) from hw.1.symm)⟩, by rw [ht9]; exact hP, va_K.moved hW9.alike hK, hD⟩, hS.F ht9⟩) hS.2.2 dM_standsFor_163
                · exact absurd ((nI_ltI (by omega) (by omega)).2 (by omega)) c_72
              · exact absurd ((nI_ltI (by omega) (by omega)).2 (by omega)) c_51
            · exact absurd ((nI_ltI (by omega) (by omega)).2 (by omega)) c_37
          · exact absurd ((nI_ltI (by omega) (by omega)).2 (by omega)) c_23
  · have hslin := cr_sl_in c0
    refine lv_iload_n hx hb dM_standsFor_0 rfl (lv_at hl 0 rfl) ?_
    refine lv_bipush (v := nI 65) hx hb dM_standsFor_1 (by decide) ?_
    refine lv_icmp_lt (tgt := 12) hx hb dM_standsFor_3 (by decide) (fun c_3 => ?_) (fun c_3 => ?_)
    · exact absurd ((nI_ltI (by omega) (by omega)).1 c_3) (by omega)
    · refine lv_iload_n hx hb dM_standsFor_6 rfl (lv_at hl 0 rfl) ?_
      refine lv_bipush (v := nI 90) hx hb dM_standsFor_7 (by decide) ?_
      refine lv_icmp_le (tgt := 61) hx hb dM_standsFor_9 (by decide) (fun c_9 => ?_) (fun c_9 => ?_)
      · exact absurd ((nI_leI (by omega) (by omega)).1 c_9) (by omega)
      · refine lv_iload_n hx hb dM_standsFor_12 rfl (lv_at hl 0 rfl) ?_
        refine lv_sipush (v := nI 192) hx hb dM_standsFor_13 (by decide) ?_
        refine lv_icmp_lt (tgt := 33) hx hb dM_standsFor_16 (by decide) (fun c_16 => ?_) (fun c_16 => ?_)
        · exact absurd ((nI_ltI (by omega) (by omega)).1 c_16) (by omega)
        · refine lv_iload_n hx hb dM_standsFor_19 rfl (lv_at hl 0 rfl) ?_
          refine lv_sipush (v := nI 222) hx hb dM_standsFor_20 (by decide) ?_
          refine lv_icmp_gt (tgt := 33) hx hb dM_standsFor_23 (by decide) (fun c_23 => ?_) (fun c_23 => ?_)
          · refine lv_iload_n hx hb dM_standsFor_33 rfl (lv_at hl 0 rfl) ?_
            refine lv_sipush (v := nI 913) hx hb dM_standsFor_34 (by decide) ?_
            refine lv_icmp_lt (tgt := 47) hx hb dM_standsFor_37 (by decide) (fun c_37 => ?_) (fun c_37 => ?_)
            · exact absurd ((nI_ltI (by omega) (by omega)).1 c_37) (by omega)
            · refine lv_iload_n hx hb dM_standsFor_40 rfl (lv_at hl 0 rfl) ?_
              refine lv_sipush (v := nI 937) hx hb dM_standsFor_41 (by decide) ?_
              refine lv_icmp_le (tgt := 61) hx hb dM_standsFor_44 (by decide) (fun c_44 => ?_) (fun c_44 => ?_)
              · refine lv_iload_n hx hb dM_standsFor_61 rfl (lv_at hl 0 rfl) ?_
                refine lv_bipush (v := nI 32) hx hb dM_standsFor_62 (by decide) ?_
                refine lv_iadd hx hb dM_standsFor_64 ?_
                refine cr_top (y := nI (c0 + 32)) (nI_add c0 32) ?_
                refine lv_goto (tgt := 90) hx hb dM_standsFor_65 (by decide) ?_
                refine cr_top (y := nI (cr_sl c0)) (congrArg nI (by unfold cr_sl; rw [if_pos (by omega)])) ?_
                refine lv_istore_n (lv' := [(1, .int (nI (cr_sl c0))), (0, .int (nI c0))]) hx hb dM_standsFor_90 rfl hl (by decide) rfl (fun ls hl => ?_)
                refine lv_iload_n hx hb dM_standsFor_91 rfl (lv_at hl 0 rfl) ?_
                rcases cr_sw_in (cr_sl c0) with hw | hw | hw | hw | hw | hw
                · refine lv_lookup (off := 52) (tgt := 144) hx hb dM_standsFor_92 (by decide) (by rw [hw.1]; decide) (by decide) ?_
                  refine lv_bipush (v := nI 107) hx hb dM_standsFor_144 (by decide) ?_
                  exact W.iret (v := nI 107) hx hb hr (fun t9 ht9 hW9 => ⟨⟨nI 107, [], rfl, ⟨rfl, congrArg nI (show _ = cr_sw (cr_sl c0) from hw.2.symm)⟩, by rw [ht9]; exact hP, va_K.moved hW9.alike hK, hD⟩, hS.F ht9⟩) hS.2.2 dM_standsFor_146
                · refine lv_lookup (off := 55) (tgt := 147) hx hb dM_standsFor_92 (by decide) (by rw [hw.1]; decide) (by decide) ?_
                  refine lv_bipush (v := nI 115) hx hb dM_standsFor_147 (by decide) ?_
                  exact W.iret (v := nI 115) hx hb hr (fun t9 ht9 hW9 => ⟨⟨nI 115, [], rfl, ⟨rfl, congrArg nI (show _ = cr_sw (cr_sl c0) from hw.2.symm)⟩, by rw [ht9]; exact hP, va_K.moved hW9.alike hK, hD⟩, hS.F ht9⟩) hS.2.2 dM_standsFor_149
                · refine lv_lookup (off := 58) (tgt := 150) hx hb dM_standsFor_92 (by decide) (by rw [hw.1]; decide) (by decide) ?_
                  refine lv_sipush (v := nI 229) hx hb dM_standsFor_150 (by decide) ?_
                  exact W.iret (v := nI 229) hx hb hr (fun t9 ht9 hW9 => ⟨⟨nI 229, [], rfl, ⟨rfl, congrArg nI (show _ = cr_sw (cr_sl c0) from hw.2.symm)⟩, by rw [ht9]; exact hP, va_K.moved hW9.alike hK, hD⟩, hS.F ht9⟩) hS.2.2 dM_standsFor_153
                · refine lv_lookup (off := 62) (tgt := 154) hx hb dM_standsFor_92 (by decide) (by rw [hw.1]; decide) (by decide) ?_
                  refine lv_sipush (v := nI 956) hx hb dM_standsFor_154 (by decide) ?_
                  exact W.iret (v := nI 956) hx hb hr (fun t9 ht9 hW9 => ⟨⟨nI 956, [], rfl, ⟨rfl, congrArg nI (show _ = cr_sw (cr_sl c0) from hw.2.symm)⟩, by rw [ht9]; exact hP, va_K.moved hW9.alike hK, hD⟩, hS.F ht9⟩) hS.2.2 dM_standsFor_157
                · refine lv_lookup (off := 66) (tgt := 158) hx hb dM_standsFor_92 (by decide) (by rw [hw.1]; decide) (by decide) ?_
                  refine lv_sipush (v := nI 963) hx hb dM_standsFor_158 (by decide) ?_
                  exact W.iret (v := nI 963) hx hb hr (fun t9 ht9 hW9 => ⟨⟨nI 963, [], rfl, ⟨rfl, congrArg nI (show _ = cr_sw (cr_sl c0) from hw.2.symm)⟩, by rw [ht9]; exact hP, va_K.moved hW9.alike hK, hD⟩, hS.F ht9⟩) hS.2.2 dM_standsFor_161
                · refine lv_lookup (off := 70) (tgt := 162) hx hb dM_standsFor_92 (by decide) (cr_lk (by rw [nI_toInt (by omega)]; omega) (by rw [nI_toInt (by omega)]; omega) (by rw [nI_toInt (by omega)]; omega) (by rw [nI_toInt (by omega)]; omega) (by rw [nI_toInt (by omega)]; omega)) (by decide) ?_
                  refine lv_iload_n hx hb dM_standsFor_162 rfl (lv_at hl 0 rfl) ?_
                  exact W.iret (v := nI (cr_sl c0)) hx hb hr (fun t9 ht9 hW9 => ⟨⟨nI (cr_sl c0), [], rfl, ⟨rfl, congrArg nI (show _ = cr_sw (cr_sl c0) from hw.1.symm)⟩, by rw [ht9]; exact hP, va_K.moved hW9.alike hK, hD⟩, hS.F ht9⟩) hS.2.2 dM_standsFor_163
              · exact absurd ((nI_leI (by omega) (by omega)).2 (by omega)) c_44
          · exact absurd ((nI_ltI (by omega) (by omega)).2 (by omega)) c_23
  · have hslin := cr_sl_in c0
    refine lv_iload_n hx hb dM_standsFor_0 rfl (lv_at hl 0 rfl) ?_
    refine lv_bipush (v := nI 65) hx hb dM_standsFor_1 (by decide) ?_
    refine lv_icmp_lt (tgt := 12) hx hb dM_standsFor_3 (by decide) (fun c_3 => ?_) (fun c_3 => ?_)
    · exact absurd ((nI_ltI (by omega) (by omega)).1 c_3) (by omega)
    · refine lv_iload_n hx hb dM_standsFor_6 rfl (lv_at hl 0 rfl) ?_
      refine lv_bipush (v := nI 90) hx hb dM_standsFor_7 (by decide) ?_
      refine lv_icmp_le (tgt := 61) hx hb dM_standsFor_9 (by decide) (fun c_9 => ?_) (fun c_9 => ?_)
      · exact absurd ((nI_leI (by omega) (by omega)).1 c_9) (by omega)
      · refine lv_iload_n hx hb dM_standsFor_12 rfl (lv_at hl 0 rfl) ?_
        refine lv_sipush (v := nI 192) hx hb dM_standsFor_13 (by decide) ?_
        refine lv_icmp_lt (tgt := 33) hx hb dM_standsFor_16 (by decide) (fun c_16 => ?_) (fun c_16 => ?_)
        · exact absurd ((nI_ltI (by omega) (by omega)).1 c_16) (by omega)
        · refine lv_iload_n hx hb dM_standsFor_19 rfl (lv_at hl 0 rfl) ?_
          refine lv_sipush (v := nI 222) hx hb dM_standsFor_20 (by decide) ?_
          refine lv_icmp_gt (tgt := 33) hx hb dM_standsFor_23 (by decide) (fun c_23 => ?_) (fun c_23 => ?_)
          · refine lv_iload_n hx hb dM_standsFor_33 rfl (lv_at hl 0 rfl) ?_
            refine lv_sipush (v := nI 913) hx hb dM_standsFor_34 (by decide) ?_
            refine lv_icmp_lt (tgt := 47) hx hb dM_standsFor_37 (by decide) (fun c_37 => ?_) (fun c_37 => ?_)
            · exact absurd ((nI_ltI (by omega) (by omega)).1 c_37) (by omega)
            · refine lv_iload_n hx hb dM_standsFor_40 rfl (lv_at hl 0 rfl) ?_
              refine lv_sipush (v := nI 937) hx hb dM_standsFor_41 (by decide) ?_
              refine lv_icmp_le (tgt := 61) hx hb dM_standsFor_44 (by decide) (fun c_44 => ?_) (fun c_44 => ?_)
              · exact absurd ((nI_leI (by omega) (by omega)).1 c_44) (by omega)
              · refine lv_iload_n hx hb dM_standsFor_47 rfl (lv_at hl 0 rfl) ?_
                refine lv_sipush (v := nI 1040) hx hb dM_standsFor_48 (by decide) ?_
                refine lv_icmp_lt (tgt := 68) hx hb dM_standsFor_51 (by decide) (fun c_51 => ?_) (fun c_51 => ?_)
                · refine lv_iload_n hx hb dM_standsFor_68 rfl (lv_at hl 0 rfl) ?_
                  refine lv_sipush (v := nI 1024) hx hb dM_standsFor_69 (by decide) ?_
                  refine lv_icmp_lt (tgt := 89) hx hb dM_standsFor_72 (by decide) (fun c_72 => ?_) (fun c_72 => ?_)
                  · refine lv_iload_n hx hb dM_standsFor_89 rfl (lv_at hl 0 rfl) ?_
                    refine cr_top (y := nI (cr_sl c0)) (congrArg nI (by unfold cr_sl; rw [if_neg (by omega), if_neg (by omega)])) ?_
                    refine lv_istore_n (lv' := [(1, .int (nI (cr_sl c0))), (0, .int (nI c0))]) hx hb dM_standsFor_90 rfl hl (by decide) rfl (fun ls hl => ?_)
                    refine lv_iload_n hx hb dM_standsFor_91 rfl (lv_at hl 0 rfl) ?_
                    rcases cr_sw_in (cr_sl c0) with hw | hw | hw | hw | hw | hw
                    · refine lv_lookup (off := 52) (tgt := 144) hx hb dM_standsFor_92 (by decide) (by rw [hw.1]; decide) (by decide) ?_
                      refine lv_bipush (v := nI 107) hx hb dM_standsFor_144 (by decide) ?_
                      exact W.iret (v := nI 107) hx hb hr (fun t9 ht9 hW9 => ⟨⟨nI 107, [], rfl, ⟨rfl, congrArg nI (show _ = cr_sw (cr_sl c0) from hw.2.symm)⟩, by rw [ht9]; exact hP, va_K.moved hW9.alike hK, hD⟩, hS.F ht9⟩) hS.2.2 dM_standsFor_146
                    · refine lv_lookup (off := 55) (tgt := 147) hx hb dM_standsFor_92 (by decide) (by rw [hw.1]; decide) (by decide) ?_
                      refine lv_bipush (v := nI 115) hx hb dM_standsFor_147 (by decide) ?_
                      exact W.iret (v := nI 115) hx hb hr (fun t9 ht9 hW9 => ⟨⟨nI 115, [], rfl, ⟨rfl, congrArg nI (show _ = cr_sw (cr_sl c0) from hw.2.symm)⟩, by rw [ht9]; exact hP, va_K.moved hW9.alike hK, hD⟩, hS.F ht9⟩) hS.2.2 dM_standsFor_149
                    · refine lv_lookup (off := 58) (tgt := 150) hx hb dM_standsFor_92 (by decide) (by rw [hw.1]; decide) (by decide) ?_
                      refine lv_sipush (v := nI 229) hx hb dM_standsFor_150 (by decide) ?_
                      exact W.iret (v := nI 229) hx hb hr (fun t9 ht9 hW9 => ⟨⟨nI 229, [], rfl, ⟨rfl, congrArg nI (show _ = cr_sw (cr_sl c0) from hw.2.symm)⟩, by rw [ht9]; exact hP, va_K.moved hW9.alike hK, hD⟩, hS.F ht9⟩) hS.2.2 dM_standsFor_153
                    · refine lv_lookup (off := 62) (tgt := 154) hx hb dM_standsFor_92 (by decide) (by rw [hw.1]; decide) (by decide) ?_
                      refine lv_sipush (v := nI 956) hx hb dM_standsFor_154 (by decide) ?_
                      exact W.iret (v := nI 956) hx hb hr (fun t9 ht9 hW9 => ⟨⟨nI 956, [], rfl, ⟨rfl, congrArg nI (show _ = cr_sw (cr_sl c0) from hw.2.symm)⟩, by rw [ht9]; exact hP, va_K.moved hW9.alike hK, hD⟩, hS.F ht9⟩) hS.2.2 dM_standsFor_157
                    · refine lv_lookup (off := 66) (tgt := 158) hx hb dM_standsFor_92 (by decide) (by rw [hw.1]; decide) (by decide) ?_
                      refine lv_sipush (v := nI 963) hx hb dM_standsFor_158 (by decide) ?_
                      exact W.iret (v := nI 963) hx hb hr (fun t9 ht9 hW9 => ⟨⟨nI 963, [], rfl, ⟨rfl, congrArg nI (show _ = cr_sw (cr_sl c0) from hw.2.symm)⟩, by rw [ht9]; exact hP, va_K.moved hW9.alike hK, hD⟩, hS.F ht9⟩) hS.2.2 dM_standsFor_161
                    · refine lv_lookup (off := 70) (tgt := 162) hx hb dM_standsFor_92 (by decide) (cr_lk (by rw [nI_toInt (by omega)]; omega) (by rw [nI_toInt (by omega)]; omega) (by rw [nI_toInt (by omega)]; omega) (by rw [nI_toInt (by omega)]; omega) (by rw [nI_toInt (by omega)]; omega)) (by decide) ?_
                      refine lv_iload_n hx hb dM_standsFor_162 rfl (lv_at hl 0 rfl) ?_
                      exact W.iret (v := nI (cr_sl c0)) hx hb hr (fun t9 ht9 hW9 => ⟨⟨nI (cr_sl c0), [], rfl, ⟨rfl, congrArg nI (show _ = cr_sw (cr_sl c0) from hw.1.symm)⟩, by rw [ht9]; exact hP, va_K.moved hW9.alike hK, hD⟩, hS.F ht9⟩) hS.2.2 dM_standsFor_163
                  · exact absurd ((nI_ltI (by omega) (by omega)).2 (by omega)) c_72
                · exact absurd ((nI_ltI (by omega) (by omega)).2 (by omega)) c_51
          · exact absurd ((nI_ltI (by omega) (by omega)).2 (by omega)) c_23
  · have hslin := cr_sl_in c0
    refine lv_iload_n hx hb dM_standsFor_0 rfl (lv_at hl 0 rfl) ?_
    refine lv_bipush (v := nI 65) hx hb dM_standsFor_1 (by decide) ?_
    refine lv_icmp_lt (tgt := 12) hx hb dM_standsFor_3 (by decide) (fun c_3 => ?_) (fun c_3 => ?_)
    · exact absurd ((nI_ltI (by omega) (by omega)).1 c_3) (by omega)
    · refine lv_iload_n hx hb dM_standsFor_6 rfl (lv_at hl 0 rfl) ?_
      refine lv_bipush (v := nI 90) hx hb dM_standsFor_7 (by decide) ?_
      refine lv_icmp_le (tgt := 61) hx hb dM_standsFor_9 (by decide) (fun c_9 => ?_) (fun c_9 => ?_)
      · exact absurd ((nI_leI (by omega) (by omega)).1 c_9) (by omega)
      · refine lv_iload_n hx hb dM_standsFor_12 rfl (lv_at hl 0 rfl) ?_
        refine lv_sipush (v := nI 192) hx hb dM_standsFor_13 (by decide) ?_
        refine lv_icmp_lt (tgt := 33) hx hb dM_standsFor_16 (by decide) (fun c_16 => ?_) (fun c_16 => ?_)
        · exact absurd ((nI_ltI (by omega) (by omega)).1 c_16) (by omega)
        · refine lv_iload_n hx hb dM_standsFor_19 rfl (lv_at hl 0 rfl) ?_
          refine lv_sipush (v := nI 222) hx hb dM_standsFor_20 (by decide) ?_
          refine lv_icmp_gt (tgt := 33) hx hb dM_standsFor_23 (by decide) (fun c_23 => ?_) (fun c_23 => ?_)
          · refine lv_iload_n hx hb dM_standsFor_33 rfl (lv_at hl 0 rfl) ?_
            refine lv_sipush (v := nI 913) hx hb dM_standsFor_34 (by decide) ?_
            refine lv_icmp_lt (tgt := 47) hx hb dM_standsFor_37 (by decide) (fun c_37 => ?_) (fun c_37 => ?_)
            · exact absurd ((nI_ltI (by omega) (by omega)).1 c_37) (by omega)
            · refine lv_iload_n hx hb dM_standsFor_40 rfl (lv_at hl 0 rfl) ?_
              refine lv_sipush (v := nI 937) hx hb dM_standsFor_41 (by decide) ?_
              refine lv_icmp_le (tgt := 61) hx hb dM_standsFor_44 (by decide) (fun c_44 => ?_) (fun c_44 => ?_)
              · exact absurd ((nI_leI (by omega) (by omega)).1 c_44) (by omega)
              · refine lv_iload_n hx hb dM_standsFor_47 rfl (lv_at hl 0 rfl) ?_
                refine lv_sipush (v := nI 1040) hx hb dM_standsFor_48 (by decide) ?_
                refine lv_icmp_lt (tgt := 68) hx hb dM_standsFor_51 (by decide) (fun c_51 => ?_) (fun c_51 => ?_)
                · refine lv_iload_n hx hb dM_standsFor_68 rfl (lv_at hl 0 rfl) ?_
                  refine lv_sipush (v := nI 1024) hx hb dM_standsFor_69 (by decide) ?_
                  refine lv_icmp_lt (tgt := 89) hx hb dM_standsFor_72 (by decide) (fun c_72 => ?_) (fun c_72 => ?_)
                  · exact absurd ((nI_ltI (by omega) (by omega)).1 c_72) (by omega)
                  · refine lv_iload_n hx hb dM_standsFor_75 rfl (lv_at hl 0 rfl) ?_
                    refine lv_sipush (v := nI 1039) hx hb dM_standsFor_76 (by decide) ?_
                    refine lv_icmp_gt (tgt := 89) hx hb dM_standsFor_79 (by decide) (fun c_79 => ?_) (fun c_79 => ?_)
                    · exact absurd ((nI_ltI (by omega) (by omega)).1 c_79) (by omega)
                    · refine lv_iload_n hx hb dM_standsFor_82 rfl (lv_at hl 0 rfl) ?_
                      refine lv_bipush (v := nI 80) hx hb dM_standsFor_83 (by decide) ?_
                      refine lv_iadd hx hb dM_standsFor_85 ?_
                      refine cr_top (y := nI (c0 + 80)) (nI_add c0 80) ?_
                      refine lv_goto (tgt := 90) hx hb dM_standsFor_86 (by decide) ?_
                      refine cr_top (y := nI (cr_sl c0)) (congrArg nI (by unfold cr_sl; rw [if_neg (by omega), if_pos (by omega)])) ?_
                      refine lv_istore_n (lv' := [(1, .int (nI (cr_sl c0))), (0, .int (nI c0))]) hx hb dM_standsFor_90 rfl hl (by decide) rfl (fun ls hl => ?_)
                      refine lv_iload_n hx hb dM_standsFor_91 rfl (lv_at hl 0 rfl) ?_
                      rcases cr_sw_in (cr_sl c0) with hw | hw | hw | hw | hw | hw
                      · refine lv_lookup (off := 52) (tgt := 144) hx hb dM_standsFor_92 (by decide) (by rw [hw.1]; decide) (by decide) ?_
                        refine lv_bipush (v := nI 107) hx hb dM_standsFor_144 (by decide) ?_
                        exact W.iret (v := nI 107) hx hb hr (fun t9 ht9 hW9 => ⟨⟨nI 107, [], rfl, ⟨rfl, congrArg nI (show _ = cr_sw (cr_sl c0) from hw.2.symm)⟩, by rw [ht9]; exact hP, va_K.moved hW9.alike hK, hD⟩, hS.F ht9⟩) hS.2.2 dM_standsFor_146
                      · refine lv_lookup (off := 55) (tgt := 147) hx hb dM_standsFor_92 (by decide) (by rw [hw.1]; decide) (by decide) ?_
                        refine lv_bipush (v := nI 115) hx hb dM_standsFor_147 (by decide) ?_
                        exact W.iret (v := nI 115) hx hb hr (fun t9 ht9 hW9 => ⟨⟨nI 115, [], rfl, ⟨rfl, congrArg nI (show _ = cr_sw (cr_sl c0) from hw.2.symm)⟩, by rw [ht9]; exact hP, va_K.moved hW9.alike hK, hD⟩, hS.F ht9⟩) hS.2.2 dM_standsFor_149
                      · refine lv_lookup (off := 58) (tgt := 150) hx hb dM_standsFor_92 (by decide) (by rw [hw.1]; decide) (by decide) ?_
                        refine lv_sipush (v := nI 229) hx hb dM_standsFor_150 (by decide) ?_
                        exact W.iret (v := nI 229) hx hb hr (fun t9 ht9 hW9 => ⟨⟨nI 229, [], rfl, ⟨rfl, congrArg nI (show _ = cr_sw (cr_sl c0) from hw.2.symm)⟩, by rw [ht9]; exact hP, va_K.moved hW9.alike hK, hD⟩, hS.F ht9⟩) hS.2.2 dM_standsFor_153
                      · refine lv_lookup (off := 62) (tgt := 154) hx hb dM_standsFor_92 (by decide) (by rw [hw.1]; decide) (by decide) ?_
                        refine lv_sipush (v := nI 956) hx hb dM_standsFor_154 (by decide) ?_
                        exact W.iret (v := nI 956) hx hb hr (fun t9 ht9 hW9 => ⟨⟨nI 956, [], rfl, ⟨rfl, congrArg nI (show _ = cr_sw (cr_sl c0) from hw.2.symm)⟩, by rw [ht9]; exact hP, va_K.moved hW9.alike hK, hD⟩, hS.F ht9⟩) hS.2.2 dM_standsFor_157
                      · refine lv_lookup (off := 66) (tgt := 158) hx hb dM_standsFor_92 (by decide) (by rw [hw.1]; decide) (by decide) ?_
                        refine lv_sipush (v := nI 963) hx hb dM_standsFor_158 (by decide) ?_
                        exact W.iret (v := nI 963) hx hb hr (fun t9 ht9 hW9 => ⟨⟨nI 963, [], rfl, ⟨rfl, congrArg nI (show _ = cr_sw (cr_sl c0) from hw.2.symm)⟩, by rw [ht9]; exact hP, va_K.moved hW9.alike hK, hD⟩, hS.F ht9⟩) hS.2.2 dM_standsFor_161
                      · refine lv_lookup (off := 70) (tgt := 162) hx hb dM_standsFor_92 (by decide) (cr_lk (by rw [nI_toInt (by omega)]; omega) (by rw [nI_toInt (by omega)]; omega) (by rw [nI_toInt (by omega)]; omega) (by rw [nI_toInt (by omega)]; omega) (by rw [nI_toInt (by omega)]; omega)) (by decide) ?_
                        refine lv_iload_n hx hb dM_standsFor_162 rfl (lv_at hl 0 rfl) ?_
                        exact W.iret (v := nI (cr_sl c0)) hx hb hr (fun t9 ht9 hW9 => ⟨⟨nI (cr_sl c0), [], rfl, ⟨rfl, congrArg nI (show _ = cr_sw (cr_sl c0) from hw.1.symm)⟩, by rw [ht9]; exact hP, va_K.moved hW9.alike hK, hD⟩, hS.F ht9⟩) hS.2.2 dM_standsFor_163
                · exact absurd ((nI_ltI (by omega) (by omega)).2 (by omega)) c_51
          · exact absurd ((nI_ltI (by omega) (by omega)).2 (by omega)) c_23
  · have hslin := cr_sl_in c0
    refine lv_iload_n hx hb dM_standsFor_0 rfl (lv_at hl 0 rfl) ?_
    refine lv_bipush (v := nI 65) hx hb dM_standsFor_1 (by decide) ?_
    refine lv_icmp_lt (tgt := 12) hx hb dM_standsFor_3 (by decide) (fun c_3 => ?_) (fun c_3 => ?_)
    · exact absurd ((nI_ltI (by omega) (by omega)).1 c_3) (by omega)
    · refine lv_iload_n hx hb dM_standsFor_6 rfl (lv_at hl 0 rfl) ?_
      refine lv_bipush (v := nI 90) hx hb dM_standsFor_7 (by decide) ?_
      refine lv_icmp_le (tgt := 61) hx hb dM_standsFor_9 (by decide) (fun c_9 => ?_) (fun c_9 => ?_)
      · exact absurd ((nI_leI (by omega) (by omega)).1 c_9) (by omega)
      · refine lv_iload_n hx hb dM_standsFor_12 rfl (lv_at hl 0 rfl) ?_
        refine lv_sipush (v := nI 192) hx hb dM_standsFor_13 (by decide) ?_
        refine lv_icmp_lt (tgt := 33) hx hb dM_standsFor_16 (by decide) (fun c_16 => ?_) (fun c_16 => ?_)
        · exact absurd ((nI_ltI (by omega) (by omega)).1 c_16) (by omega)
        · refine lv_iload_n hx hb dM_standsFor_19 rfl (lv_at hl 0 rfl) ?_
          refine lv_sipush (v := nI 222) hx hb dM_standsFor_20 (by decide) ?_
          refine lv_icmp_gt (tgt := 33) hx hb dM_standsFor_23 (by decide) (fun c_23 => ?_) (fun c_23 => ?_)
          · refine lv_iload_n hx hb dM_standsFor_33 rfl (lv_at hl 0 rfl) ?_
            refine lv_sipush (v := nI 913) hx hb dM_standsFor_34 (by decide) ?_
            refine lv_icmp_lt (tgt := 47) hx hb dM_standsFor_37 (by decide) (fun c_37 => ?_) (fun c_37 => ?_)
            · exact absurd ((nI_ltI (by omega) (by omega)).1 c_37) (by omega)
            · refine lv_iload_n hx hb dM_standsFor_40 rfl (lv_at hl 0 rfl) ?_
              refine lv_sipush (v := nI 937) hx hb dM_standsFor_41 (by decide) ?_
              refine lv_icmp_le (tgt := 61) hx hb dM_standsFor_44 (by decide) (fun c_44 => ?_) (fun c_44 => ?_)
              · exact absurd ((nI_leI (by omega) (by omega)).1 c_44) (by omega)
              · refine lv_iload_n hx hb dM_standsFor_47 rfl (lv_at hl 0 rfl) ?_
                refine lv_sipush (v := nI 1040) hx hb dM_standsFor_48 (by decide) ?_
                refine lv_icmp_lt (tgt := 68) hx hb dM_standsFor_51 (by decide) (fun c_51 => ?_) (fun c_51 => ?_)
                · exact absurd ((nI_ltI (by omega) (by omega)).1 c_51) (by omega)
                · refine lv_iload_n hx hb dM_standsFor_54 rfl (lv_at hl 0 rfl) ?_
                  refine lv_sipush (v := nI 1071) hx hb dM_standsFor_55 (by decide) ?_
                  refine lv_icmp_gt (tgt := 68) hx hb dM_standsFor_58 (by decide) (fun c_58 => ?_) (fun c_58 => ?_)
                  · exact absurd ((nI_ltI (by omega) (by omega)).1 c_58) (by omega)
                  · refine lv_iload_n hx hb dM_standsFor_61 rfl (lv_at hl 0 rfl) ?_
                    refine lv_bipush (v := nI 32) hx hb dM_standsFor_62 (by decide) ?_
                    refine lv_iadd hx hb dM_standsFor_64 ?_
                    refine cr_top (y := nI (c0 + 32)) (nI_add c0 32) ?_
                    refine lv_goto (tgt := 90) hx hb dM_standsFor_65 (by decide) ?_
                    refine cr_top (y := nI (cr_sl c0)) (congrArg nI (by unfold cr_sl; rw [if_pos (by omega)])) ?_
                    refine lv_istore_n (lv' := [(1, .int (nI (cr_sl c0))), (0, .int (nI c0))]) hx hb dM_standsFor_90 rfl hl (by decide) rfl (fun ls hl => ?_)
                    refine lv_iload_n hx hb dM_standsFor_91 rfl (lv_at hl 0 rfl) ?_
                    rcases cr_sw_in (cr_sl c0) with hw | hw | hw | hw | hw | hw
                    · refine lv_lookup (off := 52) (tgt := 144) hx hb dM_standsFor_92 (by decide) (by rw [hw.1]; decide) (by decide) ?_
                      refine lv_bipush (v := nI 107) hx hb dM_standsFor_144 (by decide) ?_
                      exact W.iret (v := nI 107) hx hb hr (fun t9 ht9 hW9 => ⟨⟨nI 107, [], rfl, ⟨rfl, congrArg nI (show _ = cr_sw (cr_sl c0) from hw.2.symm)⟩, by rw [ht9]; exact hP, va_K.moved hW9.alike hK, hD⟩, hS.F ht9⟩) hS.2.2 dM_standsFor_146
                    · refine lv_lookup (off := 55) (tgt := 147) hx hb dM_standsFor_92 (by decide) (by rw [hw.1]; decide) (by decide) ?_
                      refine lv_bipush (v := nI 115) hx hb dM_standsFor_147 (by decide) ?_
                      exact W.iret (v := nI 115) hx hb hr (fun t9 ht9 hW9 => ⟨⟨nI 115, [], rfl, ⟨rfl, congrArg nI (show _ = cr_sw (cr_sl c0) from hw.2.symm)⟩, by rw [ht9]; exact hP, va_K.moved hW9.alike hK, hD⟩, hS.F ht9⟩) hS.2.2 dM_standsFor_149
                    · refine lv_lookup (off := 58) (tgt := 150) hx hb dM_standsFor_92 (by decide) (by rw [hw.1]; decide) (by decide) ?_
                      refine lv_sipush (v := nI 229) hx hb dM_standsFor_150 (by decide) ?_
                      exact W.iret (v := nI 229) hx hb hr (fun t9 ht9 hW9 => ⟨⟨nI 229, [], rfl, ⟨rfl, congrArg nI (show _ = cr_sw (cr_sl c0) from hw.2.symm)⟩, by rw [ht9]; exact hP, va_K.moved hW9.alike hK, hD⟩, hS.F ht9⟩) hS.2.2 dM_standsFor_153
                    · refine lv_lookup (off := 62) (tgt := 154) hx hb dM_standsFor_92 (by decide) (by rw [hw.1]; decide) (by decide) ?_
                      refine lv_sipush (v := nI 956) hx hb dM_standsFor_154 (by decide) ?_
                      exact W.iret (v := nI 956) hx hb hr (fun t9 ht9 hW9 => ⟨⟨nI 956, [], rfl, ⟨rfl, congrArg nI (show _ = cr_sw (cr_sl c0) from hw.2.symm)⟩, by rw [ht9]; exact hP, va_K.moved hW9.alike hK, hD⟩, hS.F ht9⟩) hS.2.2 dM_standsFor_157
                    · refine lv_lookup (off := 66) (tgt := 158) hx hb dM_standsFor_92 (by decide) (by rw [hw.1]; decide) (by decide) ?_
                      refine lv_sipush (v := nI 963) hx hb dM_standsFor_158 (by decide) ?_
                      exact W.iret (v := nI 963) hx hb hr (fun t9 ht9 hW9 => ⟨⟨nI 963, [], rfl, ⟨rfl, congrArg nI (show _ = cr_sw (cr_sl c0) from hw.2.symm)⟩, by rw [ht9]; exact hP, va_K.moved hW9.alike hK, hD⟩, hS.F ht9⟩) hS.2.2 dM_standsFor_161
                    · refine lv_lookup (off := 70) (tgt := 162) hx hb dM_standsFor_92 (by decide) (cr_lk (by rw [nI_toInt (by omega)]; omega) (by rw [nI_toInt (by omega)]; omega) (by rw [nI_toInt (by omega)]; omega) (by rw [nI_toInt (by omega)]; omega) (by rw [nI_toInt (by omega)]; omega)) (by decide) ?_
                      refine lv_iload_n hx hb dM_standsFor_162 rfl (lv_at hl 0 rfl) ?_
                      exact W.iret (v := nI (cr_sl c0)) hx hb hr (fun t9 ht9 hW9 => ⟨⟨nI (cr_sl c0), [], rfl, ⟨rfl, congrArg nI (show _ = cr_sw (cr_sl c0) from hw.1.symm)⟩, by rw [ht9]; exact hP, va_K.moved hW9.alike hK, hD⟩, hS.F ht9⟩) hS.2.2 dM_standsFor_163
          · exact absurd ((nI_ltI (by omega) (by omega)).2 (by omega)) c_23
  · have hslin := cr_sl_in c0
    refine lv_iload_n hx hb dM_standsFor_0 rfl (lv_at hl 0 rfl) ?_
    refine lv_bipush (v := nI 65) hx hb dM_standsFor_1 (by decide) ?_
    refine lv_icmp_lt (tgt := 12) hx hb dM_standsFor_3 (by decide) (fun c_3 => ?_) (fun c_3 => ?_)
    · exact absurd ((nI_ltI (by omega) (by omega)).1 c_3) (by omega)
    · refine lv_iload_n hx hb dM_standsFor_6 rfl (lv_at hl 0 rfl) ?_
      refine lv_bipush (v := nI 90) hx hb dM_standsFor_7 (by decide) ?_
      refine lv_icmp_le (tgt := 61) hx hb dM_standsFor_9 (by decide) (fun c_9 => ?_) (fun c_9 => ?_)
      · exact absurd ((nI_leI (by omega) (by omega)).1 c_9) (by omega)
      · refine lv_iload_n hx hb dM_standsFor_12 rfl (lv_at hl 0 rfl) ?_
        refine lv_sipush (v := nI 192) hx hb dM_standsFor_13 (by decide) ?_
        refine lv_icmp_lt (tgt := 33) hx hb dM_standsFor_16 (by decide) (fun c_16 => ?_) (fun c_16 => ?_)
        · exact absurd ((nI_ltI (by omega) (by omega)).1 c_16) (by omega)
        · refine lv_iload_n hx hb dM_standsFor_19 rfl (lv_at hl 0 rfl) ?_
          refine lv_sipush (v := nI 222) hx hb dM_standsFor_20 (by decide) ?_
          refine lv_icmp_gt (tgt := 33) hx hb dM_standsFor_23 (by decide) (fun c_23 => ?_) (fun c_23 => ?_)
          · refine lv_iload_n hx hb dM_standsFor_33 rfl (lv_at hl 0 rfl) ?_
            refine lv_sipush (v := nI 913) hx hb dM_standsFor_34 (by decide) ?_
            refine lv_icmp_lt (tgt := 47) hx hb dM_standsFor_37 (by decide) (fun c_37 => ?_) (fun c_37 => ?_)
            · exact absurd ((nI_ltI (by omega) (by omega)).1 c_37) (by omega)
            · refine lv_iload_n hx hb dM_standsFor_40 rfl (lv_at hl 0 rfl) ?_
              refine lv_sipush (v := nI 937) hx hb dM_standsFor_41 (by decide) ?_
              refine lv_icmp_le (tgt := 61) hx hb dM_standsFor_44 (by decide) (fun c_44 => ?_) (fun c_44 => ?_)
              · exact absurd ((nI_leI (by omega) (by omega)).1 c_44) (by omega)
              · refine lv_iload_n hx hb dM_standsFor_47 rfl (lv_at hl 0 rfl) ?_
                refine lv_sipush (v := nI 1040) hx hb dM_standsFor_48 (by decide) ?_
                refine lv_icmp_lt (tgt := 68) hx hb dM_standsFor_51 (by decide) (fun c_51 => ?_) (fun c_51 => ?_)
                · exact absurd ((nI_ltI (by omega) (by omega)).1 c_51) (by omega)
                · refine lv_iload_n hx hb dM_standsFor_54 rfl (lv_at hl 0 rfl) ?_
                  refine lv_sipush (v := nI 1071) hx hb dM_standsFor_55 (by decide) ?_
                  refine lv_icmp_gt (tgt := 68) hx hb dM_standsFor_58 (by decide) (fun c_58 => ?_) (fun c_58 => ?_)
                  · refine lv_iload_n hx hb dM_standsFor_68 rfl (lv_at hl 0 rfl) ?_
                    refine lv_sipush (v := nI 1024) hx hb dM_standsFor_69 (by decide) ?_
                    refine lv_icmp_lt (tgt := 89) hx hb dM_standsFor_72 (by decide) (fun c_72 => ?_) (fun c_72 => ?_)
                    · exact absurd ((nI_ltI (by omega) (by omega)).1 c_72) (by omega)
                    · refine lv_iload_n hx hb dM_standsFor_75 rfl (lv_at hl 0 rfl) ?_
                      refine lv_sipush (v := nI 1039) hx hb dM_standsFor_76 (by decide) ?_
                      refine lv_icmp_gt (tgt := 89) hx hb dM_standsFor_79 (by decide) (fun c_79 => ?_) (fun c_79 => ?_)
                      · refine lv_iload_n hx hb dM_standsFor_89 rfl (lv_at hl 0 rfl) ?_
                        refine cr_top (y := nI (cr_sl c0)) (congrArg nI (by unfold cr_sl; rw [if_neg (by omega), if_neg (by omega)])) ?_
                        refine lv_istore_n (lv' := [(1, .int (nI (cr_sl c0))), (0, .int (nI c0))]) hx hb dM_standsFor_90 rfl hl (by decide) rfl (fun ls hl => ?_)
                        refine lv_iload_n hx hb dM_standsFor_91 rfl (lv_at hl 0 rfl) ?_
                        rcases cr_sw_in (cr_sl c0) with hw | hw | hw | hw | hw | hw
                        · refine lv_lookup (off := 52) (tgt := 144) hx hb dM_standsFor_92 (by decide) (by rw [hw.1]; decide) (by decide) ?_
                          refine lv_bipush (v := nI 107) hx hb dM_standsFor_144 (by decide) ?_
                          exact W.iret (v := nI 107) hx hb hr (fun t9 ht9 hW9 => ⟨⟨nI 107, [], rfl, ⟨rfl, congrArg nI (show _ = cr_sw (cr_sl c0) from hw.2.symm)⟩, by rw [ht9]; exact hP, va_K.moved hW9.alike hK, hD⟩, hS.F ht9⟩) hS.2.2 dM_standsFor_146
                        · refine lv_lookup (off := 55) (tgt := 147) hx hb dM_standsFor_92 (by decide) (by rw [hw.1]; decide) (by decide) ?_
                          refine lv_bipush (v := nI 115) hx hb dM_standsFor_147 (by decide) ?_
                          exact W.iret (v := nI 115) hx hb hr (fun t9 ht9 hW9 => ⟨⟨nI 115, [], rfl, ⟨rfl, congrArg nI (show _ = cr_sw (cr_sl c0) from hw.2.symm)⟩, by rw [ht9]; exact hP, va_K.moved hW9.alike hK, hD⟩, hS.F ht9⟩) hS.2.2 dM_standsFor_149
                        · refine lv_lookup (off := 58) (tgt := 150) hx hb dM_standsFor_92 (by decide) (by rw [hw.1]; decide) (by decide) ?_
                          refine lv_sipush (v := nI 229) hx hb dM_standsFor_150 (by decide) ?_
                          exact W.iret (v := nI 229) hx hb hr (fun t9 ht9 hW9 => ⟨⟨nI 229, [], rfl, ⟨rfl, congrArg nI (show _ = cr_sw (cr_sl c0) from hw.2.symm)⟩, by rw [ht9]; exact hP, va_K.moved hW9.alike hK, hD⟩, hS.F ht9⟩) hS.2.2 dM_standsFor_153
                        · refine lv_lookup (off := 62) (tgt := 154) hx hb dM_standsFor_92 (by decide) (by rw [hw.1]; decide) (by decide) ?_
                          refine lv_sipush (v := nI 956) hx hb dM_standsFor_154 (by decide) ?_
                          exact W.iret (v := nI 956) hx hb hr (fun t9 ht9 hW9 => ⟨⟨nI 956, [], rfl, ⟨rfl, congrArg nI (show _ = cr_sw (cr_sl c0) from hw.2.symm)⟩, by rw [ht9]; exact hP, va_K.moved hW9.alike hK, hD⟩, hS.F ht9⟩) hS.2.2 dM_standsFor_157
                        · refine lv_lookup (off := 66) (tgt := 158) hx hb dM_standsFor_92 (by decide) (by rw [hw.1]; decide) (by decide) ?_
                          refine lv_sipush (v := nI 963) hx hb dM_standsFor_158 (by decide) ?_
                          exact W.iret (v := nI 963) hx hb hr (fun t9 ht9 hW9 => ⟨⟨nI 963, [], rfl, ⟨rfl, congrArg nI (show _ = cr_sw (cr_sl c0) from hw.2.symm)⟩, by rw [ht9]; exact hP, va_K.moved hW9.alike hK, hD⟩, hS.F ht9⟩) hS.2.2 dM_standsFor_161
                        · refine lv_lookup (off := 70) (tgt := 162) hx hb dM_standsFor_92 (by decide) (cr_lk (by rw [nI_toInt (by omega)]; omega) (by rw [nI_toInt (by omega)]; omega) (by rw [nI_toInt (by omega)]; omega) (by rw [nI_toInt (by omega)]; omega) (by rw [nI_toInt (by omega)]; omega)) (by decide) ?_
                          refine lv_iload_n hx hb dM_standsFor_162 rfl (lv_at hl 0 rfl) ?_
                          exact W.iret (v := nI (cr_sl c0)) hx hb hr (fun t9 ht9 hW9 => ⟨⟨nI (cr_sl c0), [], rfl, ⟨rfl, congrArg nI (show _ = cr_sw (cr_sl c0) from hw.1.symm)⟩, by rw [ht9]; exact hP, va_K.moved hW9.alike hK, hD⟩, hS.F ht9⟩) hS.2.2 dM_standsFor_163
                      · exact absurd ((nI_ltI (by omega) (by omega)).2 (by omega)) c_79
                  · exact absurd ((nI_ltI (by omega) (by omega)).2 (by omega)) c_58
          · exact absurd ((nI_ltI (by omega) (by omega)).2 (by omega)) c_23

set_option maxHeartbeats 4000000 in
set_option maxRecDepth 100000 in
theorem m_fold (l : Launch) (dC : Nat → ClassId) (dI : Nat → Nat → Nat) (sz : Nat) (mo l1 l2 l3 l4 l5 l6 l7 l8 l9 : Nat) (cI cZ : ClassId) (th by0 fd : Int32) (n nk : Nat) (f g kf kg ef eg mt fr tt : Nat → Int32) (S : Nat → Prop) (hSet : cr_Set n f g S) (hn : n ≤ 1000) : Met l yM_fold wsM_fold ({ frames := 3, cells := 0, slots := 0, locals := 100 }) (va_Pc [.ref mo] (cr_pre dC dI [(cI, .int), (cZ, .boolean)] [(mo, .inr (2, [.int th, .ref l1, .ref l2, .int (nI n), .ref l3, .ref l4, .int (nI nk), .ref l5, .ref l6, .int (nI 0), .ref l7, .ref l8, .ref l9, .int by0, .int fd])), (l1, .inl (cI, 2400, .inl f)), (l2, .inl (cI, 2400, .inl g)), (l3, .inl (cI, 2400, .inl kf)), (l4, .inl (cI, 2400, .inl kg)), (l5, .inl (cI, 4800, .inl ef)), (l6, .inl (cI, 4800, .inl eg)), (l7, .inl (cZ, 1120, .inl mt)), (l8, .inl (cI, 4, .inl fr)), (l9, .inl (cI, 4, .inl tt))] sz)) (va_Qi (fun (rr : Int32) (u : va_W) => ∃ (n' : Nat) (f' g' ef' eg' mt' : Nat → Int32), rr = nI n' ∧ u = [(mo, .inr (2, [.int (nI 0), .ref l1, .ref l2, .int (nI n'), .ref l3, .ref l4, .int (nI nk), .ref l5, .ref l6, .int (nI 0), .ref l7, .ref l8, .ref l9, .int by0, .int fd])), (l1, .inl (cI, 2400, .inl f')), (l2, .inl (cI, 2400, .inl g')), (l3, .inl (cI, 2400, .inl kf)), (l4, .inl (cI, 2400, .inl kg)), (l5, .inl (cI, 4800, .inl ef')), (l6, .inl (cI, 4800, .inl eg')), (l7, .inl (cZ, 1120, .inl mt')), (l8, .inl (cI, 4, .inl fr)), (l9, .inl (cI, 4, .inl tt))] ∧ n' ≤ 2400 ∧ cr_Set n' f' g' (cr_fold S)) (cr_at dC dI [(cI, .int), (cZ, .boolean)] (va_A [(mo, .inr (2, [.int th, .ref l1, .ref l2, .int (nI n), .ref l3, .ref l4, .int (nI nk), .ref l5, .ref l6, .int (nI 0), .ref l7, .ref l8, .ref l9, .int by0, .int fd])), (l1, .inl (cI, 2400, .inl f)), (l2, .inl (cI, 2400, .inl g)), (l3, .inl (cI, 2400, .inl kf)), (l4, .inl (cI, 2400, .inl kg)), (l5, .inl (cI, 4800, .inl ef)), (l6, .inl (cI, 4800, .inl eg)), (l7, .inl (cZ, 1120, .inl mt)), (l8, .inl (cI, 4, .inl fr)), (l9, .inl (cI, 4, .inl tt))] sz)) (va_A [(mo, .inr (2, [.int th, .ref l1, .ref l2, .int (nI n), .ref l3, .ref l4, .int (nI nk), .ref l5, .ref l6, .int (nI 0), .ref l7, .ref l8, .ref l9, .int by0, .int fd])), (l1, .inl (cI, 2400, .inl f)), (l2, .inl (cI, 2400, .inl g)), (l3, .inl (cI, 2400, .inl kf)), (l4, .inl (cI, 2400, .inl kg)), (l5, .inl (cI, 4800, .inl ef)), (l6, .inl (cI, 4800, .inl eg)), (l7, .inl (cZ, 1120, .inl mt)), (l8, .inl (cI, 4, .inl fr)), (l9, .inl (cI, 4, .inl tt))] sz)) 0 0 (va_A [(mo, .inr (2, [.int th, .ref l1, .ref l2, .int (nI n), .ref l3, .ref l4, .int (nI nk), .ref l5, .ref l6, .int (nI 0), .ref l7, .ref l8, .ref l9, .int by0, .int fd])), (l1, .inl (cI, 2400, .inl f)), (l2, .inl (cI, 2400, .inl g)), (l3, .inl (cI, 2400, .inl kf)), (l4, .inl (cI, 2400, .inl kg)), (l5, .inl (cI, 4800, .inl ef)), (l6, .inl (cI, 4800, .inl eg)), (l7, .inl (cZ, 1120, .inl mt)), (l8, .inl (cI, 4, .inl fr)), (l9, .inl (cI, 4, .inl tt))] sz) := by
  refine Met.ofW (cc := cM_fold) (maxL := 2) (ret := (some .int)) (by decide) rfl ?_
  intro p e s m args below meth c s₁ B hml hv
  obtain ⟨rfl, hsz, hP, hK, hD0⟩ := hv
  have hx := B.exec
  have hb := B.bytes
  have hr := B.returns
  have hts := atoms_spec (ws := wsM_fold) B.pre
  have hown : s.vm.findClass RX2 = some m.cls := findClass_of_methodNamed B.named
  have hlocks := B.notSynchronized
  subst hsz
  have hD := hD0.self (sz := s.heap.size)
  generalize hAe : va_A [(mo, .inr (2, [.int th, .ref l1, .ref l2, .int (nI n), .ref l3, .ref l4, .int (nI nk), .ref l5, .ref l6, .int (nI 0), .ref l7, .ref l8, .ref l9, .int by0, .int fd])), (l1, .inl (cI, 2400, .inl f)), (l2, .inl (cI, 2400, .inl g)), (l3, .inl (cI, 2400, .inl kf)), (l4, .inl (cI, 2400, .inl kg)), (l5, .inl (cI, 4800, .inl ef)), (l6, .inl (cI, 4800, .inl eg)), (l7, .inl (cZ, 1120, .inl mt)), (l8, .inl (cI, 4, .inl fr)), (l9, .inl (cI, 4, .inl tt))] s.heap.size = A at hD ⊢
  have hA : ∀ q : Nat, s.heap.size ≤ q → A q := fun q h => by rw [← hAe]; exact Or.inr h
  have hS : va_S A s.heap s.heap [] := va_S.rf
  have hP : va_P (dC, dI) crCl [(mo, .inr (2, [.int th, .ref l1, .ref l2, .int (nI n), .ref l3, .ref l4, .int (nI nk), .ref l5, .ref l6, .int (nI 0), .ref l7, .ref l8, .ref l9, .int by0, .int fd])), (l1, .inl (cI, 2400, .inl f)), (l2, .inl (cI, 2400, .inl g)), (l3, .inl (cI, 2400, .inl kf)), (l4, .inl (cI, 2400, .inl kg)), (l5, .inl (cI, 4800, .inl ef)), (l6, .inl (cI, 4800, .inl eg)), (l7, .inl (cZ, 1120, .inl mt)), (l8, .inl (cI, 4, .inl fr)), (l9, .inl (cI, 4, .inl tt))] s.heap := hP
  have hl := lv_entry ([.ref mo]) (n := 2) (Nat.le_of_ble_eq_true rfl)
  rw [lg_entry_eq]
  generalize (lg_sl ([.ref mo]) ++ List.replicate (2 - (lg_sl ([.ref mo])).length) Slot.unset).toArray = ls at hl ⊢
  have hl : lv_has ls 2 [(0, .ref mo)] := hl
  refine lv_aload_n hx hb dM_fold_0 rfl (lv_at hl 0 rfl) ?_
  refine lv_iconst (v := nI 0) hx hb dM_fold_1 (by decide) ?_
  refine va_put (D := (dC, dI)) (ci := 2) (v := .int (nI 0)) (ty := .int) (C := RX2) (T := TM) (N := 15) hx hb hts (wsM00_in _) tyM tyM_ok nmM hown hK hP hD hS 0 rfl rfl 0 (by decide) (hts (.fieldLink RX2 38 "CharRowsModel" "thrown" "I") (by decide +kernel)) (fun _ h9 => h9) rfl (by decide +kernel) rfl rfl (Nat.le_of_ble_eq_true rfl) dM_fold_2 (fun H locs hP hD hS => ?_)
  have hP : va_P (dC, dI) crCl [(mo, .inr (2, [.int (nI 0), .ref l1, .ref l2, .int (nI n), .ref l3, .ref l4, .int (nI nk), .ref l5, .ref l6, .int (nI 0), .ref l7, .ref l8, .ref l9, .int by0, .int fd])), (l1, .inl (cI, 2400, .inl f)), (l2, .inl (cI, 2400, .inl g)), (l3, .inl (cI, 2400, .inl kf)), (l4, .inl (cI, 2400, .inl kg)), (l5, .inl (cI, 4800, .inl ef)), (l6, .inl (cI, 4800, .inl eg)), (l7, .inl (cZ, 1120, .inl mt)), (l8, .inl (cI, 4, .inl fr)), (l9, .inl (cI, 4, .inl tt))] H := hP
  have hD : va_D A [(mo, .inr (2, [.int (nI 0), .ref l1, .ref l2, .int (nI n), .ref l3, .ref l4, .int (nI nk), .ref l5, .ref l6, .int (nI 0), .ref l7, .ref l8, .ref l9, .int by0, .int fd])), (l1, .inl (cI, 2400, .inl f)), (l2, .inl (cI, 2400, .inl g)), (l3, .inl (cI, 2400, .inl kf)), (l4, .inl (cI, 2400, .inl kg)), (l5, .inl (cI, 4800, .inl ef)), (l6, .inl (cI, 4800, .inl eg)), (l7, .inl (cZ, 1120, .inl mt)), (l8, .inl (cI, 4, .inl fr)), (l9, .inl (cI, 4, .inl tt))] := hD
  refine lv_iconst (v := nI 0) hx hb dM_fold_5 (by decide) ?_
  refine lv_istore_n (lv' := [(1, .int (nI 0)), (0, .ref mo)]) hx hb dM_fold_6 rfl hl (by decide) rfl (fun ls hl => ?_)
  refine cr_lp2 (fun (k : Nat) (mt1 : Nat → Int32) => 1120 - k) (fun (k : Nat) (mt1 : Nat → Int32) H locs ls => (k ≤ 1120 ∧ ∀ j, j < k → mt1 j = nI 0) ∧ va_P (dC, dI) crCl [(mo, .inr (2, [.int (nI 0), .ref l1, .ref l2, .int (nI n), .ref l3, .ref l4, .int (nI nk), .ref l5, .ref l6, .int (nI 0), .ref l7, .ref l8, .ref l9, .int by0, .int fd])), (l1, .inl (cI, 2400, .inl f)), (l2, .inl (cI, 2400, .inl g)), (l3, .inl (cI, 2400, .inl kf)), (l4, .inl (cI, 2400, .inl kg)), (l5, .inl (cI, 4800, .inl ef)), (l6, .inl (cI, 4800, .inl eg)), (l7, .inl (cZ, 1120, .inl mt1)), (l8, .inl (cI, 4, .inl fr)), (l9, .inl (cI, 4, .inl tt))] H ∧ va_D A [(mo, .inr (2, [.int (nI 0), .ref l1, .ref l2, .int (nI n), .ref l3, .ref l4, .int (nI nk), .ref l5, .ref l6, .int (nI 0), .ref l7, .ref l8, .ref l9, .int by0, .int fd])), (l1, .inl (cI, 2400, .inl f)), (l2, .inl (cI, 2400, .inl g)), (l3, .inl (cI, 2400, .inl kf)), (l4, .inl (cI, 2400, .inl kg)), (l5, .inl (cI, 4800, .inl ef)), (l6, .inl (cI, 4800, .inl eg)), (l7, .inl (cZ, 1120, .inl mt1)), (l8, .inl (cI, 4, .inl fr)), (l9, .inl (cI, 4, .inl tt))] ∧ va_S A s.heap H locs ∧ lv_has ls 2 [(0, .ref mo), (1, .int (nI k))]) ?_ 0 mt ⟨⟨Nat.zero_le _, fun j hj => absurd hj (Nat.not_lt_zero j)⟩, hP, hD, hS, lv_sub hl [1, 0] rfl⟩
  intro k mt1 H locs ls hI7 ih7
  obtain ⟨⟨h1, h2⟩, hP, hD, hS, hl⟩ := hI7
  refine lv_iload_n hx hb dM_fold_7 rfl (lv_at hl 1 rfl) ?_
  refine lv_sipush (v := nI 1120) hx hb dM_fold_8 (by decide) ?_
  refine lv_icmp_ge (tgt := 27) hx hb dM_fold_11 (by decide) (fun c_11 => ?_) (fun c_11 => ?_)
  · rw [nI_leI (by omega) (by omega)] at c_11
    refine lv_iconst (v := nI 0) hx hb dM_fold_27 (by decide) ?_
    refine lv_istore_n (lv' := [(1, .int (nI 0)), (0, .ref mo)]) hx hb dM_fold_28 rfl hl (by decide) rfl (fun ls hl => ?_)
    refine cr_lp2 (fun (k : Nat) (mt1 : Nat → Int32) => 1120 - k) (fun (k : Nat) (mt1 : Nat → Int32) H locs ls => (k ≤ 1120 ∧ ∀ v, v < 1120 → cr_zb (mt1 v) (∃ d, d < k ∧ cr_sf d = v ∧ S d)) ∧ va_P (dC, dI) crCl [(mo, .inr (2, [.int (nI 0), .ref l1, .ref l2, .int (nI n), .ref l3, .ref l4, .int (nI nk), .ref l5, .ref l6, .int (nI 0), .ref l7, .ref l8, .ref l9, .int by0, .int fd])), (l1, .inl (cI, 2400, .inl f)), (l2, .inl (cI, 2400, .inl g)), (l3, .inl (cI, 2400, .inl kf)), (l4, .inl (cI, 2400, .inl kg)), (l5, .inl (cI, 4800, .inl ef)), (l6, .inl (cI, 4800, .inl eg)), (l7, .inl (cZ, 1120, .inl mt1)), (l8, .inl (cI, 4, .inl fr)), (l9, .inl (cI, 4, .inl tt))] H ∧ va_D A [(mo, .inr (2, [.int (nI 0), .ref l1, .ref l2, .int (nI n), .ref l3, .ref l4, .int (nI nk), .ref l5, .ref l6, .int (nI 0), .ref l7, .ref l8, .ref l9, .int by0, .int fd])), (l1, .inl (cI, 2400, .inl f)), (l2, .inl (cI, 2400, .inl g)), (l3, .inl (cI, 2400, .inl kf)), (l4, .inl (cI, 2400, .inl kg)), (l5, .inl (cI, 4800, .inl ef)), (l6, .inl (cI, 4800, .inl eg)), (l7, .inl (cZ, 1120, .inl mt1)), (l8, .inl (cI, 4, .inl fr)), (l9, .inl (cI, 4, .inl tt))] ∧ va_S A s.heap H locs ∧ lv_has ls 2 [(0, .ref mo), (1, .int (nI k))]) ?_ 0 mt1 ⟨⟨Nat.zero_le _, fun v hv => Or.inr ⟨h2 v (by omega), fun ⟨d, hd, _⟩ => absurd hd (Nat.not_lt_zero d)⟩⟩, hP, hD, hS, lv_sub hl [1, 0] rfl⟩
    intro k mt1 H locs ls hI29 ih29
    obtain ⟨⟨h1, h2⟩, hP, hD, hS, hl⟩ := hI29
    refine lv_iload_n hx hb dM_fold_29 rfl (lv_at hl 1 rfl) ?_
    refine lv_sipush (v := nI 1120) hx hb dM_fold_30 (by decide) ?_
    refine lv_icmp_ge (tgt := 76) hx hb dM_fold_33 (by decide) (fun c_33 => ?_) (fun c_33 => ?_)
    · rw [nI_leI (by omega) (by omega)] at c_33
      refine cr_cut1 142 [] (fun (mt3 : Nat → Int32) H locs ls => (∀ v, v < 1120 → cr_zb (mt3 v) (cr_Mt S v)) ∧ va_P (dC, dI) crCl [(mo, .inr (2, [.int (nI 0), .ref l1, .ref l2, .int (nI n), .ref l3, .ref l4, .int (nI nk), .ref l5, .ref l6, .int (nI 0), .ref l7, .ref l8, .ref l9, .int by0, .int fd])), (l1, .inl (cI, 2400, .inl f)), (l2, .inl (cI, 2400, .inl g)), (l3, .inl (cI, 2400, .inl kf)), (l4, .inl (cI, 2400, .inl kg)), (l5, .inl (cI, 4800, .inl ef)), (l6, .inl (cI, 4800, .inl eg)), (l7, .inl (cZ, 1120, .inl mt3)), (l8, .inl (cI, 4, .inl fr)), (l9, .inl (cI, 4, .inl tt))] H ∧ va_D A [(mo, .inr (2, [.int (nI 0), .ref l1, .ref l2, .int (nI n), .ref l3, .ref l4, .int (nI nk), .ref l5, .ref l6, .int (nI 0), .ref l7, .ref l8, .ref l9, .int by0, .int fd])), (l1, .inl (cI, 2400, .inl f)), (l2, .inl (cI, 2400, .inl g)), (l3, .inl (cI, 2400, .inl kf)), (l4, .inl (cI, 2400, .inl kg)), (l5, .inl (cI, 4800, .inl ef)), (l6, .inl (cI, 4800, .inl eg)), (l7, .inl (cZ, 1120, .inl mt3)), (l8, .inl (cI, 4, .inl fr)), (l9, .inl (cI, 4, .inl tt))] ∧ va_S A s.heap H locs ∧ lv_has ls 2 [(0, .ref mo), (1, .int (nI k))]) ?_ (fun jn142 => ?_)
      · intro mt3 H locs ls hJ142
        obtain ⟨hm3, hP, hD, hS, hl⟩ := hJ142
        refine lv_aload_n hx hb dM_fold_142 rfl (lv_at hl 0 rfl) ?_
        have hPc := hP.sub (ws' := [(mo, .inr (2, [.int (nI 0), .ref l1, .ref l2, .int (nI n), .ref l3, .ref l4, .int (nI nk), .ref l5, .ref l6, .int (nI 0), .ref l7, .ref l8, .ref l9, .int by0, .int fd])), (l1, .inl (cI, 2400, .inl f)), (l2, .inl (cI, 2400, .inl g)), (l3, .inl (cI, 2400, .inl kf)), (l4, .inl (cI, 2400, .inl kg)), (l5, .inl (cI, 4800, .inl ef)), (l6, .inl (cI, 4800, .inl eg)), (l7, .inl (cZ, 1120, .inl mt3)), (l8, .inl (cI, 4, .inl fr)), (l9, .inl (cI, 4, .inl tt))]) [0, 1, 2, 3, 4, 5, 6, 7, 8, 9] rfl
        have hDc := hD.sub (ws' := [(mo, .inr (2, [.int (nI 0), .ref l1, .ref l2, .int (nI n), .ref l3, .ref l4, .int (nI nk), .ref l5, .ref l6, .int (nI 0), .ref l7, .ref l8, .ref l9, .int by0, .int fd])), (l1, .inl (cI, 2400, .inl f)), (l2, .inl (cI, 2400, .inl g)), (l3, .inl (cI, 2400, .inl kf)), (l4, .inl (cI, 2400, .inl kg)), (l5, .inl (cI, 4800, .inl ef)), (l6, .inl (cI, 4800, .inl eg)), (l7, .inl (cZ, 1120, .inl mt3)), (l8, .inl (cI, 4, .inl fr)), (l9, .inl (cI, 4, .inl tt))]) [0, 1, 2, 3, 4, 5, 6, 7, 8, 9] (by decide) rfl
        have hFc := va_free (wc := [(mo, .inr (2, [.int (nI 0), .ref l1, .ref l2, .int (nI n), .ref l3, .ref l4, .int (nI nk), .ref l5, .ref l6, .int (nI 0), .ref l7, .ref l8, .ref l9, .int by0, .int fd])), (l1, .inl (cI, 2400, .inl f)), (l2, .inl (cI, 2400, .inl g)), (l3, .inl (cI, 2400, .inl kf)), (l4, .inl (cI, 2400, .inl kg)), (l5, .inl (cI, 4800, .inl ef)), (l6, .inl (cI, 4800, .inl eg)), (l7, .inl (cZ, 1120, .inl mt3)), (l8, .inl (cI, 4, .inl fr)), (l9, .inl (cI, 4, .inl tt))]) hD hS hA [0, 1, 2, 3, 4, 5, 6, 7, 8, 9] rfl
        refine va_callv (va_runV (As := []) (rest := []) ⟨hx, hb, hml, hown, hts⟩ (m_putsSet l dC dI _ mo l1 l2 l3 l4 l5 l6 l7 l8 l9 cI cZ (nI 0) by0 fd n nk 0 f g kf kg ef eg mt3 fr tt S _ hSet cr_Ent.zero (by omega) (by omega)) (cwV 0 hts gM_fold_M_putsSet rfl rfl rfl (by decide +kernel) ⟨Nat.le_of_ble_eq_true rfl, Nat.le_of_ble_eq_true rfl⟩) (cr_preV hPc hK hDc (ci := 2) (q0 := 0) rfl rfl) rfl rfl hl.1 rfl (lv_room (Nat.le_of_ble_eq_true rfl)) dM_fold_143 ⟨Nat.zero_le _, Nat.zero_le _⟩) hS (fun q _ h => hFc q h) hFc (fun u_143 t_143 H_143 locs ht_143 hvm_143 hw_143 hB_143 hz_143 hk_143 hS => ?_)
        obtain ⟨m2, e2, d2, rfl, hm2, hE2⟩ := hw_143
        obtain ⟨hP, hD⟩ := cr_back (wr := []) (w1 := [(mo, .inr (2, [.int (nI 0), .ref l1, .ref l2, .int (nI n), .ref l3, .ref l4, .int (nI nk), .ref l5, .ref l6, .int (nI m2), .ref l7, .ref l8, .ref l9, .int by0, .int fd])), (l1, .inl (cI, 2400, .inl f)), (l2, .inl (cI, 2400, .inl g)), (l3, .inl (cI, 2400, .inl kf)), (l4, .inl (cI, 2400, .inl kg)), (l5, .inl (cI, 4800, .inl e2)), (l6, .inl (cI, 4800, .inl d2)), (l7, .inl (cZ, 1120, .inl mt3)), (l8, .inl (cI, 4, .inl fr)), (l9, .inl (cI, 4, .inl tt))]) hP hD [0, 1, 2, 3, 4, 5, 6, 7, 8, 9] [] rfl rfl (by decide) (by decide) hk_143 hFc hB_143 ht_143
        clear hPc hDc hFc
        generalize H_143 = H at hP hS ⊢
        have hP := hP.sub (ws' := [(mo, .inr (2, [.int (nI 0), .ref l1, .ref l2, .int (nI n), .ref l3, .ref l4, .int (nI nk), .ref l5, .ref l6, .int (nI m2), .ref l7, .ref l8, .ref l9, .int by0, .int fd])), (l1, .inl (cI, 2400, .inl f)), (l2, .inl (cI, 2400, .inl g)), (l3, .inl (cI, 2400, .inl kf)), (l4, .inl (cI, 2400, .inl kg)), (l5, .inl (cI, 4800, .inl e2)), (l6, .inl (cI, 4800, .inl d2)), (l7, .inl (cZ, 1120, .inl mt3)), (l8, .inl (cI, 4, .inl fr)), (l9, .inl (cI, 4, .inl tt))]) [0, 1, 2, 3, 4, 5, 6, 7, 8, 9] rfl
        have hD := hD.sub (ws' := [(mo, .inr (2, [.int (nI 0), .ref l1, .ref l2, .int (nI n), .ref l3, .ref l4, .int (nI nk), .ref l5, .ref l6, .int (nI m2), .ref l7, .ref l8, .ref l9, .int by0, .int fd])), (l1, .inl (cI, 2400, .inl f)), (l2, .inl (cI, 2400, .inl g)), (l3, .inl (cI, 2400, .inl kf)), (l4, .inl (cI, 2400, .inl kg)), (l5, .inl (cI, 4800, .inl e2)), (l6, .inl (cI, 4800, .inl d2)), (l7, .inl (cZ, 1120, .inl mt3)), (l8, .inl (cI, 4, .inl fr)), (l9, .inl (cI, 4, .inl tt))]) [0, 1, 2, 3, 4, 5, 6, 7, 8, 9] (by decide) rfl
        refine lv_iconst (v := nI 0) hx hb dM_fold_146 (by decide) ?_
        refine lv_istore_n (lv' := [(1, .int (nI 0)), (0, .ref mo)]) hx hb dM_fold_147 rfl hl (by decide) rfl (fun ls hl => ?_)
        refine cr_lp4 (fun (k : Nat) (m1 : Nat) (e1 : Nat → Int32) (d1 : Nat → Int32) => 1120 - k) (fun (k : Nat) (m1 : Nat) (e1 : Nat → Int32) (d1 : Nat → Int32) H locs ls => (k ≤ 1120 ∧ m1 ≤ n + k ∧ cr_Ent m1 e1 d1 (fun c => (False ∨ S c) ∨ (c < k ∧ cr_Mt S (cr_sf c)))) ∧ va_P (dC, dI) crCl [(mo, .inr (2, [.int (nI 0), .ref l1, .ref l2, .int (nI n), .ref l3, .ref l4, .int (nI nk), .ref l5, .ref l6, .int (nI m1), .ref l7, .ref l8, .ref l9, .int by0, .int fd])), (l1, .inl (cI, 2400, .inl f)), (l2, .inl (cI, 2400, .inl g)), (l3, .inl (cI, 2400, .inl kf)), (l4, .inl (cI, 2400, .inl kg)), (l5, .inl (cI, 4800, .inl e1)), (l6, .inl (cI, 4800, .inl d1)), (l7, .inl (cZ, 1120, .inl mt3)), (l8, .inl (cI, 4, .inl fr)), (l9, .inl (cI, 4, .inl tt))] H ∧ va_D A [(mo, .inr (2, [.int (nI 0), .ref l1, .ref l2, .int (nI n), .ref l3, .ref l4, .int (nI nk), .ref l5, .ref l6, .int (nI m1), .ref l7, .ref l8, .ref l9, .int by0, .int fd])), (l1, .inl (cI, 2400, .inl f)), (l2, .inl (cI, 2400, .inl g)), (l3, .inl (cI, 2400, .inl kf)), (l4, .inl (cI, 2400, .inl kg)), (l5, .inl (cI, 4800, .inl e1)), (l6, .inl (cI, 4800, .inl d1)), (l7, .inl (cZ, 1120, .inl mt3)), (l8, .inl (cI, 4, .inl fr)), (l9, .inl (cI, 4, .inl tt))] ∧ va_S A s.heap H locs ∧ lv_has ls 2 [(0, .ref mo), (1, .int (nI k))]) ?_ 0 m2 e2 d2 ⟨⟨Nat.zero_le _, by omega, hE2.iff (fun c => ⟨Or.inl, fun h => h.elim id (fun q => absurd q.1 (Nat.not_lt_zero c))⟩)⟩, hP, hD, hS, lv_sub hl [1, 0] rfl⟩
        intro k m1 e1 d1 H locs ls hI148 ih148
        obtain ⟨⟨h1, h2, h3⟩, hP, hD, hS, hl⟩ := hI148
        refine lv_iload_n hx hb dM_fold_148 rfl (lv_at hl 1 rfl) ?_
        refine lv_sipush (v := nI 1120) hx hb dM_fold_149 (by decide) ?_
        refine lv_icmp_ge (tgt := 179) hx hb dM_fold_152 (by decide) (fun c_152 => ?_) (fun c_152 => ?_)
        · rw [nI_leI (by omega) (by omega)] at c_152
          refine lv_aload_n hx hb dM_fold_179 rfl (lv_at hl 0 rfl) ?_
          refine lv_aload_n hx hb dM_fold_180 rfl (lv_at hl 0 rfl) ?_
          refine va_get (D := (dC, dI)) (ci := 2) (v := .ref l7) (C := RX2) (T := TM) (N := 15) hx hb hts (wsM00_in _) hown hK hP 0 rfl rfl 10 (by decide) (hts (.fieldLink RX2 28 "CharRowsModel" "met" "[Z") (by decide +kernel)) (fun _ h9 => h9) rfl dM_fold_181 ?_
          refine lv_bipush (v := nI 107) hx hb dM_fold_184 (by decide) ?_
          refine va_zald hx hb hK hP 7 1 rfl rfl (vp_in_nI (by omega) (by omega)) dM_fold_186 ?_
          refine cr_top (y := mt3 107) (by rw [nI_clamp (by omega)]) ?_
          rcases hm3 107 (by omega) with ⟨hp1, kp1⟩ | ⟨hp1, kp1⟩
          · rw [hp1]
            refine lv_if_eq (tgt := 196) hx hb dM_fold_187 (by decide) (fun c_187 => ?_) (fun c_187 => ?_)
            · exact absurd c_187 (by decide)
            · refine lv_sipush (v := nI 8490) hx hb dM_fold_190 (by decide) ?_
              refine lv_goto (tgt := 199) hx hb dM_fold_193 (by decide) ?_
              refine lv_sipush (v := nI 8490) hx hb dM_fold_199 (by decide) ?_
              have hPc := hP.sub (ws' := [(mo, .inr (2, [.int (nI 0), .ref l1, .ref l2, .int (nI n), .ref l3, .ref l4, .int (nI nk), .ref l5, .ref l6, .int (nI m1), .ref l7, .ref l8, .ref l9, .int by0, .int fd])), (l1, .inl (cI, 2400, .inl f)), (l2, .inl (cI, 2400, .inl g)), (l3, .inl (cI, 2400, .inl kf)), (l4, .inl (cI, 2400, .inl kg)), (l5, .inl (cI, 4800, .inl e1)), (l6, .inl (cI, 4800, .inl d1)), (l7, .inl (cZ, 1120, .inl mt3)), (l8, .inl (cI, 4, .inl fr)), (l9, .inl (cI, 4, .inl tt))]) [0, 1, 2, 3, 4, 5, 6, 7, 8, 9] rfl
              have hDc := hD.sub (ws' := [(mo, .inr (2, [.int (nI 0), .ref l1, .ref l2, .int (nI n), .ref l3, .ref l4, .int (nI nk), .ref l5, .ref l6, .int (nI m1), .ref l7, .ref l8, .ref l9, .int by0, .int fd])), (l1, .inl (cI, 2400, .inl f)), (l2, .inl (cI, 2400, .inl g)), (l3, .inl (cI, 2400, .inl kf)), (l4, .inl (cI, 2400, .inl kg)), (l5, .inl (cI, 4800, .inl e1)), (l6, .inl (cI, 4800, .inl d1)), (l7, .inl (cZ, 1120, .inl mt3)), (l8, .inl (cI, 4, .inl fr)), (l9, .inl (cI, 4, .inl tt))]) [0, 1, 2, 3, 4, 5, 6, 7, 8, 9] (by decide) rfl
              have hFc := va_free (wc := [(mo, .inr (2, [.int (nI 0), .ref l1, .ref l2, .int (nI n), .ref l3, .ref l4, .int (nI nk), .ref l5, .ref l6, .int (nI m1), .ref l7, .ref l8, .ref l9, .int by0, .int fd])), (l1, .inl (cI, 2400, .inl f)), (l2, .inl (cI, 2400, .inl g)), (l3, .inl (cI, 2400, .inl kf)), (l4, .inl (cI, 2400, .inl kg)), (l5, .inl (cI, 4800, .inl e1)), (l6, .inl (cI, 4800, .inl d1)), (l7, .inl (cZ, 1120, .inl mt3)), (l8, .inl (cI, 4, .inl fr)), (l9, .inl (cI, 4, .inl tt))]) hD hS hA [0, 1, 2, 3, 4, 5, 6, 7, 8, 9] rfl
              refine va_callv (va_runV (As := [.int (nI 8490), .int (nI 8490)]) (rest := []) ⟨hx, hb, hml, hown, hts⟩ (m_puts l dC dI _ mo l1 l2 l3 l4 l5 l6 l7 l8 l9 cI cZ (nI 0) by0 fd n nk m1 f g kf kg e1 d1 mt3 fr tt _ h3 (by omega) (nI 8490) (nI 8490) (by first | (rw [nI_toInt (by omega), nI_toInt (by omega)]; omega) | (rw [nI_toInt (by omega)]; omega))) (cwV 2 hts gM_fold_M_puts rfl rfl rfl (by decide +kernel) ⟨Nat.le_of_ble_eq_true rfl, Nat.le_of_ble_eq_true rfl⟩) (cr_preV hPc hK hDc (ci := 2) (q0 := 0) rfl rfl) rfl rfl hl.1 rfl (lv_room (Nat.le_of_ble_eq_true rfl)) dM_fold_202 ⟨Nat.zero_le _, Nat.zero_le _⟩) hS (fun q _ h => hFc q h) hFc (fun u_202 t_202 H_202 locs ht_202 hvm_202 hw_202 hB_202 hz_202 hk_202 hS => ?_)
              obtain ⟨m4, e4, d4, rfl, hm4, hE4⟩ := hw_202
              obtain ⟨hP, hD⟩ := cr_back (wr := []) (w1 := [(mo, .inr (2, [.int (nI 0), .ref l1, .ref l2, .int (nI n), .ref l3, .ref l4, .int (nI nk), .ref l5, .ref l6, .int (nI m4), .ref l7, .ref l8, .ref l9, .int by0, .int fd])), (l1, .inl (cI, 2400, .inl f)), (l2, .inl (cI, 2400, .inl g)), (l3, .inl (cI, 2400, .inl kf)), (l4, .inl (cI, 2400, .inl kg)), (l5, .inl (cI, 4800, .inl e4)), (l6, .inl (cI, 4800, .inl d4)), (l7, .inl (cZ, 1120, .inl mt3)), (l8, .inl (cI, 4, .inl fr)), (l9, .inl (cI, 4, .inl tt))]) hP hD [0, 1, 2, 3, 4, 5, 6, 7, 8, 9] [] rfl rfl (by decide) (by decide) hk_202 hFc hB_202 ht_202
              clear hPc hDc hFc
              generalize H_202 = H at hP hS ⊢
              have hP := hP.sub (ws' := [(mo, .inr (2, [.int (nI 0), .ref l1, .ref l2, .int (nI n), .ref l3, .ref l4, .int (nI nk), .ref l5, .ref l6, .int (nI m4), .ref l7, .ref l8, .ref l9, .int by0, .int fd])), (l1, .inl (cI, 2400, .inl f)), (l2, .inl (cI, 2400, .inl g)), (l3, .inl (cI, 2400, .inl kf)), (l4, .inl (cI, 2400, .inl kg)), (l5, .inl (cI, 4800, .inl e4)), (l6, .inl (cI, 4800, .inl d4)), (l7, .inl (cZ, 1120, .inl mt3)), (l8, .inl (cI, 4, .inl fr)), (l9, .inl (cI, 4, .inl tt))]) [0, 1, 2, 3, 4, 5, 6, 7, 8, 9] rfl
              have hD := hD.sub (ws' := [(mo, .inr (2, [.int (nI 0), .ref l1, .ref l2, .int (nI n), .ref l3, .ref l4, .int (nI nk), .ref l5, .ref l6, .int (nI m4), .ref l7, .ref l8, .ref l9, .int by0, .int fd])), (l1, .inl (cI, 2400, .inl f)), (l2, .inl (cI, 2400, .inl g)), (l3, .inl (cI, 2400, .inl kf)), (l4, .inl (cI, 2400, .inl kg)), (l5, .inl (cI, 4800, .inl e4)), (l6, .inl (cI, 4800, .inl d4)), (l7, .inl (cZ, 1120, .inl mt3)), (l8, .inl (cI, 4, .inl fr)), (l9, .inl (cI, 4, .inl tt))]) [0, 1, 2, 3, 4, 5, 6, 7, 8, 9] (by decide) rfl
              refine lv_aload_n hx hb dM_fold_205 rfl (lv_at hl 0 rfl) ?_
              refine lv_aload_n hx hb dM_fold_206 rfl (lv_at hl 0 rfl) ?_
              refine va_get (D := (dC, dI)) (ci := 2) (v := .ref l7) (C := RX2) (T := TM) (N := 15) hx hb hts (wsM00_in _) hown hK hP 0 rfl rfl 10 (by decide) (hts (.fieldLink RX2 28 "CharRowsModel" "met" "[Z") (by decide +kernel)) (fun _ h9 => h9) rfl dM_fold_207 ?_
              refine lv_sipush (v := nI 229) hx hb dM_fold_210 (by decide) ?_
              refine va_zald hx hb hK hP 7 1 rfl rfl (vp_in_nI (by omega) (by omega)) dM_fold_213 ?_
              refine cr_top (y := mt3 229) (by rw [nI_clamp (by omega)]) ?_
              rcases hm3 229 (by omega) with ⟨hp2, kp2⟩ | ⟨hp2, kp2⟩
              · rw [hp2]
                refine lv_if_eq (tgt := 223) hx hb dM_fold_214 (by decide) (fun c_214 => ?_) (fun c_214 => ?_)
                · exact absurd c_214 (by decide)
                · refine lv_sipush (v := nI 8491) hx hb dM_fold_217 (by decide) ?_
                  refine lv_goto (tgt := 226) hx hb dM_fold_220 (by decide) ?_
                  refine lv_sipush (v := nI 8491) hx hb dM_fold_226 (by decide) ?_
                  have hPc := hP.sub (ws' := [(mo, .inr (2, [.int (nI 0), .ref l1, .ref l2, .int (nI n), .ref l3, .ref l4, .int (nI nk), .ref l5, .ref l6, .int (nI m4), .ref l7, .ref l8, .ref l9, .int by0, .int fd])), (l1, .inl (cI, 2400, .inl f)), (l2, .inl (cI, 2400, .inl g)), (l3, .inl (cI, 2400, .inl kf)), (l4, .inl (cI, 2400, .inl kg)), (l5, .inl (cI, 4800, .inl e4)), (l6, .inl (cI, 4800, .inl d4)), (l7, .inl (cZ, 1120, .inl mt3)), (l8, .inl (cI, 4, .inl fr)), (l9, .inl (cI, 4, .inl tt))]) [0, 1, 2, 3, 4, 5, 6, 7, 8, 9] rfl
                  have hDc := hD.sub (ws' := [(mo, .inr (2, [.int (nI 0), .ref l1, .ref l2, .int (nI n), .ref l3, .ref l4, .int (nI nk), .ref l5, .ref l6, .int (nI m4), .ref l7, .ref l8, .ref l9, .int by0, .int fd])), (l1, .inl (cI, 2400, .inl f)), (l2, .inl (cI, 2400, .inl g)), (l3, .inl (cI, 2400, .inl kf)), (l4, .inl (cI, 2400, .inl kg)), (l5, .inl (cI, 4800, .inl e4)), (l6, .inl (cI, 4800, .inl d4)), (l7, .inl (cZ, 1120, .inl mt3)), (l8, .inl (cI, 4, .inl fr)), (l9, .inl (cI, 4, .inl tt))]) [0, 1, 2, 3, 4, 5, 6, 7, 8, 9] (by decide) rfl
                  have hFc := va_free (wc := [(mo, .inr (2, [.int (nI 0), .ref l1, .ref l2, .int (nI n), .ref l3, .ref l4, .int (nI nk), .ref l5, .ref l6, .int (nI m4), .ref l7, .ref l8, .ref l9, .int by0, .int fd])), (l1, .inl (cI, 2400, .inl f)), (l2, .inl (cI, 2400, .inl g)), (l3, .inl (cI, 2400, .inl kf)), (l4, .inl (cI, 2400, .inl kg)), (l5, .inl (cI, 4800, .inl e4)), (l6, .inl (cI, 4800, .inl d4)), (l7, .inl (cZ, 1120, .inl mt3)), (l8, .inl (cI, 4, .inl fr)), (l9, .inl (cI, 4, .inl tt))]) hD hS hA [0, 1, 2, 3, 4, 5, 6, 7, 8, 9] rfl
                  refine va_callv (va_runV (As := [.int (nI 8491), .int (nI 8491)]) (rest := []) ⟨hx, hb, hml, hown, hts⟩ (m_puts l dC dI _ mo l1 l2 l3 l4 l5 l6 l7 l8 l9 cI cZ (nI 0) by0 fd n nk m4 f g kf kg e4 d4 mt3 fr tt _ hE4 (by omega) (nI 8491) (nI 8491) (by first | (rw [nI_toInt (by omega), nI_toInt (by omega)]; omega) | (rw [nI_toInt (by omega)]; omega))) (cwV 2 hts gM_fold_M_puts rfl rfl rfl (by decide +kernel) ⟨Nat.le_of_ble_eq_true rfl, Nat.le_of_ble_eq_true rfl⟩) (cr_preV hPc hK hDc (ci := 2) (q0 := 0) rfl rfl) rfl rfl hl.1 rfl (lv_room (Nat.le_of_ble_eq_true rfl)) dM_fold_229 ⟨Nat.zero_le _, Nat.zero_le _⟩) hS (fun q _ h => hFc q h) hFc (fun u_229 t_229 H_229 locs ht_229 hvm_229 hw_229 hB_229 hz_229 hk_229 hS => ?_)
                  obtain ⟨m5, e6, d5, rfl, hm5, hE5⟩ := hw_229
                  obtain ⟨hP, hD⟩ := cr_back (wr := []) (w1 := [(mo, .inr (2, [.int (nI 0), .ref l1, .ref l2, .int (nI n), .ref l3, .ref l4, .int (nI nk), .ref l5, .ref l6, .int (nI m5), .ref l7, .ref l8, .ref l9, .int by0, .int fd])), (l1, .inl (cI, 2400, .inl f)), (l2, .inl (cI, 2400, .inl g)), (l3, .inl (cI, 2400, .inl kf)), (l4, .inl (cI, 2400, .inl kg)), (l5, .inl (cI, 4800, .inl e6)), (l6, .inl (cI, 4800, .inl d5)), (l7, .inl (cZ, 1120, .inl mt3)), (l8, .inl (cI, 4, .inl fr)), (l9, .inl (cI, 4, .inl tt))]) hP hD [0, 1, 2, 3, 4, 5, 6, 7, 8, 9] [] rfl rfl (by decide) (by decide) hk_229 hFc hB_229 ht_229
                  clear hPc hDc hFc
                  generalize H_229 = H at hP hS ⊢
                  have hP := hP.sub (ws' := [(mo, .inr (2, [.int (nI 0), .ref l1, .ref l2, .int (nI n), .ref l3, .ref l4, .int (nI nk), .ref l5, .ref l6, .int (nI m5), .ref l7, .ref l8, .ref l9, .int by0, .int fd])), (l1, .inl (cI, 2400, .inl f)), (l2, .inl (cI, 2400, .inl g)), (l3, .inl (cI, 2400, .inl kf)), (l4, .inl (cI, 2400, .inl kg)), (l5, .inl (cI, 4800, .inl e6)), (l6, .inl (cI, 4800, .inl d5)), (l7, .inl (cZ, 1120, .inl mt3)), (l8, .inl (cI, 4, .inl fr)), (l9, .inl (cI, 4, .inl tt))]) [0, 1, 2, 3, 4, 5, 6, 7, 8, 9] rfl
                  have hD := hD.sub (ws' := [(mo, .inr (2, [.int (nI 0), .ref l1, .ref l2, .int (nI n), .ref l3, .ref l4, .int (nI nk), .ref l5, .ref l6, .int (nI m5), .ref l7, .ref l8, .ref l9, .int by0, .int fd])), (l1, .inl (cI, 2400, .inl f)), (l2, .inl (cI, 2400, .inl g)), (l3, .inl (cI, 2400, .inl kf)), (l4, .inl (cI, 2400, .inl kg)), (l5, .inl (cI, 4800, .inl e6)), (l6, .inl (cI, 4800, .inl d5)), (l7, .inl (cZ, 1120, .inl mt3)), (l8, .inl (cI, 4, .inl fr)), (l9, .inl (cI, 4, .inl tt))]) [0, 1, 2, 3, 4, 5, 6, 7, 8, 9] (by decide) rfl
                  refine lv_aload_n hx hb dM_fold_232 rfl (lv_at hl 0 rfl) ?_
                  have hPc := hP.sub (ws' := [(mo, .inr (2, [.int (nI 0), .ref l1, .ref l2, .int (nI n), .ref l3, .ref l4, .int (nI nk), .ref l5, .ref l6, .int (nI m5), .ref l7, .ref l8, .ref l9, .int by0, .int fd])), (l1, .inl (cI, 2400, .inl f)), (l2, .inl (cI, 2400, .inl g)), (l3, .inl (cI, 2400, .inl kf)), (l4, .inl (cI, 2400, .inl kg)), (l5, .inl (cI, 4800, .inl e6)), (l6, .inl (cI, 4800, .inl d5)), (l7, .inl (cZ, 1120, .inl mt3)), (l8, .inl (cI, 4, .inl fr)), (l9, .inl (cI, 4, .inl tt))]) [0, 1, 2, 3, 4, 5, 6, 7, 8, 9] rfl
                  have hDc := hD.sub (ws' := [(mo, .inr (2, [.int (nI 0), .ref l1, .ref l2, .int (nI n), .ref l3, .ref l4, .int (nI nk), .ref l5, .ref l6, .int (nI m5), .ref l7, .ref l8, .ref l9, .int by0, .int fd])), (l1, .inl (cI, 2400, .inl f)), (l2, .inl (cI, 2400, .inl g)), (l3, .inl (cI, 2400, .inl kf)), (l4, .inl (cI, 2400, .inl kg)), (l5, .inl (cI, 4800, .inl e6)), (l6, .inl (cI, 4800, .inl d5)), (l7, .inl (cZ, 1120, .inl mt3)), (l8, .inl (cI, 4, .inl fr)), (l9, .inl (cI, 4, .inl tt))]) [0, 1, 2, 3, 4, 5, 6, 7, 8, 9] (by decide) rfl
                  have hFc := va_free (wc := [(mo, .inr (2, [.int (nI 0), .ref l1, .ref l2, .int (nI n), .ref l3, .ref l4, .int (nI nk), .ref l5, .ref l6, .int (nI m5), .ref l7, .ref l8, .ref l9, .int by0, .int fd])), (l1, .inl (cI, 2400, .inl f)), (l2, .inl (cI, 2400, .inl g)), (l3, .inl (cI, 2400, .inl kf)), (l4, .inl (cI, 2400, .inl kg)), (l5, .inl (cI, 4800, .inl e6)), (l6, .inl (cI, 4800, .inl d5)), (l7, .inl (cZ, 1120, .inl mt3)), (l8, .inl (cI, 4, .inl fr)), (l9, .inl (cI, 4, .inl tt))]) hD hS hA [0, 1, 2, 3, 4, 5, 6, 7, 8, 9] rfl
                  refine va_calli (va_runV (As := []) (rest := []) ⟨hx, hb, hml, hown, hts⟩ (m_gathers l dC dI _ mo l1 l2 l3 l4 l5 l6 l7 l8 l9 cI cZ (nI 0) by0 fd n nk m5 f g kf kg e6 d5 mt3 fr tt _ hE5 (by omega)) (cwV 0 hts gM_fold_M_gathers rfl rfl rfl (by decide +kernel) ⟨Nat.le_of_ble_eq_true rfl, Nat.le_of_ble_eq_true rfl⟩) (cr_preV hPc hK hDc (ci := 2) (q0 := 0) rfl rfl) rfl rfl hl.1 rfl (lv_room (Nat.le_of_ble_eq_true rfl)) dM_fold_233 ⟨Nat.zero_le _, Nat.zero_le _⟩) hS (fun q _ h => hFc q h) hFc (fun r_233 u_233 t_233 H_233 locs ht_233 hvm_233 hw_233 hB_233 hz_233 hk_233 hS => ?_)
                  obtain ⟨n5, f5, g5, e5, rfl, rfl, hn5, hSet5⟩ := hw_233
                  obtain ⟨hP, hD⟩ := cr_back (wr := []) (w1 := [(mo, .inr (2, [.int (nI 0), .ref l1, .ref l2, .int (nI n5), .ref l3, .ref l4, .int (nI nk), .ref l5, .ref l6, .int (nI 0), .ref l7, .ref l8, .ref l9, .int by0, .int fd])), (l1, .inl (cI, 2400, .inl f5)), (l2, .inl (cI, 2400, .inl g5)), (l3, .inl (cI, 2400, .inl kf)), (l4, .inl (cI, 2400, .inl kg)), (l5, .inl (cI, 4800, .inl e5)), (l6, .inl (cI, 4800, .inl d5)), (l7, .inl (cZ, 1120, .inl mt3)), (l8, .inl (cI, 4, .inl fr)), (l9, .inl (cI, 4, .inl tt))]) hP hD [0, 1, 2, 3, 4, 5, 6, 7, 8, 9] [] rfl rfl (by decide) (by decide) hk_233 hFc hB_233 ht_233
                  clear hPc hDc hFc
                  generalize H_233 = H at hP hS ⊢
                  have hP := hP.sub (ws' := [(mo, .inr (2, [.int (nI 0), .ref l1, .ref l2, .int (nI n5), .ref l3, .ref l4, .int (nI nk), .ref l5, .ref l6, .int (nI 0), .ref l7, .ref l8, .ref l9, .int by0, .int fd])), (l1, .inl (cI, 2400, .inl f5)), (l2, .inl (cI, 2400, .inl g5)), (l3, .inl (cI, 2400, .inl kf)), (l4, .inl (cI, 2400, .inl kg)), (l5, .inl (cI, 4800, .inl e5)), (l6, .inl (cI, 4800, .inl d5)), (l7, .inl (cZ, 1120, .inl mt3)), (l8, .inl (cI, 4, .inl fr)), (l9, .inl (cI, 4, .inl tt))]) [0, 1, 2, 3, 4, 5, 6, 7, 8, 9] rfl
                  have hD := hD.sub (ws' := [(mo, .inr (2, [.int (nI 0), .ref l1, .ref l2, .int (nI n5), .ref l3, .ref l4, .int (nI nk), .ref l5, .ref l6, .int (nI 0), .ref l7, .ref l8, .ref l9, .int by0, .int fd])), (l1, .inl (cI, 2400, .inl f5)), (l2, .inl (cI, 2400, .inl g5)), (l3, .inl (cI, 2400, .inl kf)), (l4, .inl (cI, 2400, .inl kg)), (l5, .inl (cI, 4800, .inl e5)), (l6, .inl (cI, 4800, .inl d5)), (l7, .inl (cZ, 1120, .inl mt3)), (l8, .inl (cI, 4, .inl fr)), (l9, .inl (cI, 4, .inl tt))]) [0, 1, 2, 3, 4, 5, 6, 7, 8, 9] (by decide) rfl
                  exact W.iret (v := nI n5) hx hb hr (fun t9 ht9 hW9 => ⟨⟨nI n5, [(mo, .inr (2, [.int (nI 0), .ref l1, .ref l2, .int (nI n5), .ref l3, .ref l4, .int (nI nk), .ref l5, .ref l6, .int (nI 0), .ref l7, .ref l8, .ref l9, .int by0, .int fd])), (l1, .inl (cI, 2400, .inl f5)), (l2, .inl (cI, 2400, .inl g5)), (l3, .inl (cI, 2400, .inl kf)), (l4, .inl (cI, 2400, .inl kg)), (l5, .inl (cI, 4800, .inl e5)), (l6, .inl (cI, 4800, .inl d5)), (l7, .inl (cZ, 1120, .inl mt3)), (l8, .inl (cI, 4, .inl fr)), (l9, .inl (cI, 4, .inl tt))], rfl, ⟨n5, f5, g5, e5, d5, mt3, rfl, rfl, by omega, hSet5.iff (fun c => by rw [show k = 1120 from (by omega), nI_toInt (show 8490 < 2 ^ 31 by omega), nI_toInt (show 8491 < 2 ^ 31 by omega)]; exact cr_fold_end11 kp1 kp2 c)⟩, by rw [ht9]; exact hP, va_K.moved hW9.alike hK, hD⟩, hS.F ht9⟩) hS.2.2 dM_fold_236
              · rw [hp2]
                refine lv_if_eq (tgt := 223) hx hb dM_fold_214 (by decide) (fun c_214 => ?_) (fun c_214 => ?_)
                · refine lv_sipush (v := nI 8492) hx hb dM_fold_223 (by decide) ?_
                  refine lv_sipush (v := nI 8491) hx hb dM_fold_226 (by decide) ?_
                  have hPc := hP.sub (ws' := [(mo, .inr (2, [.int (nI 0), .ref l1, .ref l2, .int (nI n), .ref l3, .ref l4, .int (nI nk), .ref l5, .ref l6, .int (nI m4), .ref l7, .ref l8, .ref l9, .int by0, .int fd])), (l1, .inl (cI, 2400, .inl f)), (l2, .inl (cI, 2400, .inl g)), (l3, .inl (cI, 2400, .inl kf)), (l4, .inl (cI, 2400, .inl kg)), (l5, .inl (cI, 4800, .inl e4)), (l6, .inl (cI, 4800, .inl d4)), (l7, .inl (cZ, 1120, .inl mt3)), (l8, .inl (cI, 4, .inl fr)), (l9, .inl (cI, 4, .inl tt))]) [0, 1, 2, 3, 4, 5, 6, 7, 8, 9] rfl
                  have hDc := hD.sub (ws' := [(mo, .inr (2, [.int (nI 0), .ref l1, .ref l2, .int (nI n), .ref l3, .ref l4, .int (nI nk), .ref l5, .ref l6, .int (nI m4), .ref l7, .ref l8, .ref l9, .int by0, .int fd])), (l1, .inl (cI, 2400, .inl f)), (l2, .inl (cI, 2400, .inl g)), (l3, .inl (cI, 2400, .inl kf)), (l4, .inl (cI, 2400, .inl kg)), (l5, .inl (cI, 4800, .inl e4)), (l6, .inl (cI, 4800, .inl d4)), (l7, .inl (cZ, 1120, .inl mt3)), (l8, .inl (cI, 4, .inl fr)), (l9, .inl (cI, 4, .inl tt))]) [0, 1, 2, 3, 4, 5, 6, 7, 8, 9] (by decide) rfl
                  have hFc := va_free (wc := [(mo, .inr (2, [.int (nI 0), .ref l1, .ref l2, .int (nI n), .ref l3, .ref l4, .int (nI nk), .ref l5, .ref l6, .int (nI m4), .ref l7, .ref l8, .ref l9, .int by0, .int fd])), (l1, .inl (cI, 2400, .inl f)), (l2, .inl (cI, 2400, .inl g)), (l3, .inl (cI, 2400, .inl kf)), (l4, .inl (cI, 2400, .inl kg)), (l5, .inl (cI, 4800, .inl e4)), (l6, .inl (cI, 4800, .inl d4)), (l7, .inl (cZ, 1120, .inl mt3)), (l8, .inl (cI, 4, .inl fr)), (l9, .inl (cI, 4, .inl tt))]) hD hS hA [0, 1, 2, 3, 4, 5, 6, 7, 8, 9] rfl
                  refine va_callv (va_runV (As := [.int (nI 8492), .int (nI 8491)]) (rest := []) ⟨hx, hb, hml, hown, hts⟩ (m_puts l dC dI _ mo l1 l2 l3 l4 l5 l6 l7 l8 l9 cI cZ (nI 0) by0 fd n nk m4 f g kf kg e4 d4 mt3 fr tt _ hE4 (by omega) (nI 8492) (nI 8491) (by first | (rw [nI_toInt (by omega), nI_toInt (by omega)]; omega) | (rw [nI_toInt (by omega)]; omega))) (cwV 2 hts gM_fold_M_puts rfl rfl rfl (by decide +kernel) ⟨Nat.le_of_ble_eq_true rfl, Nat.le_of_ble_eq_true rfl⟩) (cr_preV hPc hK hDc (ci := 2) (q0 := 0) rfl rfl) rfl rfl hl.1 rfl (lv_room (Nat.le_of_ble_eq_true rfl)) dM_fold_229 ⟨Nat.zero_le _, Nat.zero_le _⟩) hS (fun q _ h => hFc q h) hFc (fun u_229 t_229 H_229 locs ht_229 hvm_229 hw_229 hB_229 hz_229 hk_229 hS => ?_)
                  obtain ⟨m5, e6, d5, rfl, hm5, hE5⟩ := hw_229
                  obtain ⟨hP, hD⟩ := cr_back (wr := []) (w1 := [(mo, .inr (2, [.int (nI 0), .ref l1, .ref l2, .int (nI n), .ref l3, .ref l4, .int (nI nk), .ref l5, .ref l6, .int (nI m5), .ref l7, .ref l8, .ref l9, .int by0, .int fd])), (l1, .inl (cI, 2400, .inl f)), (l2, .inl (cI, 2400, .inl g)), (l3, .inl (cI, 2400, .inl kf)), (l4, .inl (cI, 2400, .inl kg)), (l5, .inl (cI, 4800, .inl e6)), (l6, .inl (cI, 4800, .inl d5)), (l7, .inl (cZ, 1120, .inl mt3)), (l8, .inl (cI, 4, .inl fr)), (l9, .inl (cI, 4, .inl tt))]) hP hD [0, 1, 2, 3, 4, 5, 6, 7, 8, 9] [] rfl rfl (by decide) (by decide) hk_229 hFc hB_229 ht_229
                  clear hPc hDc hFc
                  generalize H_229 = H at hP hS ⊢
                  have hP := hP.sub (ws' := [(mo, .inr (2, [.int (nI 0), .ref l1, .ref l2, .int (nI n), .ref l3, .ref l4, .int (nI nk), .ref l5, .ref l6, .int (nI m5), .ref l7, .ref l8, .ref l9, .int by0, .int fd])), (l1, .inl (cI, 2400, .inl f)), (l2, .inl (cI, 2400, .inl g)), (l3, .inl (cI, 2400, .inl kf)), (l4, .inl (cI, 2400, .inl kg)), (l5, .inl (cI, 4800, .inl e6)), (l6, .inl (cI, 4800, .inl d5)), (l7, .inl (cZ, 1120, .inl mt3)), (l8, .inl (cI, 4, .inl fr)), (l9, .inl (cI, 4, .inl tt))]) [0, 1, 2, 3, 4, 5, 6, 7, 8, 9] rfl
                  have hD := hD.sub (ws' := [(mo, .inr (2, [.int (nI 0), .ref l1, .ref l2, .int (nI n), .ref l3, .ref l4, .int (nI nk), .ref l5, .ref l6, .int (nI m5), .ref l7, .ref l8, .ref l9, .int by0, .int fd])), (l1, .inl (cI, 2400, .inl f)), (l2, .inl (cI, 2400, .inl g)), (l3, .inl (cI, 2400, .inl kf)), (l4, .inl (cI, 2400, .inl kg)), (l5, .inl (cI, 4800, .inl e6)), (l6, .inl (cI, 4800, .inl d5)), (l7, .inl (cZ, 1120, .inl mt3)), (l8, .inl (cI, 4, .inl fr)), (l9, .inl (cI, 4, .inl tt))]) [0, 1, 2, 3, 4, 5, 6, 7, 8, 9] (by decide) rfl
                  refine lv_aload_n hx hb dM_fold_232 rfl (lv_at hl 0 rfl) ?_
                  have hPc := hP.sub (ws' := [(mo, .inr (2, [.int (nI 0), .ref l1, .ref l2, .int (nI n), .ref l3, .ref l4, .int (nI nk), .ref l5, .ref l6, .int (nI m5), .ref l7, .ref l8, .ref l9, .int by0, .int fd])), (l1, .inl (cI, 2400, .inl f)), (l2, .inl (cI, 2400, .inl g)), (l3, .inl (cI, 2400, .inl kf)), (l4, .inl (cI, 2400, .inl kg)), (l5, .inl (cI, 4800, .inl e6)), (l6, .inl (cI, 4800, .inl d5)), (l7, .inl (cZ, 1120, .inl mt3)), (l8, .inl (cI, 4, .inl fr)), (l9, .inl (cI, 4, .inl tt))]) [0, 1, 2, 3, 4, 5, 6, 7, 8, 9] rfl
                  have hDc := hD.sub (ws' := [(mo, .inr (2, [.int (nI 0), .ref l1, .ref l2, .int (nI n), .ref l3, .ref l4, .int (nI nk), .ref l5, .ref l6, .int (nI m5), .ref l7, .ref l8, .ref l9, .int by0, .int fd])), (l1, .inl (cI, 2400, .inl f)), (l2, .inl (cI, 2400, .inl g)), (l3, .inl (cI, 2400, .inl kf)), (l4, .inl (cI, 2400, .inl kg)), (l5, .inl (cI, 4800, .inl e6)), (l6, .inl (cI, 4800, .inl d5)), (l7, .inl (cZ, 1120, .inl mt3)), (l8, .inl (cI, 4, .inl fr)), (l9, .inl (cI, 4, .inl tt))]) [0, 1, 2, 3, 4, 5, 6, 7, 8, 9] (by decide) rfl
                  have hFc := va_free (wc := [(mo, .inr (2, [.int (nI 0), .ref l1, .ref l2, .int (nI n), .ref l3, .ref l4, .int (nI nk), .ref l5, .ref l6, .int (nI m5), .ref l7, .ref l8, .ref l9, .int by0, .int fd])), (l1, .inl (cI, 2400, .inl f)), (l2, .inl (cI, 2400, .inl g)), (l3, .inl (cI, 2400, .inl kf)), (l4, .inl (cI, 2400, .inl kg)), (l5, .inl (cI, 4800, .inl e6)), (l6, .inl (cI, 4800, .inl d5)), (l7, .inl (cZ, 1120, .inl mt3)), (l8, .inl (cI, 4, .inl fr)), (l9, .inl (cI, 4, .inl tt))]) hD hS hA [0, 1, 2, 3, 4, 5, 6, 7, 8, 9] rfl
                  refine va_calli (va_runV (As := []) (rest := []) ⟨hx, hb, hml, hown, hts⟩ (m_gathers l dC dI _ mo l1 l2 l3 l4 l5 l6 l7 l8 l9 cI cZ (nI 0) by0 fd n nk m5 f g kf kg e6 d5 mt3 fr tt _ hE5 (by omega)) (cwV 0 hts gM_fold_M_gathers rfl rfl rfl (by decide +kernel) ⟨Nat.le_of_ble_eq_true rfl, Nat.le_of_ble_eq_true rfl⟩) (cr_preV hPc hK hDc (ci := 2) (q0 := 0) rfl rfl) rfl rfl hl.1 rfl (lv_room (Nat.le_of_ble_eq_true rfl)) dM_fold_233 ⟨Nat.zero_le _, Nat.zero_le _⟩) hS (fun q _ h => hFc q h) hFc (fun r_233 u_233 t_233 H_233 locs ht_233 hvm_233 hw_233 hB_233 hz_233 hk_233 hS => ?_)
                  obtain ⟨n5, f5, g5, e5, rfl, rfl, hn5, hSet5⟩ := hw_233
                  obtain ⟨hP, hD⟩ := cr_back (wr := []) (w1 := [(mo, .inr (2, [.int (nI 0), .ref l1, .ref l2, .int (nI n5), .ref l3, .ref l4, .int (nI nk), .ref l5, .ref l6, .int (nI 0), .ref l7, .ref l8, .ref l9, .int by0, .int fd])), (l1, .inl (cI, 2400, .inl f5)), (l2, .inl (cI, 2400, .inl g5)), (l3, .inl (cI, 2400, .inl kf)), (l4, .inl (cI, 2400, .inl kg)), (l5, .inl (cI, 4800, .inl e5)), (l6, .inl (cI, 4800, .inl d5)), (l7, .inl (cZ, 1120, .inl mt3)), (l8, .inl (cI, 4, .inl fr)), (l9, .inl (cI, 4, .inl tt))]) hP hD [0, 1, 2, 3, 4, 5, 6, 7, 8, 9] [] rfl rfl (by decide) (by decide) hk_233 hFc hB_233 ht_233
                  clear hPc hDc hFc
                  generalize H_233 = H at hP hS ⊢
                  have hP := hP.sub (ws' := [(mo, .inr (2, [.int (nI 0), .ref l1, .ref l2, .int (nI n5), .ref l3, .ref l4, .int (nI nk), .ref l5, .ref l6, .int (nI 0), .ref l7, .ref l8, .ref l9, .int by0, .int fd])), (l1, .inl (cI, 2400, .inl f5)), (l2, .inl (cI, 2400, .inl g5)), (l3, .inl (cI, 2400, .inl kf)), (l4, .inl (cI, 2400, .inl kg)), (l5, .inl (cI, 4800, .inl e5)), (l6, .inl (cI, 4800, .inl d5)), (l7, .inl (cZ, 1120, .inl mt3)), (l8, .inl (cI, 4, .inl fr)), (l9, .inl (cI, 4, .inl tt))]) [0, 1, 2, 3, 4, 5, 6, 7, 8, 9] rfl
                  have hD := hD.sub (ws' := [(mo, .inr (2, [.int (nI 0), .ref l1, .ref l2, .int (nI n5), .ref l3, .ref l4, .int (nI nk), .ref l5, .ref l6, .int (nI 0), .ref l7, .ref l8, .ref l9, .int by0, .int fd])), (l1, .inl (cI, 2400, .inl f5)), (l2, .inl (cI, 2400, .inl g5)), (l3, .inl (cI, 2400, .inl kf)), (l4, .inl (cI, 2400, .inl kg)), (l5, .inl (cI, 4800, .inl e5)), (l6, .inl (cI, 4800, .inl d5)), (l7, .inl (cZ, 1120, .inl mt3)), (l8, .inl (cI, 4, .inl fr)), (l9, .inl (cI, 4, .inl tt))]) [0, 1, 2, 3, 4, 5, 6, 7, 8, 9] (by decide) rfl
                  exact W.iret (v := nI n5) hx hb hr (fun t9 ht9 hW9 => ⟨⟨nI n5, [(mo, .inr (2, [.int (nI 0), .ref l1, .ref l2, .int (nI n5), .ref l3, .ref l4, .int (nI nk), .ref l5, .ref l6, .int (nI 0), .ref l7, .ref l8, .ref l9, .int by0, .int fd])), (l1, .inl (cI, 2400, .inl f5)), (l2, .inl (cI, 2400, .inl g5)), (l3, .inl (cI, 2400, .inl kf)), (l4, .inl (cI, 2400, .inl kg)), (l5, .inl (cI, 4800, .inl e5)), (l6, .inl (cI, 4800, .inl d5)), (l7, .inl (cZ, 1120, .inl mt3)), (l8, .inl (cI, 4, .inl fr)), (l9, .inl (cI, 4, .inl tt))], rfl, ⟨n5, f5, g5, e5, d5, mt3, rfl, rfl, by omega, hSet5.iff (fun c => by rw [show k = 1120 from (by omega), nI_toInt (show 8490 < 2 ^ 31 by omega), nI_toInt (show 8491 < 2 ^ 31 by omega), nI_toInt (show 8492 < 2 ^ 31 by omega)]; exact cr_fold_end10 kp1 kp2 c)⟩, by rw [ht9]; exact hP, va_K.moved hW9.alike hK, hD⟩, hS.F ht9⟩) hS.2.2 dM_fold_236
                · exact absurd (by decide) c_214
          · rw [hp1]
            refine lv_if_eq (tgt := 196) hx hb dM_fold_187 (by decide) (fun c_187 => ?_) (fun c_187 => ?_)
            · refine lv_sipush (v := nI 8491) hx hb dM_fold_196 (by decide) ?_
              refine lv_sipush (v := nI 8490) hx hb dM_fold_199 (by decide) ?_
              have hPc := hP.sub (ws' := [(mo, .inr (2, [.int (nI 0), .ref l1, .ref l2, .int (nI n), .ref l3, .ref l4, .int (nI nk), .ref l5, .ref l6, .int (nI m1), .ref l7, .ref l8, .ref l9, .int by0, .int fd])), (l1, .inl (cI, 2400, .inl f)), (l2, .inl (cI, 2400, .inl g)), (l3, .inl (cI, 2400, .inl kf)), (l4, .inl (cI, 2400, .inl kg)), (l5, .inl (cI, 4800, .inl e1)), (l6, .inl (cI, 4800, .inl d1)), (l7, .inl (cZ, 1120, .inl mt3)), (l8, .inl (cI, 4, .inl fr)), (l9, .inl (cI, 4, .inl tt))]) [0, 1, 2, 3, 4, 5, 6, 7, 8, 9] rfl
              have hDc := hD.sub (ws' := [(mo, .inr (2, [.int (nI 0), .ref l1, .ref l2, .int (nI n), .ref l3, .ref l4, .int (nI nk), .ref l5, .ref l6, .int (nI m1), .ref l7, .ref l8, .ref l9, .int by0, .int fd])), (l1, .inl (cI, 2400, .inl f)), (l2, .inl (cI, 2400, .inl g)), (l3, .inl (cI, 2400, .inl kf)), (l4, .inl (cI, 2400, .inl kg)), (l5, .inl (cI, 4800, .inl e1)), (l6, .inl (cI, 4800, .inl d1)), (l7, .inl (cZ, 1120, .inl mt3)), (l8, .inl (cI, 4, .inl fr)), (l9, .inl (cI, 4, .inl tt))]) [0, 1, 2, 3, 4, 5, 6, 7, 8, 9] (by decide) rfl
              have hFc := va_free (wc := [(mo, .inr (2, [.int (nI 0), .ref l1, .ref l2, .int (nI n), .ref l3, .ref l4, .int (nI nk), .ref l5, .ref l6, .int (nI m1), .ref l7, .ref l8, .ref l9, .int by0, .int fd])), (l1, .inl (cI, 2400, .inl f)), (l2, .inl (cI, 2400, .inl g)), (l3, .inl (cI, 2400, .inl kf)), (l4, .inl (cI, 2400, .inl kg)), (l5, .inl (cI, 4800, .inl e1)), (l6, .inl (cI, 4800, .inl d1)), (l7, .inl (cZ, 1120, .inl mt3)), (l8, .inl (cI, 4, .inl fr)), (l9, .inl (cI, 4, .inl tt))]) hD hS hA [0, 1, 2, 3, 4, 5, 6, 7, 8, 9] rfl
              refine va_callv (va_runV (As := [.int (nI 8491), .int (nI 8490)]) (rest := []) ⟨hx, hb, hml, hown, hts⟩ (m_puts l dC dI _ mo l1 l2 l3 l4 l5 l6 l7 l8 l9 cI cZ (nI 0) by0 fd n nk m1 f g kf kg e1 d1 mt3 fr tt _ h3 (by omega) (nI 8491) (nI 8490) (by first | (rw [nI_toInt (by omega), nI_toInt (by omega)]; omega) | (rw [nI_toInt (by omega)]; omega))) (cwV 2 hts gM_fold_M_puts rfl rfl rfl (by decide +kernel) ⟨Nat.le_of_ble_eq_true rfl, Nat.le_of_ble_eq_true rfl⟩) (cr_preV hPc hK hDc (ci := 2) (q0 := 0) rfl rfl) rfl rfl hl.1 rfl (lv_room (Nat.le_of_ble_eq_true rfl)) dM_fold_202 ⟨Nat.zero_le _, Nat.zero_le _⟩) hS (fun q _ h => hFc q h) hFc (fun u_202 t_202 H_202 locs ht_202 hvm_202 hw_202 hB_202 hz_202 hk_202 hS => ?_)
              obtain ⟨m4, e4, d4, rfl, hm4, hE4⟩ := hw_202
              obtain ⟨hP, hD⟩ := cr_back (wr := []) (w1 := [(mo, .inr (2, [.int (nI 0), .ref l1, .ref l2, .int (nI n), .ref l3, .ref l4, .int (nI nk), .ref l5, .ref l6, .int (nI m4), .ref l7, .ref l8, .ref l9, .int by0, .int fd])), (l1, .inl (cI, 2400, .inl f)), (l2, .inl (cI, 2400, .inl g)), (l3, .inl (cI, 2400, .inl kf)), (l4, .inl (cI, 2400, .inl kg)), (l5, .inl (cI, 4800, .inl e4)), (l6, .inl (cI, 4800, .inl d4)), (l7, .inl (cZ, 1120, .inl mt3)), (l8, .inl (cI, 4, .inl fr)), (l9, .inl (cI, 4, .inl tt))]) hP hD [0, 1, 2, 3, 4, 5, 6, 7, 8, 9] [] rfl rfl (by decide) (by decide) hk_202 hFc hB_202 ht_202
              clear hPc hDc hFc
              generalize H_202 = H at hP hS ⊢
              have hP := hP.sub (ws' := [(mo, .inr (2, [.int (nI 0), .ref l1, .ref l2, .int (nI n), .ref l3, .ref l4, .int (nI nk), .ref l5, .ref l6, .int (nI m4), .ref l7, .ref l8, .ref l9, .int by0, .int fd])), (l1, .inl (cI, 2400, .inl f)), (l2, .inl (cI, 2400, .inl g)), (l3, .inl (cI, 2400, .inl kf)), (l4, .inl (cI, 2400, .inl kg)), (l5, .inl (cI, 4800, .inl e4)), (l6, .inl (cI, 4800, .inl d4)), (l7, .inl (cZ, 1120, .inl mt3)), (l8, .inl (cI, 4, .inl fr)), (l9, .inl (cI, 4, .inl tt))]) [0, 1, 2, 3, 4, 5, 6, 7, 8, 9] rfl
              have hD := hD.sub (ws' := [(mo, .inr (2, [.int (nI 0), .ref l1, .ref l2, .int (nI n), .ref l3, .ref l4, .int (nI nk), .ref l5, .ref l6, .int (nI m4), .ref l7, .ref l8, .ref l9, .int by0, .int fd])), (l1, .inl (cI, 2400, .inl f)), (l2, .inl (cI, 2400, .inl g)), (l3, .inl (cI, 2400, .inl kf)), (l4, .inl (cI, 2400, .inl kg)), (l5, .inl (cI, 4800, .inl e4)), (l6, .inl (cI, 4800, .inl d4)), (l7, .inl (cZ, 1120, .inl mt3)), (l8, .inl (cI, 4, .inl fr)), (l9, .inl (cI, 4, .inl tt))]) [0, 1, 2, 3, 4, 5, 6, 7, 8, 9] (by decide) rfl
              refine lv_aload_n hx hb dM_fold_205 rfl (lv_at hl 0 rfl) ?_
              refine lv_aload_n hx hb dM_fold_206 rfl (lv_at hl 0 rfl) ?_
              refine va_get (D := (dC, dI)) (ci := 2) (v := .ref l7) (C := RX2) (T := TM) (N := 15) hx hb hts (wsM00_in _) hown hK hP 0 rfl rfl 10 (by decide) (hts (.fieldLink RX2 28 "CharRowsModel" "met" "[Z") (by decide +kernel)) (fun _ h9 => h9) rfl dM_fold_207 ?_
              refine lv_sipush (v := nI 229) hx hb dM_fold_210 (by decide) ?_
              refine va_zald hx hb hK hP 7 1 rfl rfl (vp_in_nI (by omega) (by omega)) dM_fold_213 ?_
              refine cr_top (y := mt3 229) (by rw [nI_clamp (by omega)]) ?_
              rcases hm3 229 (by omega) with ⟨hp2, kp2⟩ | ⟨hp2, kp2⟩
              · rw [hp2]
                refine lv_if_eq (tgt := 223) hx hb dM_fold_214 (by decide) (fun c_214 => ?_) (fun c_214 => ?_)
                · exact absurd c_214 (by decide)
                · refine lv_sipush (v := nI 8491) hx hb dM_fold_217 (by decide) ?_
                  refine lv_goto (tgt := 226) hx hb dM_fold_220 (by decide) ?_
                  refine lv_sipush (v := nI 8491) hx hb dM_fold_226 (by decide) ?_
                  have hPc := hP.sub (ws' := [(mo, .inr (2, [.int (nI 0), .ref l1, .ref l2, .int (nI n), .ref l3, .ref l4, .int (nI nk), .ref l5, .ref l6, .int (nI m4), .ref l7, .ref l8, .ref l9, .int by0, .int fd])), (l1, .inl (cI, 2400, .inl f)), (l2, .inl (cI, 2400, .inl g)), (l3, .inl (cI, 2400, .inl kf)), (l4, .inl (cI, 2400, .inl kg)), (l5, .inl (cI, 4800, .inl e4)), (l6, .inl (cI, 4800, .inl d4)), (l7, .inl (cZ, 1120, .inl mt3)), (l8, .inl (cI, 4, .inl fr)), (l9, .inl (cI, 4, .inl tt))]) [0, 1, 2, 3, 4, 5, 6, 7, 8, 9] rfl
                  have hDc := hD.sub (ws' := [(mo, .inr (2, [.int (nI 0), .ref l1, .ref l2, .int (nI n), .ref l3, .ref l4, .int (nI nk), .ref l5, .ref l6, .int (nI m4), .ref l7, .ref l8, .ref l9, .int by0, .int fd])), (l1, .inl (cI, 2400, .inl f)), (l2, .inl (cI, 2400, .inl g)), (l3, .inl (cI, 2400, .inl kf)), (l4, .inl (cI, 2400, .inl kg)), (l5, .inl (cI, 4800, .inl e4)), (l6, .inl (cI, 4800, .inl d4)), (l7, .inl (cZ, 1120, .inl mt3)), (l8, .inl (cI, 4, .inl fr)), (l9, .inl (cI, 4, .inl tt))]) [0, 1, 2, 3, 4, 5, 6, 7, 8, 9] (by decide) rfl
                  have hFc := va_free (wc := [(mo, .inr (2, [.int (nI 0), .ref l1, .ref l2, .int (nI n), .ref l3, .ref l4, .int (nI nk), .ref l5, .ref l6, .int (nI m4), .ref l7, .ref l8, .ref l9, .int by0, .int fd])), (l1, .inl (cI, 2400, .inl f)), (l2, .inl (cI, 2400, .inl g)), (l3, .inl (cI, 2400, .inl kf)), (l4, .inl (cI, 2400, .inl kg)), (l5, .inl (cI, 4800, .inl e4)), (l6, .inl (cI, 4800, .inl d4)), (l7, .inl (cZ, 1120, .inl mt3)), (l8, .inl (cI, 4, .inl fr)), (l9, .inl (cI, 4, .inl tt))]) hD hS hA [0, 1, 2, 3, 4, 5, 6, 7, 8, 9] rfl
                  refine va_callv (va_runV (As := [.int (nI 8491), .int (nI 8491)]) (rest := []) ⟨hx, hb, hml, hown, hts⟩ (m_puts l dC dI _ mo l1 l2 l3 l4 l5 l6 l7 l8 l9 cI cZ (nI 0) by0 fd n nk m4 f g kf kg e4 d4 mt3 fr tt _ hE4 (by omega) (nI 8491) (nI 8491) (by first | (rw [nI_toInt (by omega), nI_toInt (by omega)]; omega) | (rw [nI_toInt (by omega)]; omega))) (cwV 2 hts gM_fold_M_puts rfl rfl rfl (by decide +kernel) ⟨Nat.le_of_ble_eq_true rfl, Nat.le_of_ble_eq_true rfl⟩) (cr_preV hPc hK hDc (ci := 2) (q0 := 0) rfl rfl) rfl rfl hl.1 rfl (lv_room (Nat.le_of_ble_eq_true rfl)) dM_fold_229 ⟨Nat.zero_le _, Nat.zero_le _⟩) hS (fun q _ h => hFc q h) hFc (fun u_229 t_229 H_229 locs ht_229 hvm_229 hw_229 hB_229 hz_229 hk_229 hS => ?_)
                  obtain ⟨m5, e6, d5, rfl, hm5, hE5⟩ := hw_229
                  obtain ⟨hP, hD⟩ := cr_back (wr := []) (w1 := [(mo, .inr (2, [.int (nI 0), .ref l1, .ref l2, .int (nI n), .ref l3, .ref l4, .int (nI nk), .ref l5, .ref l6, .int (nI m5), .ref l7, .ref l8, .ref l9, .int by0, .int fd])), (l1, .inl (cI, 2400, .inl f)), (l2, .inl (cI, 2400, .inl g)), (l3, .inl (cI, 2400, .inl kf)), (l4, .inl (cI, 2400, .inl kg)), (l5, .inl (cI, 4800, .inl e6)), (l6, .inl (cI, 4800, .inl d5)), (l7, .inl (cZ, 1120, .inl mt3)), (l8, .inl (cI, 4, .inl fr)), (l9, .inl (cI, 4, .inl tt))]) hP hD [0, 1, 2, 3, 4, 5, 6, 7, 8, 9] [] rfl rfl (by decide) (by decide) hk_229 hFc hB_229 ht_229
                  clear hPc hDc hFc
                  generalize H_229 = H at hP hS ⊢
                  have hP := hP.sub (ws' := [(mo, .inr (2, [.int (nI 0), .ref l1, .ref l2, .int (nI n), .ref l3, .ref l4, .int (nI nk), .ref l5, .ref l6, .int (nI m5), .ref l7, .ref l8, .ref l9, .int by0, .int fd])), (l1, .inl (cI, 2400, .inl f)), (l2, .inl (cI, 2400, .inl g)), (l3, .inl (cI, 2400, .inl kf)), (l4, .inl (cI, 2400, .inl kg)), (l5, .inl (cI, 4800, .inl e6)), (l6, .inl (cI, 4800, .inl d5)), (l7, .inl (cZ, 1120, .inl mt3)), (l8, .inl (cI, 4, .inl fr)), (l9, .inl (cI, 4, .inl tt))]) [0, 1, 2, 3, 4, 5, 6, 7, 8, 9] rfl
                  have hD := hD.sub (ws' := [(mo, .inr (2, [.int (nI 0), .ref l1, .ref l2, .int (nI n), .ref l3, .ref l4, .int (nI nk), .ref l5, .ref l6, .int (nI m5), .ref l7, .ref l8, .ref l9, .int by0, .int fd])), (l1, .inl (cI, 2400, .inl f)), (l2, .inl (cI, 2400, .inl g)), (l3, .inl (cI, 2400, .inl kf)), (l4, .inl (cI, 2400, .inl kg)), (l5, .inl (cI, 4800, .inl e6)), (l6, .inl (cI, 4800, .inl d5)), (l7, .inl (cZ, 1120, .inl mt3)), (l8, .inl (cI, 4, .inl fr)), (l9, .inl (cI, 4, .inl tt))]) [0, 1, 2, 3, 4, 5, 6, 7, 8, 9] (by decide) rfl
                  refine lv_aload_n hx hb dM_fold_232 rfl (lv_at hl 0 rfl) ?_
                  have hPc := hP.sub (ws' := [(mo, .inr (2, [.int (nI 0), .ref l1, .ref l2, .int (nI n), .ref l3, .ref l4, .int (nI nk), .ref l5, .ref l6, .int (nI m5), .ref l7, .ref l8, .ref l9, .int by0, .int fd])), (l1, .inl (cI, 2400, .inl f)), (l2, .inl (cI, 2400, .inl g)), (l3, .inl (cI, 2400, .inl kf)), (l4, .inl (cI, 2400, .inl kg)), (l5, .inl (cI, 4800, .inl e6)), (l6, .inl (cI, 4800, .inl d5)), (l7, .inl (cZ, 1120, .inl mt3)), (l8, .inl (cI, 4, .inl fr)), (l9, .inl (cI, 4, .inl tt))]) [0, 1, 2, 3, 4, 5, 6, 7, 8, 9] rfl
                  have hDc := hD.sub (ws' := [(mo, .inr (2, [.int (nI 0), .ref l1, .ref l2, .int (nI n), .ref l3, .ref l4, .int (nI nk), .ref l5, .ref l6, .int (nI m5), .ref l7, .ref l8, .ref l9, .int by0, .int fd])), (l1, .inl (cI, 2400, .inl f)), (l2, .inl (cI, 2400, .inl g)), (l3, .inl (cI, 2400, .inl kf)), (l4, .inl (cI, 2400, .inl kg)), (l5, .inl (cI, 4800, .inl e6)), (l6, .inl (cI, 4800, .inl d5)), (l7, .inl (cZ, 1120, .inl mt3)), (l8, .inl (cI, 4, .inl fr)), (l9, .inl (cI, 4, .inl tt))]) [0, 1, 2, 3, 4, 5, 6, 7, 8, 9] (by decide) rfl
                  have hFc := va_free (wc := [(mo, .inr (2, [.int (nI 0), .ref l1, .ref l2, .int (nI n), .ref l3, .ref l4, .int (nI nk), .ref l5, .ref l6, .int (nI m5), .ref l7, .ref l8, .ref l9, .int by0, .int fd])), (l1, .inl (cI, 2400, .inl f)), (l2, .inl (cI, 2400, .inl g)), (l3, .inl (cI, 2400, .inl kf)), (l4, .inl (cI, 2400, .inl kg)), (l5, .inl (cI, 4800, .inl e6)), (l6, .inl (cI, 4800, .inl d5)), (l7, .inl (cZ, 1120, .inl mt3)), (l8, .inl (cI, 4, .inl fr)), (l9, .inl (cI, 4, .inl tt))]) hD hS hA [0, 1, 2, 3, 4, 5, 6, 7, 8, 9] rfl
                  refine va_calli (va_runV (As := []) (rest := []) ⟨hx, hb, hml, hown, hts⟩ (m_gathers l dC dI _ mo l1 l2 l3 l4 l5 l6 l7 l8 l9 cI cZ (nI 0) by0 fd n nk m5 f g kf kg e6 d5 mt3 fr tt _ hE5 (by omega)) (cwV 0 hts gM_fold_M_gathers rfl rfl rfl (by decide +kernel) ⟨Nat.le_of_ble_eq_true rfl, Nat.le_of_ble_eq_true rfl⟩) (cr_preV hPc hK hDc (ci := 2) (q0 := 0) rfl rfl) rfl rfl hl.1 rfl (lv_room (Nat.le_of_ble_eq_true rfl)) dM_fold_233 ⟨Nat.zero_le _, Nat.zero_le _⟩) hS (fun q _ h => hFc q h) hFc (fun r_233 u_233 t_233 H_233 locs ht_233 hvm_233 hw_233 hB_233 hz_233 hk_233 hS => ?_)
                  obtain ⟨n5, f5, g5, e5, rfl, rfl, hn5, hSet5⟩ := hw_233
                  obtain ⟨hP, hD⟩ := cr_back (wr := []) (w1 := [(mo, .inr (2, [.int (nI 0), .ref l1, .ref l2, .int (nI n5), .ref l3, .ref l4, .int (nI nk), .ref l5, .ref l6, .int (nI 0), .ref l7, .ref l8, .ref l9, .int by0, .int fd])), (l1, .inl (cI, 2400, .inl f5)), (l2, .inl (cI, 2400, .inl g5)), (l3, .inl (cI, 2400, .inl kf)), (l4, .inl (cI, 2400, .inl kg)), (l5, .inl (cI, 4800, .inl e5)), (l6, .inl (cI, 4800, .inl d5)), (l7, .inl (cZ, 1120, .inl mt3)), (l8, .inl (cI, 4, .inl fr)), (l9, .inl (cI, 4, .inl tt))]) hP hD [0, 1, 2, 3, 4, 5, 6, 7, 8, 9] [] rfl rfl (by decide) (by decide) hk_233 hFc hB_233 ht_233
                  clear hPc hDc hFc
                  generalize H_233 = H at hP hS ⊢
                  have hP := hP.sub (ws' := [(mo, .inr (2, [.int (nI 0), .ref l1, .ref l2, .int (nI n5), .ref l3, .ref l4, .int (nI nk), .ref l5, .ref l6, .int (nI 0), .ref l7, .ref l8, .ref l9, .int by0, .int fd])), (l1, .inl (cI, 2400, .inl f5)), (l2, .inl (cI, 2400, .inl g5)), (l3, .inl (cI, 2400, .inl kf)), (l4, .inl (cI, 2400, .inl kg)), (l5, .inl (cI, 4800, .inl e5)), (l6, .inl (cI, 4800, .inl d5)), (l7, .inl (cZ, 1120, .inl mt3)), (l8, .inl (cI, 4, .inl fr)), (l9, .inl (cI, 4, .inl tt))]) [0, 1, 2, 3, 4, 5, 6, 7, 8, 9] rfl
                  have hD := hD.sub (ws' := [(mo, .inr (2, [.int (nI 0), .ref l1, .ref l2, .int (nI n5), .ref l3, .ref l4, .int (nI nk), .ref l5, .ref l6, .int (nI 0), .ref l7, .ref l8, .ref l9, .int by0, .int fd])), (l1, .inl (cI, 2400, .inl f5)), (l2, .inl (cI, 2400, .inl g5)), (l3, .inl (cI, 2400, .inl kf)), (l4, .inl (cI, 2400, .inl kg)), (l5, .inl (cI, 4800, .inl e5)), (l6, .inl (cI, 4800, .inl d5)), (l7, .inl (cZ, 1120, .inl mt3)), (l8, .inl (cI, 4, .inl fr)), (l9, .inl (cI, 4, .inl tt))]) [0, 1, 2, 3, 4, 5, 6, 7, 8, 9] (by decide) rfl
                  exact W.iret (v := nI n5) hx hb hr (fun t9 ht9 hW9 => ⟨⟨nI n5, [(mo, .inr (2, [.int (nI 0), .ref l1, .ref l2, .int (nI n5), .ref l3, .ref l4, .int (nI nk), .ref l5, .ref l6, .int (nI 0), .ref l7, .ref l8, .ref l9, .int by0, .int fd])), (l1, .inl (cI, 2400, .inl f5)), (l2, .inl (cI, 2400, .inl g5)), (l3, .inl (cI, 2400, .inl kf)), (l4, .inl (cI, 2400, .inl kg)), (l5, .inl (cI, 4800, .inl e5)), (l6, .inl (cI, 4800, .inl d5)), (l7, .inl (cZ, 1120, .inl mt3)), (l8, .inl (cI, 4, .inl fr)), (l9, .inl (cI, 4, .inl tt))], rfl, ⟨n5, f5, g5, e5, d5, mt3, rfl, rfl, by omega, hSet5.iff (fun c => by rw [show k = 1120 from (by omega), nI_toInt (show 8490 < 2 ^ 31 by omega), nI_toInt (show 8491 < 2 ^ 31 by omega)]; exact cr_fold_end01 kp1 kp2 c)⟩, by rw [ht9]; exact hP, va_K.moved hW9.alike hK, hD⟩, hS.F ht9⟩) hS.2.2 dM_fold_236
              · rw [hp2]
                refine lv_if_eq (tgt := 223) hx hb dM_fold_214 (by decide) (fun c_214 => ?_) (fun c_214 => ?_)
                · refine lv_sipush (v := nI 8492) hx hb dM_fold_223 (by decide) ?_
                  refine lv_sipush (v := nI 8491) hx hb dM_fold_226 (by decide) ?_
                  have hPc := hP.sub (ws' := [(mo, .inr (2, [.int (nI 0), .ref l1, .ref l2, .int (nI n), .ref l3, .ref l4, .int (nI nk), .ref l5, .ref l6, .int (nI m4), .ref l7, .ref l8, .ref l9, .int by0, .int fd])), (l1, .inl (cI, 2400, .inl f)), (l2, .inl (cI, 2400, .inl g)), (l3, .inl (cI, 2400, .inl kf)), (l4, .inl (cI, 2400, .inl kg)), (l5, .inl (cI, 4800, .inl e4)), (l6, .inl (cI, 4800, .inl d4)), (l7, .inl (cZ, 1120, .inl mt3)), (l8, .inl (cI, 4, .inl fr)), (l9, .inl (cI, 4, .inl tt))]) [0, 1, 2, 3, 4, 5, 6, 7, 8, 9] rfl
                  have hDc := hD.sub (ws' := [(mo, .inr (2, [.int (nI 0), .ref l1, .ref l2, .int (nI n), .ref l3, .ref l4, .int (nI nk), .ref l5, .ref l6, .int (nI m4), .ref l7, .ref l8, .ref l9, .int by0, .int fd])), (l1, .inl (cI, 2400, .inl f)), (l2, .inl (cI, 2400, .inl g)), (l3, .inl (cI, 2400, .inl kf)), (l4, .inl (cI, 2400, .inl kg)), (l5, .inl (cI, 4800, .inl e4)), (l6, .inl (cI, 4800, .inl d4)), (l7, .inl (cZ, 1120, .inl mt3)), (l8, .inl (cI, 4, .inl fr)), (l9, .inl (cI, 4, .inl tt))]) [0, 1, 2, 3, 4, 5, 6, 7, 8, 9] (by decide) rfl
                  have hFc := va_free (wc := [(mo, .inr (2, [.int (nI 0), .ref l1, .ref l2, .int (nI n), .ref l3, .ref l4, .int (nI nk), .ref l5, .ref l6, .int (nI m4), .ref l7, .ref l8, .ref l9, .int by0, .int fd])), (l1, .inl (cI, 2400, .inl f)), (l2, .inl (cI, 2400, .inl g)), (l3, .inl (cI, 2400, .inl kf)), (l4, .inl (cI, 2400, .inl kg)), (l5, .inl (cI, 4800, .inl e4)), (l6, .inl (cI, 4800, .inl d4)), (l7, .inl (cZ, 1120, .inl mt3)), (l8, .inl (cI, 4, .inl fr)), (l9, .inl (cI, 4, .inl tt))]) hD hS hA [0, 1, 2, 3, 4, 5, 6, 7, 8, 9] rfl
                  refine va_callv (va_runV (As := [.int (nI 8492), .int (nI 8491)]) (rest := []) ⟨hx, hb, hml, hown, hts⟩ (m_puts l dC dI _ mo l1 l2 l3 l4 l5 l6 l7 l8 l9 cI cZ (nI 0) by0 fd n nk m4 f g kf kg e4 d4 mt3 fr tt _ hE4 (by omega) (nI 8492) (nI 8491) (by first | (rw [nI_toInt (by omega), nI_toInt (by omega)]; omega) | (rw [nI_toInt (by omega)]; omega))) (cwV 2 hts gM_fold_M_puts rfl rfl rfl (by decide +kernel) ⟨Nat.le_of_ble_eq_true rfl, Nat.le_of_ble_eq_true rfl⟩) (cr_preV hPc hK hDc (ci := 2) (q0 := 0) rfl rfl) rfl rfl hl.1 rfl (lv_room (Nat.le_of_ble_eq_true rfl)) dM_fold_229 ⟨Nat.zero_le _, Nat.zero_le _⟩) hS (fun q _ h => hFc q h) hFc (fun u_229 t_229 H_229 locs ht_229 hvm_229 hw_229 hB_229 hz_229 hk_229 hS => ?_)
                  obtain ⟨m5, e6, d5, rfl, hm5, hE5⟩ := hw_229
                  obtain ⟨hP, hD⟩ := cr_back (wr := []) (w1 := [(mo, .inr (2, [.int (nI 0), .ref l1, .ref l2, .int (nI n), .ref l3, .ref l4, .int (nI nk), .ref l5, .ref l6, .int (nI m5), .ref l7, .ref l8, .ref l9, .int by0, .int fd])), (l1, .inl (cI, 2400, .inl f)), (l2, .inl (cI, 2400, .inl g)), (l3, .inl (cI, 2400, .inl kf)), (l4, .inl (cI, 2400, .inl kg)), (l5, .inl (cI, 4800, .inl e6)), (l6, .inl (cI, 4800, .inl d5)), (l7, .inl (cZ, 1120, .inl mt3)), (l8, .inl (cI, 4, .inl fr)), (l9, .inl (cI, 4, .inl tt))]) hP hD [0, 1, 2, 3, 4, 5, 6, 7, 8, 9] [] rfl rfl (by decide) (by decide) hk_229 hFc hB_229 ht_229
                  clear hPc hDc hFc
                  generalize H_229 = H at hP hS ⊢
                  have hP := hP.sub (ws' := [(mo, .inr (2, [.int (nI 0), .ref l1, .ref l2, .int (nI n), .ref l3, .ref l4, .int (nI nk), .ref l5, .ref l6, .int (nI m5), .ref l7, .ref l8, .ref l9, .int by0, .int fd])), (l1, .inl (cI, 2400, .inl f)), (l2, .inl (cI, 2400, .inl g)), (l3, .inl (cI, 2400, .inl kf)), (l4, .inl (cI, 2400, .inl kg)), (l5, .inl (cI, 4800, .inl e6)), (l6, .inl (cI, 4800, .inl d5)), (l7, .inl (cZ, 1120, .inl mt3)), (l8, .inl (cI, 4, .inl fr)), (l9, .inl (cI, 4, .inl tt))]) [0, 1, 2, 3, 4, 5, 6, 7, 8, 9] rfl
                  have hD := hD.sub (ws' := [(mo, .inr (2, [.int (nI 0), .ref l1, .ref l2, .int (nI n), .ref l3, .ref l4, .int (nI nk), .ref l5, .ref l6, .int (nI m5), .ref l7, .ref l8, .ref l9, .int by0, .int fd])), (l1, .inl (cI, 2400, .inl f)), (l2, .inl (cI, 2400, .inl g)), (l3, .inl (cI, 2400, .inl kf)), (l4, .inl (cI, 2400, .inl kg)), (l5, .inl (cI, 4800, .inl e6)), (l6, .inl (cI, 4800, .inl d5)), (l7, .inl (cZ, 1120, .inl mt3)), (l8, .inl (cI, 4, .inl fr)), (l9, .inl (cI, 4, .inl tt))]) [0, 1, 2, 3, 4, 5, 6, 7, 8, 9] (by decide) rfl
                  refine lv_aload_n hx hb dM_fold_232 rfl (lv_at hl 0 rfl) ?_
                  have hPc := hP.sub (ws' := [(mo, .inr (2, [.int (nI 0), .ref l1, .ref l2, .int (nI n), .ref l3, .ref l4, .int (nI nk), .ref l5, .ref l6, .int (nI m5), .ref l7, .ref l8, .ref l9, .int by0, .int fd])), (l1, .inl (cI, 2400, .inl f)), (l2, .inl (cI, 2400, .inl g)), (l3, .inl (cI, 2400, .inl kf)), (l4, .inl (cI, 2400, .inl kg)), (l5, .inl (cI, 4800, .inl e6)), (l6, .inl (cI, 4800, .inl d5)), (l7, .inl (cZ, 1120, .inl mt3)), (l8, .inl (cI, 4, .inl fr)), (l9, .inl (cI, 4, .inl tt))]) [0, 1, 2, 3, 4, 5, 6, 7, 8, 9] rfl
                  have hDc := hD.sub (ws' := [(mo, .inr (2, [.int (nI 0), .ref l1, .ref l2, .int (nI n), .ref l3, .ref l4, .int (nI nk), .ref l5, .ref l6, .int (nI m5), .ref l7, .ref l8, .ref l9, .int by0, .int fd])), (l1, .inl (cI, 2400, .inl f)), (l2, .inl (cI, 2400, .inl g)), (l3, .inl (cI, 2400, .inl kf)), (l4, .inl (cI, 2400, .inl kg)), (l5, .inl (cI, 4800, .inl e6)), (l6, .inl (cI, 4800, .inl d5)), (l7, .inl (cZ, 1120, .inl mt3)), (l8, .inl (cI, 4, .inl fr)), (l9, .inl (cI, 4, .inl tt))]) [0, 1, 2, 3, 4, 5, 6, 7, 8, 9] (by decide) rfl
                  have hFc := va_free (wc := [(mo, .inr (2, [.int (nI 0), .ref l1, .ref l2, .int (nI n), .ref l3, .ref l4, .int (nI nk), .ref l5, .ref l6, .int (nI m5), .ref l7, .ref l8, .ref l9, .int by0, .int fd])), (l1, .inl (cI, 2400, .inl f)), (l2, .inl (cI, 2400, .inl g)), (l3, .inl (cI, 2400, .inl kf)), (l4, .inl (cI, 2400, .inl kg)), (l5, .inl (cI, 4800, .inl e6)), (l6, .inl (cI, 4800, .inl d5)), (l7, .inl (cZ, 1120, .inl mt3)), (l8, .inl (cI, 4, .inl fr)), (l9, .inl (cI, 4, .inl tt))]) hD hS hA [0, 1, 2, 3, 4, 5, 6, 7, 8, 9] rfl
                  refine va_calli (va_runV (As := []) (rest := []) ⟨hx, hb, hml, hown, hts⟩ (m_gathers l dC dI _ mo l1 l2 l3 l4 l5 l6 l7 l8 l9 cI cZ (nI 0) by0 fd n nk m5 f g kf kg e6 d5 mt3 fr tt _ hE5 (by omega)) (cwV 0 hts gM_fold_M_gathers rfl rfl rfl (by decide +kernel) ⟨Nat.le_of_ble_eq_true rfl, Nat.le_of_ble_eq_true rfl⟩) (cr_preV hPc hK hDc (ci := 2) (q0 := 0) rfl rfl) rfl rfl hl.1 rfl (lv_room (Nat.le_of_ble_eq_true rfl)) dM_fold_233 ⟨Nat.zero_le _, Nat.zero_le _⟩) hS (fun q _ h => hFc q h) hFc (fun r_233 u_233 t_233 H_233 locs ht_233 hvm_233 hw_233 hB_233 hz_233 hk_233 hS => ?_)
                  obtain ⟨n5, f5, g5, e5, rfl, rfl, hn5, hSet5⟩ := hw_233
                  obtain ⟨hP, hD⟩ := cr_back (wr := []) (w1 := [(mo, .inr (2, [.int (nI 0), .ref l1, .ref l2, .int (nI n5), .ref l3, .ref l4, .int (nI nk), .ref l5, .ref l6, .int (nI 0), .ref l7, .ref l8, .ref l9, .int by0, .int fd])), (l1, .inl (cI, 2400, .inl f5)), (l2, .inl (cI, 2400, .inl g5)), (l3, .inl (cI, 2400, .inl kf)), (l4, .inl (cI, 2400, .inl kg)), (l5, .inl (cI, 4800, .inl e5)), (l6, .inl (cI, 4800, .inl d5)), (l7, .inl (cZ, 1120, .inl mt3)), (l8, .inl (cI, 4, .inl fr)), (l9, .inl (cI, 4, .inl tt))]) hP hD [0, 1, 2, 3, 4, 5, 6, 7, 8, 9] [] rfl rfl (by decide) (by decide) hk_233 hFc hB_233 ht_233
                  clear hPc hDc hFc
                  generalize H_233 = H at hP hS ⊢
                  have hP := hP.sub (ws' := [(mo, .inr (2, [.int (nI 0), .ref l1, .ref l2, .int (nI n5), .ref l3, .ref l4, .int (nI nk), .ref l5, .ref l6, .int (nI 0), .ref l7, .ref l8, .ref l9, .int by0, .int fd])), (l1, .inl (cI, 2400, .inl f5)), (l2, .inl (cI, 2400, .inl g5)), (l3, .inl (cI, 2400, .inl kf)), (l4, .inl (cI, 2400, .inl kg)), (l5, .inl (cI, 4800, .inl e5)), (l6, .inl (cI, 4800, .inl d5)), (l7, .inl (cZ, 1120, .inl mt3)), (l8, .inl (cI, 4, .inl fr)), (l9, .inl (cI, 4, .inl tt))]) [0, 1, 2, 3, 4, 5, 6, 7, 8, 9] rfl
                  have hD := hD.sub (ws' := [(mo, .inr (2, [.int (nI 0), .ref l1, .ref l2, .int (nI n5), .ref l3, .ref l4, .int (nI nk), .ref l5, .ref l6, .int (nI 0), .ref l7, .ref l8, .ref l9, .int by0, .int fd])), (l1, .inl (cI, 2400, .inl f5)), (l2, .inl (cI, 2400, .inl g5)), (l3, .inl (cI, 2400, .inl kf)), (l4, .inl (cI, 2400, .inl kg)), (l5, .inl (cI, 4800, .inl e5)), (l6, .inl (cI, 4800, .inl d5)), (l7, .inl (cZ, 1120, .inl mt3)), (l8, .inl (cI, 4, .inl fr)), (l9, .inl (cI, 4, .inl tt))]) [0, 1, 2, 3, 4, 5, 6, 7, 8, 9] (by decide) rfl
                  exact W.iret (v := nI n5) hx hb hr (fun t9 ht9 hW9 => ⟨⟨nI n5, [(mo, .inr (2, [.int (nI 0), .ref l1, .ref l2, .int (nI n5), .ref l3, .ref l4, .int (nI nk), .ref l5, .ref l6, .int (nI 0), .ref l7, .ref l8, .ref l9, .int by0, .int fd])), (l1, .inl (cI, 2400, .inl f5)), (l2, .inl (cI, 2400, .inl g5)), (l3, .inl (cI, 2400, .inl kf)), (l4, .inl (cI, 2400, .inl kg)), (l5, .inl (cI, 4800, .inl e5)), (l6, .inl (cI, 4800, .inl d5)), (l7, .inl (cZ, 1120, .inl mt3)), (l8, .inl (cI, 4, .inl fr)), (l9, .inl (cI, 4, .inl tt))], rfl, ⟨n5, f5, g5, e5, d5, mt3, rfl, rfl, by omega, hSet5.iff (fun c => by rw [show k = 1120 from (by omega), nI_toInt (show 8490 < 2 ^ 31 by omega), nI_toInt (show 8491 < 2 ^ 31 by omega), nI_toInt (show 8492 < 2 ^ 31 by omega)]; exact cr_fold_end00 kp1 kp2 c)⟩, by rw [ht9]; exact hP, va_K.moved hW9.alike hK, hD⟩, hS.F ht9⟩) hS.2.2 dM_fold_236
                · exact absurd (by decide) c_214
            · exact absurd (by decide) c_187
        · rw [nI_leI (by omega) (by omega)] at c_152
          have hsk := cr_sf_lt (show k < 1120 by omega)
          refine lv_aload_n hx hb dM_fold_155 rfl (lv_at hl 0 rfl) ?_
          refine va_get (D := (dC, dI)) (ci := 2) (v := .ref l7) (C := RX2) (T := TM) (N := 15) hx hb hts (wsM00_in _) hown hK hP 0 rfl rfl 10 (by decide) (hts (.fieldLink RX2 28 "CharRowsModel" "met" "[Z") (by decide +kernel)) (fun _ h9 => h9) rfl dM_fold_156 ?_
          refine lv_iload_n hx hb dM_fold_159 rfl (lv_at hl 1 rfl) ?_
          have hPc := hP.sub (ws' := []) [] rfl
          have hDc := hD.sub (ws' := []) [] (by decide) rfl
          have hFc := va_free (wc := []) hD hS hA [] rfl
          refine va_calli (va_runS (As := [.int (nI k)]) (rest := [.ref l7]) ⟨hx, hb, hml, hown, hts⟩ (m_standsFor l dC dI _ k (by omega)) (va_cwS 1 hts gM_fold_M_standsFor rfl rfl rfl (by decide +kernel) ⟨Nat.le_of_ble_eq_true rfl, Nat.le_of_ble_eq_true rfl⟩) (cr_preS hPc (hK.sub (tys' := []) [] rfl) hDc) rfl rfl hl.1 rfl (lv_room (Nat.le_of_ble_eq_true rfl)) dM_fold_160 ⟨Nat.zero_le _, Nat.zero_le _⟩) hS (fun q _ h => hFc q h) hFc (fun r_160 u_160 t_160 H_160 locs ht_160 hvm_160 hw_160 hB_160 hz_160 hk_160 hS => ?_)
          obtain ⟨rfl, rfl⟩ := hw_160
          obtain ⟨hP, hD⟩ := cr_back (wr := [(mo, .inr (2, [.int (nI 0), .ref l1, .ref l2, .int (nI n), .ref l3, .ref l4, .int (nI nk), .ref l5, .ref l6, .int (nI m1), .ref l7, .ref l8, .ref l9, .int by0, .int fd])), (l1, .inl (cI, 2400, .inl f)), (l2, .inl (cI, 2400, .inl g)), (l3, .inl (cI, 2400, .inl kf)), (l4, .inl (cI, 2400, .inl kg)), (l5, .inl (cI, 4800, .inl e1)), (l6, .inl (cI, 4800, .inl d1)), (l7, .inl (cZ, 1120, .inl mt3)), (l8, .inl (cI, 4, .inl fr)), (l9, .inl (cI, 4, .inl tt))]) (w1 := []) hP hD [] [0, 1, 2, 3, 4, 5, 6, 7, 8, 9] rfl rfl (by decide) (by decide) hk_160 hFc hB_160 ht_160
          clear hPc hDc hFc
          generalize H_160 = H at hP hS ⊢
          have hP := hP.sub (ws' := [(mo, .inr (2, [.int (nI 0), .ref l1, .ref l2, .int (nI n), .ref l3, .ref l4, .int (nI nk), .ref l5, .ref l6, .int (nI m1), .ref l7, .ref l8, .ref l9, .int by0, .int fd])), (l1, .inl (cI, 2400, .inl f)), (l2, .inl (cI, 2400, .inl g)), (l3, .inl (cI, 2400, .inl kf)), (l4, .inl (cI, 2400, .inl kg)), (l5, .inl (cI, 4800, .inl e1)), (l6, .inl (cI, 4800, .inl d1)), (l7, .inl (cZ, 1120, .inl mt3)), (l8, .inl (cI, 4, .inl fr)), (l9, .inl (cI, 4, .inl tt))]) [0, 1, 2, 3, 4, 5, 6, 7, 8, 9] rfl
          have hD := hD.sub (ws' := [(mo, .inr (2, [.int (nI 0), .ref l1, .ref l2, .int (nI n), .ref l3, .ref l4, .int (nI nk), .ref l5, .ref l6, .int (nI m1), .ref l7, .ref l8, .ref l9, .int by0, .int fd])), (l1, .inl (cI, 2400, .inl f)), (l2, .inl (cI, 2400, .inl g)), (l3, .inl (cI, 2400, .inl kf)), (l4, .inl (cI, 2400, .inl kg)), (l5, .inl (cI, 4800, .inl e1)), (l6, .inl (cI, 4800, .inl d1)), (l7, .inl (cZ, 1120, .inl mt3)), (l8, .inl (cI, 4, .inl fr)), (l9, .inl (cI, 4, .inl tt))]) [0, 1, 2, 3, 4, 5, 6, 7, 8, 9] (by decide) rfl
          refine va_zald hx hb hK hP 7 1 rfl rfl (vp_in_nI (by omega) (by omega)) dM_fold_163 ?_
          refine cr_top (y := mt3 (cr_sf k)) (by rw [nI_clamp (by omega)]) ?_
          rcases hm3 (cr_sf k) (cr_sf_lt (by omega)) with ⟨he1, ke1⟩ | ⟨he1, ke1⟩
          · rw [he1]
            refine lv_if_eq (tgt := 173) hx hb dM_fold_164 (by decide) (fun c_164 => ?_) (fun c_164 => ?_)
            · exact absurd c_164 (by decide)
            · refine lv_aload_n hx hb dM_fold_167 rfl (lv_at hl 0 rfl) ?_
              refine lv_iload_n hx hb dM_fold_168 rfl (lv_at hl 1 rfl) ?_
              refine lv_iload_n hx hb dM_fold_169 rfl (lv_at hl 1 rfl) ?_
              have hPc := hP.sub (ws' := [(mo, .inr (2, [.int (nI 0), .ref l1, .ref l2, .int (nI n), .ref l3, .ref l4, .int (nI nk), .ref l5, .ref l6, .int (nI m1), .ref l7, .ref l8, .ref l9, .int by0, .int fd])), (l1, .inl (cI, 2400, .inl f)), (l2, .inl (cI, 2400, .inl g)), (l3, .inl (cI, 2400, .inl kf)), (l4, .inl (cI, 2400, .inl kg)), (l5, .inl (cI, 4800, .inl e1)), (l6, .inl (cI, 4800, .inl d1)), (l7, .inl (cZ, 1120, .inl mt3)), (l8, .inl (cI, 4, .inl fr)), (l9, .inl (cI, 4, .inl tt))]) [0, 1, 2, 3, 4, 5, 6, 7, 8, 9] rfl
              have hDc := hD.sub (ws' := [(mo, .inr (2, [.int (nI 0), .ref l1, .ref l2, .int (nI n), .ref l3, .ref l4, .int (nI nk), .ref l5, .ref l6, .int (nI m1), .ref l7, .ref l8, .ref l9, .int by0, .int fd])), (l1, .inl (cI, 2400, .inl f)), (l2, .inl (cI, 2400, .inl g)), (l3, .inl (cI, 2400, .inl kf)), (l4, .inl (cI, 2400, .inl kg)), (l5, .inl (cI, 4800, .inl e1)), (l6, .inl (cI, 4800, .inl d1)), (l7, .inl (cZ, 1120, .inl mt3)), (l8, .inl (cI, 4, .inl fr)), (l9, .inl (cI, 4, .inl tt))]) [0, 1, 2, 3, 4, 5, 6, 7, 8, 9] (by decide) rfl
              have hFc := va_free (wc := [(mo, .inr (2, [.int (nI 0), .ref l1, .ref l2, .int (nI n), .ref l3, .ref l4, .int (nI nk), .ref l5, .ref l6, .int (nI m1), .ref l7, .ref l8, .ref l9, .int by0, .int fd])), (l1, .inl (cI, 2400, .inl f)), (l2, .inl (cI, 2400, .inl g)), (l3, .inl (cI, 2400, .inl kf)), (l4, .inl (cI, 2400, .inl kg)), (l5, .inl (cI, 4800, .inl e1)), (l6, .inl (cI, 4800, .inl d1)), (l7, .inl (cZ, 1120, .inl mt3)), (l8, .inl (cI, 4, .inl fr)), (l9, .inl (cI, 4, .inl tt))]) hD hS hA [0, 1, 2, 3, 4, 5, 6, 7, 8, 9] rfl
              refine va_callv (va_runV (As := [.int (nI k), .int (nI k)]) (rest := []) ⟨hx, hb, hml, hown, hts⟩ (m_puts l dC dI _ mo l1 l2 l3 l4 l5 l6 l7 l8 l9 cI cZ (nI 0) by0 fd n nk m1 f g kf kg e1 d1 mt3 fr tt _ h3 (by omega) (nI k) (nI k) (by first | (rw [nI_toInt (by omega), nI_toInt (by omega)]; omega) | (rw [nI_toInt (by omega)]; omega))) (cwV 2 hts gM_fold_M_puts rfl rfl rfl (by decide +kernel) ⟨Nat.le_of_ble_eq_true rfl, Nat.le_of_ble_eq_true rfl⟩) (cr_preV hPc hK hDc (ci := 2) (q0 := 0) rfl rfl) rfl rfl hl.1 rfl (lv_room (Nat.le_of_ble_eq_true rfl)) dM_fold_170 ⟨Nat.zero_le _, Nat.zero_le _⟩) hS (fun q _ h => hFc q h) hFc (fun u_170 t_170 H_170 locs ht_170 hvm_170 hw_170 hB_170 hz_170 hk_170 hS => ?_)
              obtain ⟨m3, e3, d3, rfl, hm3, hE3⟩ := hw_170
              obtain ⟨hP, hD⟩ := cr_back (wr := []) (w1 := [(mo, .inr (2, [.int (nI 0), .ref l1, .ref l2, .int (nI n), .ref l3, .ref l4, .int (nI nk), .ref l5, .ref l6, .int (nI m3), .ref l7, .ref l8, .ref l9, .int by0, .int fd])), (l1, .inl (cI, 2400, .inl f)), (l2, .inl (cI, 2400, .inl g)), (l3, .inl (cI, 2400, .inl kf)), (l4, .inl (cI, 2400, .inl kg)), (l5, .inl (cI, 4800, .inl e3)), (l6, .inl (cI, 4800, .inl d3)), (l7, .inl (cZ, 1120, .inl mt3)), (l8, .inl (cI, 4, .inl fr)), (l9, .inl (cI, 4, .inl tt))]) hP hD [0, 1, 2, 3, 4, 5, 6, 7, 8, 9] [] rfl rfl (by decide) (by decide) hk_170 hFc hB_170 ht_170
              clear hPc hDc hFc
              generalize H_170 = H at hP hS ⊢
              have hP := hP.sub (ws' := [(mo, .inr (2, [.int (nI 0), .ref l1, .ref l2, .int (nI n), .ref l3, .ref l4, .int (nI nk), .ref l5, .ref l6, .int (nI m3), .ref l7, .ref l8, .ref l9, .int by0, .int fd])), (l1, .inl (cI, 2400, .inl f)), (l2, .inl (cI, 2400, .inl g)), (l3, .inl (cI, 2400, .inl kf)), (l4, .inl (cI, 2400, .inl kg)), (l5, .inl (cI, 4800, .inl e3)), (l6, .inl (cI, 4800, .inl d3)), (l7, .inl (cZ, 1120, .inl mt3)), (l8, .inl (cI, 4, .inl fr)), (l9, .inl (cI, 4, .inl tt))]) [0, 1, 2, 3, 4, 5, 6, 7, 8, 9] rfl
              have hD := hD.sub (ws' := [(mo, .inr (2, [.int (nI 0), .ref l1, .ref l2, .int (nI n), .ref l3, .ref l4, .int (nI nk), .ref l5, .ref l6, .int (nI m3), .ref l7, .ref l8, .ref l9, .int by0, .int fd])), (l1, .inl (cI, 2400, .inl f)), (l2, .inl (cI, 2400, .inl g)), (l3, .inl (cI, 2400, .inl kf)), (l4, .inl (cI, 2400, .inl kg)), (l5, .inl (cI, 4800, .inl e3)), (l6, .inl (cI, 4800, .inl d3)), (l7, .inl (cZ, 1120, .inl mt3)), (l8, .inl (cI, 4, .inl fr)), (l9, .inl (cI, 4, .inl tt))]) [0, 1, 2, 3, 4, 5, 6, 7, 8, 9] (by decide) rfl
              refine lv_iinc (v := nI (k + 1)) (lv' := [(1, .int (nI (k + 1))), (0, .ref mo)]) hx hb dM_fold_173 hl (k := 1) rfl (nI_add k 1) (by decide) rfl (fun ls hl => ?_)
              refine lv_goto (tgt := 148) hx hb dM_fold_176 (by decide) ?_
              exact ih148 (k + 1) m3 e3 d3 _ _ _ ⟨⟨by omega, by omega, hE3.iff (cr_fold_s1 ke1 (by omega))⟩, hP, hD, hS, lv_sub hl [1, 0] rfl⟩ (by omega)
          · rw [he1]
            refine lv_if_eq (tgt := 173) hx hb dM_fold_164 (by decide) (fun c_164 => ?_) (fun c_164 => ?_)
            · refine lv_iinc (v := nI (k + 1)) (lv' := [(1, .int (nI (k + 1))), (0, .ref mo)]) hx hb dM_fold_173 hl (k := 1) rfl (nI_add k 1) (by decide) rfl (fun ls hl => ?_)
              refine lv_goto (tgt := 148) hx hb dM_fold_176 (by decide) ?_
              exact ih148 (k + 1) m1 e1 d1 _ _ _ ⟨⟨by omega, by omega, h3.iff (cr_fold_s0 ke1)⟩, hP, hD, hS, lv_sub hl [1, 0] rfl⟩ (by omega)
            · exact absurd (by decide) c_164
      · have hmt : ∀ v, v < 1120 → cr_zb (mt1 v) (∃ d, d < 1120 ∧ cr_sf d = v ∧ S d) := fun v hv => by rw [← show k = 1120 from (by omega)]; exact h2 v hv
        refine lv_aload_n hx hb dM_fold_76 rfl (lv_at hl 0 rfl) ?_
        refine va_get (D := (dC, dI)) (ci := 2) (v := .ref l7) (C := RX2) (T := TM) (N := 15) hx hb hts (wsM00_in _) hown hK hP 0 rfl rfl 10 (by decide) (hts (.fieldLink RX2 28 "CharRowsModel" "met" "[Z") (by decide +kernel)) (fun _ h9 => h9) rfl dM_fold_77 ?_
        refine lv_bipush (v := nI 107) hx hb dM_fold_80 (by decide) ?_
        refine lv_aload_n hx hb dM_fold_82 rfl (lv_at hl 0 rfl) ?_
        refine va_get (D := (dC, dI)) (ci := 2) (v := .ref l7) (C := RX2) (T := TM) (N := 15) hx hb hts (wsM00_in _) hown hK hP 0 rfl rfl 10 (by decide) (hts (.fieldLink RX2 28 "CharRowsModel" "met" "[Z") (by decide +kernel)) (fun _ h9 => h9) rfl dM_fold_83 ?_
        refine lv_bipush (v := nI 107) hx hb dM_fold_86 (by decide) ?_
        refine va_zald hx hb hK hP 7 1 rfl rfl (vp_in_nI (by omega) (by omega)) dM_fold_88 ?_
        refine cr_top (y := mt1 107) (by rw [nI_clamp (by omega)]) ?_
        rcases (hmt 107 (by omega)) with ⟨hb1, kb1⟩ | ⟨hb1, kb1⟩
        · rw [hb1]
          refine lv_if_ne (tgt := 102) hx hb dM_fold_89 (by decide) (fun c_89 => ?_) (fun c_89 => ?_)
          · refine lv_iconst (v := nI 1) hx hb dM_fold_102 (by decide) ?_
            refine lv_goto (tgt := 107) hx hb dM_fold_103 (by decide) ?_
            refine va_zast hx hb hK hP hD hS 7 1 rfl rfl (vp_in_nI (by omega) (by omega)) dM_fold_107 (fun H locs hP hD hS => ?_)
            have hP : va_P (dC, dI) crCl [(mo, .inr (2, [.int (nI 0), .ref l1, .ref l2, .int (nI n), .ref l3, .ref l4, .int (nI nk), .ref l5, .ref l6, .int (nI 0), .ref l7, .ref l8, .ref l9, .int by0, .int fd])), (l1, .inl (cI, 2400, .inl f)), (l2, .inl (cI, 2400, .inl g)), (l3, .inl (cI, 2400, .inl kf)), (l4, .inl (cI, 2400, .inl kg)), (l5, .inl (cI, 4800, .inl ef)), (l6, .inl (cI, 4800, .inl eg)), (l7, .inl (cZ, 1120, .inl (upd mt1 (nI 107).toNatClampNeg (vp_nar .boolean (nI 1))))), (l8, .inl (cI, 4, .inl fr)), (l9, .inl (cI, 4, .inl tt))] H := hP
            have hD : va_D A [(mo, .inr (2, [.int (nI 0), .ref l1, .ref l2, .int (nI n), .ref l3, .ref l4, .int (nI nk), .ref l5, .ref l6, .int (nI 0), .ref l7, .ref l8, .ref l9, .int by0, .int fd])), (l1, .inl (cI, 2400, .inl f)), (l2, .inl (cI, 2400, .inl g)), (l3, .inl (cI, 2400, .inl kf)), (l4, .inl (cI, 2400, .inl kg)), (l5, .inl (cI, 4800, .inl ef)), (l6, .inl (cI, 4800, .inl eg)), (l7, .inl (cZ, 1120, .inl (upd mt1 (nI 107).toNatClampNeg (vp_nar .boolean (nI 1))))), (l8, .inl (cI, 4, .inl fr)), (l9, .inl (cI, 4, .inl tt))] := hD
            rw [nI_clamp (show 107 < 2 ^ 31 by omega), show vp_nar .boolean (nI 1) = nI 1 from rfl] at hP hD
            refine lv_aload_n hx hb dM_fold_108 rfl (lv_at hl 0 rfl) ?_
            refine va_get (D := (dC, dI)) (ci := 2) (v := .ref l7) (C := RX2) (T := TM) (N := 15) hx hb hts (wsM00_in _) hown hK hP 0 rfl rfl 10 (by decide) (hts (.fieldLink RX2 28 "CharRowsModel" "met" "[Z") (by decide +kernel)) (fun _ h9 => h9) rfl dM_fold_109 ?_
            refine lv_sipush (v := nI 229) hx hb dM_fold_112 (by decide) ?_
            refine lv_aload_n hx hb dM_fold_115 rfl (lv_at hl 0 rfl) ?_
            refine va_get (D := (dC, dI)) (ci := 2) (v := .ref l7) (C := RX2) (T := TM) (N := 15) hx hb hts (wsM00_in _) hown hK hP 0 rfl rfl 10 (by decide) (hts (.fieldLink RX2 28 "CharRowsModel" "met" "[Z") (by decide +kernel)) (fun _ h9 => h9) rfl dM_fold_116 ?_
            refine lv_sipush (v := nI 229) hx hb dM_fold_119 (by decide) ?_
            refine va_zald hx hb hK hP 7 1 rfl rfl (vp_in_nI (by omega) (by omega)) dM_fold_122 ?_
            refine cr_top (y := upd mt1 107 (nI 1) 229) (by rw [nI_clamp (by omega)]) ?_
            rcases (show cr_zb (upd mt1 107 (nI 1) 229) _ by rw [pk_un (by omega)]; exact hmt 229 (by omega)) with ⟨hd1, kd1⟩ | ⟨hd1, kd1⟩
            · rw [hd1]
              refine lv_if_ne (tgt := 136) hx hb dM_fold_123 (by decide) (fun c_123 => ?_) (fun c_123 => ?_)
              · refine lv_iconst (v := nI 1) hx hb dM_fold_136 (by decide) ?_
                refine lv_goto (tgt := 141) hx hb dM_fold_137 (by decide) ?_
                refine va_zast hx hb hK hP hD hS 7 1 rfl rfl (vp_in_nI (by omega) (by omega)) dM_fold_141 (fun H locs hP hD hS => ?_)
                have hP : va_P (dC, dI) crCl [(mo, .inr (2, [.int (nI 0), .ref l1, .ref l2, .int (nI n), .ref l3, .ref l4, .int (nI nk), .ref l5, .ref l6, .int (nI 0), .ref l7, .ref l8, .ref l9, .int by0, .int fd])), (l1, .inl (cI, 2400, .inl f)), (l2, .inl (cI, 2400, .inl g)), (l3, .inl (cI, 2400, .inl kf)), (l4, .inl (cI, 2400, .inl kg)), (l5, .inl (cI, 4800, .inl ef)), (l6, .inl (cI, 4800, .inl eg)), (l7, .inl (cZ, 1120, .inl (upd (upd mt1 107 (nI 1)) (nI 229).toNatClampNeg (vp_nar .boolean (nI 1))))), (l8, .inl (cI, 4, .inl fr)), (l9, .inl (cI, 4, .inl tt))] H := hP
                have hD : va_D A [(mo, .inr (2, [.int (nI 0), .ref l1, .ref l2, .int (nI n), .ref l3, .ref l4, .int (nI nk), .ref l5, .ref l6, .int (nI 0), .ref l7, .ref l8, .ref l9, .int by0, .int fd])), (l1, .inl (cI, 2400, .inl f)), (l2, .inl (cI, 2400, .inl g)), (l3, .inl (cI, 2400, .inl kf)), (l4, .inl (cI, 2400, .inl kg)), (l5, .inl (cI, 4800, .inl ef)), (l6, .inl (cI, 4800, .inl eg)), (l7, .inl (cZ, 1120, .inl (upd (upd mt1 107 (nI 1)) (nI 229).toNatClampNeg (vp_nar .boolean (nI 1))))), (l8, .inl (cI, 4, .inl fr)), (l9, .inl (cI, 4, .inl tt))] := hD
                rw [nI_clamp (show 229 < 2 ^ 31 by omega), show vp_nar .boolean (nI 1) = nI 1 from rfl] at hP hD
                exact jn142 (upd (upd mt1 107 (nI 1)) 229 (nI 1)) _ _ _ ⟨cr_met_end hmt (Or.inl ⟨rfl, Or.inl kb1⟩) (Or.inl ⟨rfl, Or.inl kd1⟩), hP, hD, hS, lv_sub hl [0, 1] rfl⟩
              · exact absurd c_123 (by decide)
            · rw [hd1]
              refine lv_if_ne (tgt := 136) hx hb dM_fold_123 (by decide) (fun c_123 => ?_) (fun c_123 => ?_)
              · exact absurd (by decide) c_123
              · refine lv_aload_n hx hb dM_fold_126 rfl (lv_at hl 0 rfl) ?_
                refine lv_sipush (v := nI 8491) hx hb dM_fold_127 (by decide) ?_
                have hPc := hP.sub (ws' := [(mo, .inr (2, [.int (nI 0), .ref l1, .ref l2, .int (nI n), .ref l3, .ref l4, .int (nI nk), .ref l5, .ref l6, .int (nI 0), .ref l7, .ref l8, .ref l9, .int by0, .int fd])), (l1, .inl (cI, 2400, .inl f)), (l2, .inl (cI, 2400, .inl g)), (l3, .inl (cI, 2400, .inl kf)), (l4, .inl (cI, 2400, .inl kg)), (l5, .inl (cI, 4800, .inl ef)), (l6, .inl (cI, 4800, .inl eg)), (l7, .inl (cZ, 1120, .inl (upd mt1 107 (nI 1)))), (l8, .inl (cI, 4, .inl fr)), (l9, .inl (cI, 4, .inl tt))]) [0, 1, 2, 3, 4, 5, 6, 7, 8, 9] rfl
                have hDc := hD.sub (ws' := [(mo, .inr (2, [.int (nI 0), .ref l1, .ref l2, .int (nI n), .ref l3, .ref l4, .int (nI nk), .ref l5, .ref l6, .int (nI 0), .ref l7, .ref l8, .ref l9, .int by0, .int fd])), (l1, .inl (cI, 2400, .inl f)), (l2, .inl (cI, 2400, .inl g)), (l3, .inl (cI, 2400, .inl kf)), (l4, .inl (cI, 2400, .inl kg)), (l5, .inl (cI, 4800, .inl ef)), (l6, .inl (cI, 4800, .inl eg)), (l7, .inl (cZ, 1120, .inl (upd mt1 107 (nI 1)))), (l8, .inl (cI, 4, .inl fr)), (l9, .inl (cI, 4, .inl tt))]) [0, 1, 2, 3, 4, 5, 6, 7, 8, 9] (by decide) rfl
                have hFc := va_free (wc := [(mo, .inr (2, [.int (nI 0), .ref l1, .ref l2, .int (nI n), .ref l3, .ref l4, .int (nI nk), .ref l5, .ref l6, .int (nI 0), .ref l7, .ref l8, .ref l9, .int by0, .int fd])), (l1, .inl (cI, 2400, .inl f)), (l2, .inl (cI, 2400, .inl g)), (l3, .inl (cI, 2400, .inl kf)), (l4, .inl (cI, 2400, .inl kg)), (l5, .inl (cI, 4800, .inl ef)), (l6, .inl (cI, 4800, .inl eg)), (l7, .inl (cZ, 1120, .inl (upd mt1 107 (nI 1)))), (l8, .inl (cI, 4, .inl fr)), (l9, .inl (cI, 4, .inl tt))]) hD hS hA [0, 1, 2, 3, 4, 5, 6, 7, 8, 9] rfl
                refine va_calli (va_runV (As := [.int (nI 8491)]) (rest := [.int (nI 229), .ref l7]) ⟨hx, hb, hml, hown, hts⟩ (m_isIn l dC dI _ mo l1 l2 l3 l4 l5 l6 l7 l8 l9 cI cZ (nI 0) by0 fd n nk 0 f g kf kg ef eg (upd mt1 107 (nI 1)) fr tt S hSet (by omega) (nI 8491)) (cwV 1 hts gM_fold_M_isIn rfl rfl rfl (by decide +kernel) ⟨Nat.le_of_ble_eq_true rfl, Nat.le_of_ble_eq_true rfl⟩) (cr_preV hPc hK hDc (ci := 2) (q0 := 0) rfl rfl) rfl rfl hl.1 rfl (lv_room (Nat.le_of_ble_eq_true rfl)) dM_fold_130 ⟨Nat.zero_le _, Nat.zero_le _⟩) hS (fun q _ h => hFc q h) hFc (fun r_130 u_130 t_130 H_130 locs ht_130 hvm_130 hw_130 hB_130 hz_130 hk_130 hS => ?_)
                obtain ⟨rfl, hz_130⟩ := hw_130
                rw [cr_Hs_nI (by omega)] at hz_130
                obtain ⟨hP, hD⟩ := cr_back (wr := []) (w1 := [(mo, .inr (2, [.int (nI 0), .ref l1, .ref l2, .int (nI n), .ref l3, .ref l4, .int (nI nk), .ref l5, .ref l6, .int (nI 0), .ref l7, .ref l8, .ref l9, .int by0, .int fd])), (l1, .inl (cI, 2400, .inl f)), (l2, .inl (cI, 2400, .inl g)), (l3, .inl (cI, 2400, .inl kf)), (l4, .inl (cI, 2400, .inl kg)), (l5, .inl (cI, 4800, .inl ef)), (l6, .inl (cI, 4800, .inl eg)), (l7, .inl (cZ, 1120, .inl (upd mt1 107 (nI 1)))), (l8, .inl (cI, 4, .inl fr)), (l9, .inl (cI, 4, .inl tt))]) hP hD [0, 1, 2, 3, 4, 5, 6, 7, 8, 9] [] rfl rfl (by decide) (by decide) hk_130 hFc hB_130 ht_130
                clear hPc hDc hFc
                generalize H_130 = H at hP hS ⊢
                have hP := hP.sub (ws' := [(mo, .inr (2, [.int (nI 0), .ref l1, .ref l2, .int (nI n), .ref l3, .ref l4, .int (nI nk), .ref l5, .ref l6, .int (nI 0), .ref l7, .ref l8, .ref l9, .int by0, .int fd])), (l1, .inl (cI, 2400, .inl f)), (l2, .inl (cI, 2400, .inl g)), (l3, .inl (cI, 2400, .inl kf)), (l4, .inl (cI, 2400, .inl kg)), (l5, .inl (cI, 4800, .inl ef)), (l6, .inl (cI, 4800, .inl eg)), (l7, .inl (cZ, 1120, .inl (upd mt1 107 (nI 1)))), (l8, .inl (cI, 4, .inl fr)), (l9, .inl (cI, 4, .inl tt))]) [0, 1, 2, 3, 4, 5, 6, 7, 8, 9] rfl
                have hD := hD.sub (ws' := [(mo, .inr (2, [.int (nI 0), .ref l1, .ref l2, .int (nI n), .ref l3, .ref l4, .int (nI nk), .ref l5, .ref l6, .int (nI 0), .ref l7, .ref l8, .ref l9, .int by0, .int fd])), (l1, .inl (cI, 2400, .inl f)), (l2, .inl (cI, 2400, .inl g)), (l3, .inl (cI, 2400, .inl kf)), (l4, .inl (cI, 2400, .inl kg)), (l5, .inl (cI, 4800, .inl ef)), (l6, .inl (cI, 4800, .inl eg)), (l7, .inl (cZ, 1120, .inl (upd mt1 107 (nI 1)))), (l8, .inl (cI, 4, .inl fr)), (l9, .inl (cI, 4, .inl tt))]) [0, 1, 2, 3, 4, 5, 6, 7, 8, 9] (by decide) rfl
                rcases hz_130 with ⟨rfl, kd2⟩ | ⟨rfl, kd2⟩
                · refine lv_if_eq (tgt := 140) hx hb dM_fold_133 (by decide) (fun c_133 => ?_) (fun c_133 => ?_)
                  · exact absurd c_133 (by decide)
                  · refine lv_iconst (v := nI 1) hx hb dM_fold_136 (by decide) ?_
                    refine lv_goto (tgt := 141) hx hb dM_fold_137 (by decide) ?_
                    refine va_zast hx hb hK hP hD hS 7 1 rfl rfl (vp_in_nI (by omega) (by omega)) dM_fold_141 (fun H locs hP hD hS => ?_)
                    have hP : va_P (dC, dI) crCl [(mo, .inr (2, [.int (nI 0), .ref l1, .ref l2, .int (nI n), .ref l3, .ref l4, .int (nI nk), .ref l5, .ref l6, .int (nI 0), .ref l7, .ref l8, .ref l9, .int by0, .int fd])), (l1, .inl (cI, 2400, .inl f)), (l2, .inl (cI, 2400, .inl g)), (l3, .inl (cI, 2400, .inl kf)), (l4, .inl (cI, 2400, .inl kg)), (l5, .inl (cI, 4800, .inl ef)), (l6, .inl (cI, 4800, .inl eg)), (l7, .inl (cZ, 1120, .inl (upd (upd mt1 107 (nI 1)) (nI 229).toNatClampNeg (vp_nar .boolean (nI 1))))), (l8, .inl (cI, 4, .inl fr)), (l9, .inl (cI, 4, .inl tt))] H := hP
                    have hD : va_D A [(mo, .inr (2, [.int (nI 0), .ref l1, .ref l2, .int (nI n), .ref l3, .ref l4, .int (nI nk), .ref l5, .ref l6, .int (nI 0), .ref l7, .ref l8, .ref l9, .int by0, .int fd])), (l1, .inl (cI, 2400, .inl f)), (l2, .inl (cI, 2400, .inl g)), (l3, .inl (cI, 2400, .inl kf)), (l4, .inl (cI, 2400, .inl kg)), (l5, .inl (cI, 4800, .inl ef)), (l6, .inl (cI, 4800, .inl eg)), (l7, .inl (cZ, 1120, .inl (upd (upd mt1 107 (nI 1)) (nI 229).toNatClampNeg (vp_nar .boolean (nI 1))))), (l8, .inl (cI, 4, .inl fr)), (l9, .inl (cI, 4, .inl tt))] := hD
                    rw [nI_clamp (show 229 < 2 ^ 31 by omega), show vp_nar .boolean (nI 1) = nI 1 from rfl] at hP hD
                    exact jn142 (upd (upd mt1 107 (nI 1)) 229 (nI 1)) _ _ _ ⟨cr_met_end hmt (Or.inl ⟨rfl, Or.inl kb1⟩) (Or.inl ⟨rfl, Or.inr kd2⟩), hP, hD, hS, lv_sub hl [0, 1] rfl⟩
                · refine lv_if_eq (tgt := 140) hx hb dM_fold_133 (by decide) (fun c_133 => ?_) (fun c_133 => ?_)
                  · refine lv_iconst (v := nI 0) hx hb dM_fold_140 (by decide) ?_
                    refine va_zast hx hb hK hP hD hS 7 1 rfl rfl (vp_in_nI (by omega) (by omega)) dM_fold_141 (fun H locs hP hD hS => ?_)
                    have hP : va_P (dC, dI) crCl [(mo, .inr (2, [.int (nI 0), .ref l1, .ref l2, .int (nI n), .ref l3, .ref l4, .int (nI nk), .ref l5, .ref l6, .int (nI 0), .ref l7, .ref l8, .ref l9, .int by0, .int fd])), (l1, .inl (cI, 2400, .inl f)), (l2, .inl (cI, 2400, .inl g)), (l3, .inl (cI, 2400, .inl kf)), (l4, .inl (cI, 2400, .inl kg)), (l5, .inl (cI, 4800, .inl ef)), (l6, .inl (cI, 4800, .inl eg)), (l7, .inl (cZ, 1120, .inl (upd (upd mt1 107 (nI 1)) (nI 229).toNatClampNeg (vp_nar .boolean (nI 0))))), (l8, .inl (cI, 4, .inl fr)), (l9, .inl (cI, 4, .inl tt))] H := hP
                    have hD : va_D A [(mo, .inr (2, [.int (nI 0), .ref l1, .ref l2, .int (nI n), .ref l3, .ref l4, .int (nI nk), .ref l5, .ref l6, .int (nI 0), .ref l7, .ref l8, .ref l9, .int by0, .int fd])), (l1, .inl (cI, 2400, .inl f)), (l2, .inl (cI, 2400, .inl g)), (l3, .inl (cI, 2400, .inl kf)), (l4, .inl (cI, 2400, .inl kg)), (l5, .inl (cI, 4800, .inl ef)), (l6, .inl (cI, 4800, .inl eg)), (l7, .inl (cZ, 1120, .inl (upd (upd mt1 107 (nI 1)) (nI 229).toNatClampNeg (vp_nar .boolean (nI 0))))), (l8, .inl (cI, 4, .inl fr)), (l9, .inl (cI, 4, .inl tt))] := hD
                    rw [nI_clamp (show 229 < 2 ^ 31 by omega), show vp_nar .boolean (nI 0) = nI 0 from rfl] at hP hD
                    exact jn142 (upd (upd mt1 107 (nI 1)) 229 (nI 0)) _ _ _ ⟨cr_met_end hmt (Or.inl ⟨rfl, Or.inl kb1⟩) (Or.inr ⟨rfl, fun q => q.elim kd1 kd2⟩), hP, hD, hS, lv_sub hl [0, 1] rfl⟩
                  · exact absurd (by decide) c_133
          · exact absurd c_89 (by decide)
        · rw [hb1]
          refine lv_if_ne (tgt := 102) hx hb dM_fold_89 (by decide) (fun c_89 => ?_) (fun c_89 => ?_)
          · exact absurd (by decide) c_89
          · refine lv_aload_n hx hb dM_fold_92 rfl (lv_at hl 0 rfl) ?_
            refine lv_sipush (v := nI 8490) hx hb dM_fold_93 (by decide) ?_
            have hPc := hP.sub (ws' := [(mo, .inr (2, [.int (nI 0), .ref l1, .ref l2, .int (nI n), .ref l3, .ref l4, .int (nI nk), .ref l5, .ref l6, .int (nI 0), .ref l7, .ref l8, .ref l9, .int by0, .int fd])), (l1, .inl (cI, 2400, .inl f)), (l2, .inl (cI, 2400, .inl g)), (l3, .inl (cI, 2400, .inl kf)), (l4, .inl (cI, 2400, .inl kg)), (l5, .inl (cI, 4800, .inl ef)), (l6, .inl (cI, 4800, .inl eg)), (l7, .inl (cZ, 1120, .inl mt1)), (l8, .inl (cI, 4, .inl fr)), (l9, .inl (cI, 4, .inl tt))]) [0, 1, 2, 3, 4, 5, 6, 7, 8, 9] rfl
            have hDc := hD.sub (ws' := [(mo, .inr (2, [.int (nI 0), .ref l1, .ref l2, .int (nI n), .ref l3, .ref l4, .int (nI nk), .ref l5, .ref l6, .int (nI 0), .ref l7, .ref l8, .ref l9, .int by0, .int fd])), (l1, .inl (cI, 2400, .inl f)), (l2, .inl (cI, 2400, .inl g)), (l3, .inl (cI, 2400, .inl kf)), (l4, .inl (cI, 2400, .inl kg)), (l5, .inl (cI, 4800, .inl ef)), (l6, .inl (cI, 4800, .inl eg)), (l7, .inl (cZ, 1120, .inl mt1)), (l8, .inl (cI, 4, .inl fr)), (l9, .inl (cI, 4, .inl tt))]) [0, 1, 2, 3, 4, 5, 6, 7, 8, 9] (by decide) rfl
            have hFc := va_free (wc := [(mo, .inr (2, [.int (nI 0), .ref l1, .ref l2, .int (nI n), .ref l3, .ref l4, .int (nI nk), .ref l5, .ref l6, .int (nI 0), .ref l7, .ref l8, .ref l9, .int by0, .int fd])), (l1, .inl (cI, 2400, .inl f)), (l2, .inl (cI, 2400, .inl g)), (l3, .inl (cI, 2400, .inl kf)), (l4, .inl (cI, 2400, .inl kg)), (l5, .inl (cI, 4800, .inl ef)), (l6, .inl (cI, 4800, .inl eg)), (l7, .inl (cZ, 1120, .inl mt1)), (l8, .inl (cI, 4, .inl fr)), (l9, .inl (cI, 4, .inl tt))]) hD hS hA [0, 1, 2, 3, 4, 5, 6, 7, 8, 9] rfl
            refine va_calli (va_runV (As := [.int (nI 8490)]) (rest := [.int (nI 107), .ref l7]) ⟨hx, hb, hml, hown, hts⟩ (m_isIn l dC dI _ mo l1 l2 l3 l4 l5 l6 l7 l8 l9 cI cZ (nI 0) by0 fd n nk 0 f g kf kg ef eg mt1 fr tt S hSet (by omega) (nI 8490)) (cwV 1 hts gM_fold_M_isIn rfl rfl rfl (by decide +kernel) ⟨Nat.le_of_ble_eq_true rfl, Nat.le_of_ble_eq_true rfl⟩) (cr_preV hPc hK hDc (ci := 2) (q0 := 0) rfl rfl) rfl rfl hl.1 rfl (lv_room (Nat.le_of_ble_eq_true rfl)) dM_fold_96 ⟨Nat.zero_le _, Nat.zero_le _⟩) hS (fun q _ h => hFc q h) hFc (fun r_96 u_96 t_96 H_96 locs ht_96 hvm_96 hw_96 hB_96 hz_96 hk_96 hS => ?_)
            obtain ⟨rfl, hz_96⟩ := hw_96
            rw [cr_Hs_nI (by omega)] at hz_96
            obtain ⟨hP, hD⟩ := cr_back (wr := []) (w1 := [(mo, .inr (2, [.int (nI 0), .ref l1, .ref l2, .int (nI n), .ref l3, .ref l4, .int (nI nk), .ref l5, .ref l6, .int (nI 0), .ref l7, .ref l8, .ref l9, .int by0, .int fd])), (l1, .inl (cI, 2400, .inl f)), (l2, .inl (cI, 2400, .inl g)), (l3, .inl (cI, 2400, .inl kf)), (l4, .inl (cI, 2400, .inl kg)), (l5, .inl (cI, 4800, .inl ef)), (l6, .inl (cI, 4800, .inl eg)), (l7, .inl (cZ, 1120, .inl mt1)), (l8, .inl (cI, 4, .inl fr)), (l9, .inl (cI, 4, .inl tt))]) hP hD [0, 1, 2, 3, 4, 5, 6, 7, 8, 9] [] rfl rfl (by decide) (by decide) hk_96 hFc hB_96 ht_96
            clear hPc hDc hFc
            generalize H_96 = H at hP hS ⊢
            have hP := hP.sub (ws' := [(mo, .inr (2, [.int (nI 0), .ref l1, .ref l2, .int (nI n), .ref l3, .ref l4, .int (nI nk), .ref l5, .ref l6, .int (nI 0), .ref l7, .ref l8, .ref l9, .int by0, .int fd])), (l1, .inl (cI, 2400, .inl f)), (l2, .inl (cI, 2400, .inl g)), (l3, .inl (cI, 2400, .inl kf)), (l4, .inl (cI, 2400, .inl kg)), (l5, .inl (cI, 4800, .inl ef)), (l6, .inl (cI, 4800, .inl eg)), (l7, .inl (cZ, 1120, .inl mt1)), (l8, .inl (cI, 4, .inl fr)), (l9, .inl (cI, 4, .inl tt))]) [0, 1, 2, 3, 4, 5, 6, 7, 8, 9] rfl
            have hD := hD.sub (ws' := [(mo, .inr (2, [.int (nI 0), .ref l1, .ref l2, .int (nI n), .ref l3, .ref l4, .int (nI nk), .ref l5, .ref l6, .int (nI 0), .ref l7, .ref l8, .ref l9, .int by0, .int fd])), (l1, .inl (cI, 2400, .inl f)), (l2, .inl (cI, 2400, .inl g)), (l3, .inl (cI, 2400, .inl kf)), (l4, .inl (cI, 2400, .inl kg)), (l5, .inl (cI, 4800, .inl ef)), (l6, .inl (cI, 4800, .inl eg)), (l7, .inl (cZ, 1120, .inl mt1)), (l8, .inl (cI, 4, .inl fr)), (l9, .inl (cI, 4, .inl tt))]) [0, 1, 2, 3, 4, 5, 6, 7, 8, 9] (by decide) rfl
            rcases hz_96 with ⟨rfl, kb2⟩ | ⟨rfl, kb2⟩
            · refine lv_if_eq (tgt := 106) hx hb dM_fold_99 (by decide) (fun c_99 => ?_) (fun c_99 => ?_)
              · exact absurd c_99 (by decide)
              · refine lv_iconst (v := nI 1) hx hb dM_fold_102 (by decide) ?_
                refine lv_goto (tgt := 107) hx hb dM_fold_103 (by decide) ?_
                refine va_zast hx hb hK hP hD hS 7 1 rfl rfl (vp_in_nI (by omega) (by omega)) dM_fold_107 (fun H locs hP hD hS => ?_)
                have hP : va_P (dC, dI) crCl [(mo, .inr (2, [.int (nI 0), .ref l1, .ref l2, .int (nI n), .ref l3, .ref l4, .int (nI nk), .ref l5, .ref l6, .int (nI 0), .ref l7, .ref l8, .ref l9, .int by0, .int fd])), (l1, .inl (cI, 2400, .inl f)), (l2, .inl (cI, 2400, .inl g)), (l3, .inl (cI, 2400, .inl kf)), (l4, .inl (cI, 2400, .inl kg)), (l5, .inl (cI, 4800, .inl ef)), (l6, .inl (cI, 4800, .inl eg)), (l7, .inl (cZ, 1120, .inl (upd mt1 (nI 107).toNatClampNeg (vp_nar .boolean (nI 1))))), (l8, .inl (cI, 4, .inl fr)), (l9, .inl (cI, 4, .inl tt))] H := hP
                have hD : va_D A [(mo, .inr (2, [.int (nI 0), .ref l1, .ref l2, .int (nI n), .ref l3, .ref l4, .int (nI nk), .ref l5, .ref l6, .int (nI 0), .ref l7, .ref l8, .ref l9, .int by0, .int fd])), (l1, .inl (cI, 2400, .inl f)), (l2, .inl (cI, 2400, .inl g)), (l3, .inl (cI, 2400, .inl kf)), (l4, .inl (cI, 2400, .inl kg)), (l5, .inl (cI, 4800, .inl ef)), (l6, .inl (cI, 4800, .inl eg)), (l7, .inl (cZ, 1120, .inl (upd mt1 (nI 107).toNatClampNeg (vp_nar .boolean (nI 1))))), (l8, .inl (cI, 4, .inl fr)), (l9, .inl (cI, 4, .inl tt))] := hD
                rw [nI_clamp (show 107 < 2 ^ 31 by omega), show vp_nar .boolean (nI 1) = nI 1 from rfl] at hP hD
                refine lv_aload_n hx hb dM_fold_108 rfl (lv_at hl 0 rfl) ?_
                refine va_get (D := (dC, dI)) (ci := 2) (v := .ref l7) (C := RX2) (T := TM) (N := 15) hx hb hts (wsM00_in _) hown hK hP 0 rfl rfl 10 (by decide) (hts (.fieldLink RX2 28 "CharRowsModel" "met" "[Z") (by decide +kernel)) (fun _ h9 => h9) rfl dM_fold_109 ?_
                refine lv_sipush (v := nI 229) hx hb dM_fold_112 (by decide) ?_
                refine lv_aload_n hx hb dM_fold_115 rfl (lv_at hl 0 rfl) ?_
                refine va_get (D := (dC, dI)) (ci := 2) (v := .ref l7) (C := RX2) (T := TM) (N := 15) hx hb hts (wsM00_in _) hown hK hP 0 rfl rfl 10 (by decide) (hts (.fieldLink RX2 28 "CharRowsModel" "met" "[Z") (by decide +kernel)) (fun _ h9 => h9) rfl dM_fold_116 ?_
                refine lv_sipush (v := nI 229) hx hb dM_fold_119 (by decide) ?_
                refine va_zald hx hb hK hP 7 1 rfl rfl (vp_in_nI (by omega) (by omega)) dM_fold_122 ?_
                refine cr_top (y := upd mt1 107 (nI 1) 229) (by rw [nI_clamp (by omega)]) ?_
                rcases (show cr_zb (upd mt1 107 (nI 1) 229) _ by rw [pk_un (by omega)]; exact hmt 229 (by omega)) with ⟨hd1, kd1⟩ | ⟨hd1, kd1⟩
                · rw [hd1]
                  refine lv_if_ne (tgt := 136) hx hb dM_fold_123 (by decide) (fun c_123 => ?_) (fun c_123 => ?_)
                  · refine lv_iconst (v := nI 1) hx hb dM_fold_136 (by decide) ?_
                    refine lv_goto (tgt := 141) hx hb dM_fold_137 (by decide) ?_
                    refine va_zast hx hb hK hP hD hS 7 1 rfl rfl (vp_in_nI (by omega) (by omega)) dM_fold_141 (fun H locs hP hD hS => ?_)
                    have hP : va_P (dC, dI) crCl [(mo, .inr (2, [.int (nI 0), .ref l1, .ref l2, .int (nI n), .ref l3, .ref l4, .int (nI nk), .ref l5, .ref l6, .int (nI 0), .ref l7, .ref l8, .ref l9, .int by0, .int fd])), (l1, .inl (cI, 2400, .inl f)), (l2, .inl (cI, 2400, .inl g)), (l3, .inl (cI, 2400, .inl kf)), (l4, .inl (cI, 2400, .inl kg)), (l5, .inl (cI, 4800, .inl ef)), (l6, .inl (cI, 4800, .inl eg)), (l7, .inl (cZ, 1120, .inl (upd (upd mt1 107 (nI 1)) (nI 229).toNatClampNeg (vp_nar .boolean (nI 1))))), (l8, .inl (cI, 4, .inl fr)), (l9, .inl (cI, 4, .inl tt))] H := hP
                    have hD : va_D A [(mo, .inr (2, [.int (nI 0), .ref l1, .ref l2, .int (nI n), .ref l3, .ref l4, .int (nI nk), .ref l5, .ref l6, .int (nI 0), .ref l7, .ref l8, .ref l9, .int by0, .int fd])), (l1, .inl (cI, 2400, .inl f)), (l2, .inl (cI, 2400, .inl g)), (l3, .inl (cI, 2400, .inl kf)), (l4, .inl (cI, 2400, .inl kg)), (l5, .inl (cI, 4800, .inl ef)), (l6, .inl (cI, 4800, .inl eg)), (l7, .inl (cZ, 1120, .inl (upd (upd mt1 107 (nI 1)) (nI 229).toNatClampNeg (vp_nar .boolean (nI 1))))), (l8, .inl (cI, 4, .inl fr)), (l9, .inl (cI, 4, .inl tt))] := hD
                    rw [nI_clamp (show 229 < 2 ^ 31 by omega), show vp_nar .boolean (nI 1) = nI 1 from rfl] at hP hD
                    exact jn142 (upd (upd mt1 107 (nI 1)) 229 (nI 1)) _ _ _ ⟨cr_met_end hmt (Or.inl ⟨rfl, Or.inr kb2⟩) (Or.inl ⟨rfl, Or.inl kd1⟩), hP, hD, hS, lv_sub hl [0, 1] rfl⟩
                  · exact absurd c_123 (by decide)
                · rw [hd1]
                  refine lv_if_ne (tgt := 136) hx hb dM_fold_123 (by decide) (fun c_123 => ?_) (fun c_123 => ?_)
                  · exact absurd (by decide) c_123
                  · refine lv_aload_n hx hb dM_fold_126 rfl (lv_at hl 0 rfl) ?_
                    refine lv_sipush (v := nI 8491) hx hb dM_fold_127 (by decide) ?_
                    have hPc := hP.sub (ws' := [(mo, .inr (2, [.int (nI 0), .ref l1, .ref l2, .int (nI n), .ref l3, .ref l4, .int (nI nk), .ref l5, .ref l6, .int (nI 0), .ref l7, .ref l8, .ref l9, .int by0, .int fd])), (l1, .inl (cI, 2400, .inl f)), (l2, .inl (cI, 2400, .inl g)), (l3, .inl (cI, 2400, .inl kf)), (l4, .inl (cI, 2400, .inl kg)), (l5, .inl (cI, 4800, .inl ef)), (l6, .inl (cI, 4800, .inl eg)), (l7, .inl (cZ, 1120, .inl (upd mt1 107 (nI 1)))), (l8, .inl (cI, 4, .inl fr)), (l9, .inl (cI, 4, .inl tt))]) [0, 1, 2, 3, 4, 5, 6, 7, 8, 9] rfl
                    have hDc := hD.sub (ws' := [(mo, .inr (2, [.int (nI 0), .ref l1, .ref l2, .int (nI n), .ref l3, .ref l4, .int (nI nk), .ref l5, .ref l6, .int (nI 0), .ref l7, .ref l8, .ref l9, .int by0, .int fd])), (l1, .inl (cI, 2400, .inl f)), (l2, .inl (cI, 2400, .inl g)), (l3, .inl (cI, 2400, .inl kf)), (l4, .inl (cI, 2400, .inl kg)), (l5, .inl (cI, 4800, .inl ef)), (l6, .inl (cI, 4800, .inl eg)), (l7, .inl (cZ, 1120, .inl (upd mt1 107 (nI 1)))), (l8, .inl (cI, 4, .inl fr)), (l9, .inl (cI, 4, .inl tt))]) [0, 1, 2, 3, 4, 5, 6, 7, 8, 9] (by decide) rfl
                    have hFc := va_free (wc := [(mo, .inr (2, [.int (nI 0), .ref l1, .ref l2, .int (nI n), .ref l3, .ref l4, .int (nI nk), .ref l5, .ref l6, .int (nI 0), .ref l7, .ref l8, .ref l9, .int by0, .int fd])), (l1, .inl (cI, 2400, .inl f)), (l2, .inl (cI, 2400, .inl g)), (l3, .inl (cI, 2400, .inl kf)), (l4, .inl (cI, 2400, .inl kg)), (l5, .inl (cI, 4800, .inl ef)), (l6, .inl (cI, 4800, .inl eg)), (l7, .inl (cZ, 1120, .inl (upd mt1 107 (nI 1)))), (l8, .inl (cI, 4, .inl fr)), (l9, .inl (cI, 4, .inl tt))]) hD hS hA [0, 1, 2, 3, 4, 5, 6, 7, 8, 9] rfl
                    refine va_calli (va_runV (As := [.int (nI 8491)]) (rest := [.int (nI 229), .ref l7]) ⟨hx, hb, hml, hown, hts⟩ (m_isIn l dC dI _ mo l1 l2 l3 l4 l5 l6 l7 l8 l9 cI cZ (nI 0) by0 fd n nk 0 f g kf kg ef eg (upd mt1 107 (nI 1)) fr tt S hSet (by omega) (nI 8491)) (cwV 1 hts gM_fold_M_isIn rfl rfl rfl (by decide +kernel) ⟨Nat.le_of_ble_eq_true rfl, Nat.le_of_ble_eq_true rfl⟩) (cr_preV hPc hK hDc (ci := 2) (q0 := 0) rfl rfl) rfl rfl hl.1 rfl (lv_room (Nat.le_of_ble_eq_true rfl)) dM_fold_130 ⟨Nat.zero_le _, Nat.zero_le _⟩) hS (fun q _ h => hFc q h) hFc (fun r_130 u_130 t_130 H_130 locs ht_130 hvm_130 hw_130 hB_130 hz_130 hk_130 hS => ?_)
                    obtain ⟨rfl, hz_130⟩ := hw_130
                    rw [cr_Hs_nI (by omega)] at hz_130
                    obtain ⟨hP, hD⟩ := cr_back (wr := []) (w1 := [(mo, .inr (2, [.int (nI 0), .ref l1, .ref l2, .int (nI n), .ref l3, .ref l4, .int (nI nk), .ref l5, .ref l6, .int (nI 0), .ref l7, .ref l8, .ref l9, .int by0, .int fd])), (l1, .inl (cI, 2400, .inl f)), (l2, .inl (cI, 2400, .inl g)), (l3, .inl (cI, 2400, .inl kf)), (l4, .inl (cI, 2400, .inl kg)), (l5, .inl (cI, 4800, .inl ef)), (l6, .inl (cI, 4800, .inl eg)), (l7, .inl (cZ, 1120, .inl (upd mt1 107 (nI 1)))), (l8, .inl (cI, 4, .inl fr)), (l9, .inl (cI, 4, .inl tt))]) hP hD [0, 1, 2, 3, 4, 5, 6, 7, 8, 9] [] rfl rfl (by decide) (by decide) hk_130 hFc hB_130 ht_130
                    clear hPc hDc hFc
                    generalize H_130 = H at hP hS ⊢
                    have hP := hP.sub (ws' := [(mo, .inr (2, [.int (nI 0), .ref l1, .ref l2, .int (nI n), .ref l3, .ref l4, .int (nI nk), .ref l5, .ref l6, .int (nI 0), .ref l7, .ref l8, .ref l9, .int by0, .int fd])), (l1, .inl (cI, 2400, .inl f)), (l2, .inl (cI, 2400, .inl g)), (l3, .inl (cI, 2400, .inl kf)), (l4, .inl (cI, 2400, .inl kg)), (l5, .inl (cI, 4800, .inl ef)), (l6, .inl (cI, 4800, .inl eg)), (l7, .inl (cZ, 1120, .inl (upd mt1 107 (nI 1)))), (l8, .inl (cI, 4, .inl fr)), (l9, .inl (cI, 4, .inl tt))]) [0, 1, 2, 3, 4, 5, 6, 7, 8, 9] rfl
                    have hD := hD.sub (ws' := [(mo, .inr (2, [.int (nI 0), .ref l1, .ref l2, .int (nI n), .ref l3, .ref l4, .int (nI nk), .ref l5, .ref l6, .int (nI 0), .ref l7, .ref l8, .ref l9, .int by0, .int fd])), (l1, .inl (cI, 2400, .inl f)), (l2, .inl (cI, 2400, .inl g)), (l3, .inl (cI, 2400, .inl kf)), (l4, .inl (cI, 2400, .inl kg)), (l5, .inl (cI, 4800, .inl ef)), (l6, .inl (cI, 4800, .inl eg)), (l7, .inl (cZ, 1120, .inl (upd mt1 107 (nI 1)))), (l8, .inl (cI, 4, .inl fr)), (l9, .inl (cI, 4, .inl tt))]) [0, 1, 2, 3, 4, 5, 6, 7, 8, 9] (by decide) rfl
                    rcases hz_130 with ⟨rfl, kd2⟩ | ⟨rfl, kd2⟩
                    · refine lv_if_eq (tgt := 140) hx hb dM_fold_133 (by decide) (fun c_133 => ?_) (fun c_133 => ?_)
                      · exact absurd c_133 (by decide)
                      · refine lv_iconst (v := nI 1) hx hb dM_fold_136 (by decide) ?_
                        refine lv_goto (tgt := 141) hx hb dM_fold_137 (by decide) ?_
                        refine va_zast hx hb hK hP hD hS 7 1 rfl rfl (vp_in_nI (by omega) (by omega)) dM_fold_141 (fun H locs hP hD hS => ?_)
                        have hP : va_P (dC, dI) crCl [(mo, .inr (2, [.int (nI 0), .ref l1, .ref l2, .int (nI n), .ref l3, .ref l4, .int (nI nk), .ref l5, .ref l6, .int (nI 0), .ref l7, .ref l8, .ref l9, .int by0, .int fd])), (l1, .inl (cI, 2400, .inl f)), (l2, .inl (cI, 2400, .inl g)), (l3, .inl (cI, 2400, .inl kf)), (l4, .inl (cI, 2400, .inl kg)), (l5, .inl (cI, 4800, .inl ef)), (l6, .inl (cI, 4800, .inl eg)), (l7, .inl (cZ, 1120, .inl (upd (upd mt1 107 (nI 1)) (nI 229).toNatClampNeg (vp_nar .boolean (nI 1))))), (l8, .inl (cI, 4, .inl fr)), (l9, .inl (cI, 4, .inl tt))] H := hP
                        have hD : va_D A [(mo, .inr (2, [.int (nI 0), .ref l1, .ref l2, .int (nI n), .ref l3, .ref l4, .int (nI nk), .ref l5, .ref l6, .int (nI 0), .ref l7, .ref l8, .ref l9, .int by0, .int fd])), (l1, .inl (cI, 2400, .inl f)), (l2, .inl (cI, 2400, .inl g)), (l3, .inl (cI, 2400, .inl kf)), (l4, .inl (cI, 2400, .inl kg)), (l5, .inl (cI, 4800, .inl ef)), (l6, .inl (cI, 4800, .inl eg)), (l7, .inl (cZ, 1120, .inl (upd (upd mt1 107 (nI 1)) (nI 229).toNatClampNeg (vp_nar .boolean (nI 1))))), (l8, .inl (cI, 4, .inl fr)), (l9, .inl (cI, 4, .inl tt))] := hD
                        rw [nI_clamp (show 229 < 2 ^ 31 by omega), show vp_nar .boolean (nI 1) = nI 1 from rfl] at hP hD
                        exact jn142 (upd (upd mt1 107 (nI 1)) 229 (nI 1)) _ _ _ ⟨cr_met_end hmt (Or.inl ⟨rfl, Or.inr kb2⟩) (Or.inl ⟨rfl, Or.inr kd2⟩), hP, hD, hS, lv_sub hl [0, 1] rfl⟩
                    · refine lv_if_eq (tgt := 140) hx hb dM_fold_133 (by decide) (fun c_133 => ?_) (fun c_133 => ?_)
                      · refine lv_iconst (v := nI 0) hx hb dM_fold_140 (by decide) ?_
                        refine va_zast hx hb hK hP hD hS 7 1 rfl rfl (vp_in_nI (by omega) (by omega)) dM_fold_141 (fun H locs hP hD hS => ?_)
                        have hP : va_P (dC, dI) crCl [(mo, .inr (2, [.int (nI 0), .ref l1, .ref l2, .int (nI n), .ref l3, .ref l4, .int (nI nk), .ref l5, .ref l6, .int (nI 0), .ref l7, .ref l8, .ref l9, .int by0, .int fd])), (l1, .inl (cI, 2400, .inl f)), (l2, .inl (cI, 2400, .inl g)), (l3, .inl (cI, 2400, .inl kf)), (l4, .inl (cI, 2400, .inl kg)), (l5, .inl (cI, 4800, .inl ef)), (l6, .inl (cI, 4800, .inl eg)), (l7, .inl (cZ, 1120, .inl (upd (upd mt1 107 (nI 1)) (nI 229).toNatClampNeg (vp_nar .boolean (nI 0))))), (l8, .inl (cI, 4, .inl fr)), (l9, .inl (cI, 4, .inl tt))] H := hP
                        have hD : va_D A [(mo, .inr (2, [.int (nI 0), .ref l1, .ref l2, .int (nI n), .ref l3, .ref l4, .int (nI nk), .ref l5, .ref l6, .int (nI 0), .ref l7, .ref l8, .ref l9, .int by0, .int fd])), (l1, .inl (cI, 2400, .inl f)), (l2, .inl (cI, 2400, .inl g)), (l3, .inl (cI, 2400, .inl kf)), (l4, .inl (cI, 2400, .inl kg)), (l5, .inl (cI, 4800, .inl ef)), (l6, .inl (cI, 4800, .inl eg)), (l7, .inl (cZ, 1120, .inl (upd (upd mt1 107 (nI 1)) (nI 229).toNatClampNeg (vp_nar .boolean (nI 0))))), (l8, .inl (cI, 4, .inl fr)), (l9, .inl (cI, 4, .inl tt))] := hD
                        rw [nI_clamp (show 229 < 2 ^ 31 by omega), show vp_nar .boolean (nI 0) = nI 0 from rfl] at hP hD
                        exact jn142 (upd (upd mt1 107 (nI 1)) 229 (nI 0)) _ _ _ ⟨cr_met_end hmt (Or.inl ⟨rfl, Or.inr kb2⟩) (Or.inr ⟨rfl, fun q => q.elim kd1 kd2⟩), hP, hD, hS, lv_sub hl [0, 1] rfl⟩
                      · exact absurd (by decide) c_133
            · refine lv_if_eq (tgt := 106) hx hb dM_fold_99 (by decide) (fun c_99 => ?_) (fun c_99 => ?_)
              · refine lv_iconst (v := nI 0) hx hb dM_fold_106 (by decide) ?_
                refine va_zast hx hb hK hP hD hS 7 1 rfl rfl (vp_in_nI (by omega) (by omega)) dM_fold_107 (fun H locs hP hD hS => ?_)
                have hP : va_P (dC, dI) crCl [(mo, .inr (2, [.int (nI 0), .ref l1, .ref l2, .int (nI n), .ref l3, .ref l4, .int (nI nk), .ref l5, .ref l6, .int (nI 0), .ref l7, .ref l8, .ref l9, .int by0, .int fd])), (l1, .inl (cI, 2400, .inl f)), (l2, .inl (cI, 2400, .inl g)), (l3, .inl (cI, 2400, .inl kf)), (l4, .inl (cI, 2400, .inl kg)), (l5, .inl (cI, 4800, .inl ef)), (l6, .inl (cI, 4800, .inl eg)), (l7, .inl (cZ, 1120, .inl (upd mt1 (nI 107).toNatClampNeg (vp_nar .boolean (nI 0))))), (l8, .inl (cI, 4, .inl fr)), (l9, .inl (cI, 4, .inl tt))] H := hP
                have hD : va_D A [(mo, .inr (2, [.int (nI 0), .ref l1, .ref l2, .int (nI n), .ref l3, .ref l4, .int (nI nk), .ref l5, .ref l6, .int (nI 0), .ref l7, .ref l8, .ref l9, .int by0, .int fd])), (l1, .inl (cI, 2400, .inl f)), (l2, .inl (cI, 2400, .inl g)), (l3, .inl (cI, 2400, .inl kf)), (l4, .inl (cI, 2400, .inl kg)), (l5, .inl (cI, 4800, .inl ef)), (l6, .inl (cI, 4800, .inl eg)), (l7, .inl (cZ, 1120, .inl (upd mt1 (nI 107).toNatClampNeg (vp_nar .boolean (nI 0))))), (l8, .inl (cI, 4, .inl fr)), (l9, .inl (cI, 4, .inl tt))] := hD
                rw [nI_clamp (show 107 < 2 ^ 31 by omega), show vp_nar .boolean (nI 0) = nI 0 from rfl] at hP hD
                refine lv_aload_n hx hb dM_fold_108 rfl (lv_at hl 0 rfl) ?_
                refine va_get (D := (dC, dI)) (ci := 2) (v := .ref l7) (C := RX2) (T := TM) (N := 15) hx hb hts (wsM00_in _) hown hK hP 0 rfl rfl 10 (by decide) (hts (.fieldLink RX2 28 "CharRowsModel" "met" "[Z") (by decide +kernel)) (fun _ h9 => h9) rfl dM_fold_109 ?_
                refine lv_sipush (v := nI 229) hx hb dM_fold_112 (by decide) ?_
                refine lv_aload_n hx hb dM_fold_115 rfl (lv_at hl 0 rfl) ?_
                refine va_get (D := (dC, dI)) (ci := 2) (v := .ref l7) (C := RX2) (T := TM) (N := 15) hx hb hts (wsM00_in _) hown hK hP 0 rfl rfl 10 (by decide) (hts (.fieldLink RX2 28 "CharRowsModel" "met" "[Z") (by decide +kernel)) (fun _ h9 => h9) rfl dM_fold_116 ?_
                refine lv_sipush (v := nI 229) hx hb dM_fold_119 (by decide) ?_
                refine va_zald hx hb hK hP 7 1 rfl rfl (vp_in_nI (by omega) (by omega)) dM_fold_122 ?_
                refine cr_top (y := upd mt1 107 (nI 0) 229) (by rw [nI_clamp (by omega)]) ?_
                rcases (show cr_zb (upd mt1 107 (nI 0) 229) _ by rw [pk_un (by omega)]; exact hmt 229 (by omega)) with ⟨hd1, kd1⟩ | ⟨hd1, kd1⟩
                · rw [hd1]
                  refine lv_if_ne (tgt := 136) hx hb dM_fold_123 (by decide) (fun c_123 => ?_) (fun c_123 => ?_)
                  · refine lv_iconst (v := nI 1) hx hb dM_fold_136 (by decide) ?_
                    refine lv_goto (tgt := 141) hx hb dM_fold_137 (by decide) ?_
                    refine va_zast hx hb hK hP hD hS 7 1 rfl rfl (vp_in_nI (by omega) (by omega)) dM_fold_141 (fun H locs hP hD hS => ?_)
                    have hP : va_P (dC, dI) crCl [(mo, .inr (2, [.int (nI 0), .ref l1, .ref l2, .int (nI n), .ref l3, .ref l4, .int (nI nk), .ref l5, .ref l6, .int (nI 0), .ref l7, .ref l8, .ref l9, .int by0, .int fd])), (l1, .inl (cI, 2400, .inl f)), (l2, .inl (cI, 2400, .inl g)), (l3, .inl (cI, 2400, .inl kf)), (l4, .inl (cI, 2400, .inl kg)), (l5, .inl (cI, 4800, .inl ef)), (l6, .inl (cI, 4800, .inl eg)), (l7, .inl (cZ, 1120, .inl (upd (upd mt1 107 (nI 0)) (nI 229).toNatClampNeg (vp_nar .boolean (nI 1))))), (l8, .inl (cI, 4, .inl fr)), (l9, .inl (cI, 4, .inl tt))] H := hP
                    have hD : va_D A [(mo, .inr (2, [.int (nI 0), .ref l1, .ref l2, .int (nI n), .ref l3, .ref l4, .int (nI nk), .ref l5, .ref l6, .int (nI 0), .ref l7, .ref l8, .ref l9, .int by0, .int fd])), (l1, .inl (cI, 2400, .inl f)), (l2, .inl (cI, 2400, .inl g)), (l3, .inl (cI, 2400, .inl kf)), (l4, .inl (cI, 2400, .inl kg)), (l5, .inl (cI, 4800, .inl ef)), (l6, .inl (cI, 4800, .inl eg)), (l7, .inl (cZ, 1120, .inl (upd (upd mt1 107 (nI 0)) (nI 229).toNatClampNeg (vp_nar .boolean (nI 1))))), (l8, .inl (cI, 4, .inl fr)), (l9, .inl (cI, 4, .inl tt))] := hD
                    rw [nI_clamp (show 229 < 2 ^ 31 by omega), show vp_nar .boolean (nI 1) = nI 1 from rfl] at hP hD
                    exact jn142 (upd (upd mt1 107 (nI 0)) 229 (nI 1)) _ _ _ ⟨cr_met_end hmt (Or.inr ⟨rfl, fun q => q.elim kb1 kb2⟩) (Or.inl ⟨rfl, Or.inl kd1⟩), hP, hD, hS, lv_sub hl [0, 1] rfl⟩
                  · exact absurd c_123 (by decide)
                · rw [hd1]
                  refine lv_if_ne (tgt := 136) hx hb dM_fold_123 (by decide) (fun c_123 => ?_) (fun c_123 => ?_)
                  · exact absurd (by decide) c_123
                  · refine lv_aload_n hx hb dM_fold_126 rfl (lv_at hl 0 rfl) ?_
                    refine lv_sipush (v := nI 8491) hx hb dM_fold_127 (by decide) ?_
                    have hPc := hP.sub (ws' := [(mo, .inr (2, [.int (nI 0), .ref l1, .ref l2, .int (nI n), .ref l3, .ref l4, .int (nI nk), .ref l5, .ref l6, .int (nI 0), .ref l7, .ref l8, .ref l9, .int by0, .int fd])), (l1, .inl (cI, 2400, .inl f)), (l2, .inl (cI, 2400, .inl g)), (l3, .inl (cI, 2400, .inl kf)), (l4, .inl (cI, 2400, .inl kg)), (l5, .inl (cI, 4800, .inl ef)), (l6, .inl (cI, 4800, .inl eg)), (l7, .inl (cZ, 1120, .inl (upd mt1 107 (nI 0)))), (l8, .inl (cI, 4, .inl fr)), (l9, .inl (cI, 4, .inl tt))]) [0, 1, 2, 3, 4, 5, 6, 7, 8, 9] rfl
                    have hDc := hD.sub (ws' := [(mo, .inr (2, [.int (nI 0), .ref l1, .ref l2, .int (nI n), .ref l3, .ref l4, .int (nI nk), .ref l5, .ref l6, .int (nI 0), .ref l7, .ref l8, .ref l9, .int by0, .int fd])), (l1, .inl (cI, 2400, .inl f)), (l2, .inl (cI, 2400, .inl g)), (l3, .inl (cI, 2400, .inl kf)), (l4, .inl (cI, 2400, .inl kg)), (l5, .inl (cI, 4800, .inl ef)), (l6, .inl (cI, 4800, .inl eg)), (l7, .inl (cZ, 1120, .inl (upd mt1 107 (nI 0)))), (l8, .inl (cI, 4, .inl fr)), (l9, .inl (cI, 4, .inl tt))]) [0, 1, 2, 3, 4, 5, 6, 7, 8, 9] (by decide) rfl
                    have hFc := va_free (wc := [(mo, .inr (2, [.int (nI 0), .ref l1, .ref l2, .int (nI n), .ref l3, .ref l4, .int (nI nk), .ref l5, .ref l6, .int (nI 0), .ref l7, .ref l8, .ref l9, .int by0, .int fd])), (l1, .inl (cI, 2400, .inl f)), (l2, .inl (cI, 2400, .inl g)), (l3, .inl (cI, 2400, .inl kf)), (l4, .inl (cI, 2400, .inl kg)), (l5, .inl (cI, 4800, .inl ef)), (l6, .inl (cI, 4800, .inl eg)), (l7, .inl (cZ, 1120, .inl (upd mt1 107 (nI 0)))), (l8, .inl (cI, 4, .inl fr)), (l9, .inl (cI, 4, .inl tt))]) hD hS hA [0, 1, 2, 3, 4, 5, 6, 7, 8, 9] rfl
                    refine va_calli (va_runV (As := [.int (nI 8491)]) (rest := [.int (nI 229), .ref l7]) ⟨hx, hb, hml, hown, hts⟩ (m_isIn l dC dI _ mo l1 l2 l3 l4 l5 l6 l7 l8 l9 cI cZ (nI 0) by0 fd n nk 0 f g kf kg ef eg (upd mt1 107 (nI 0)) fr tt S hSet (by omega) (nI 8491)) (cwV 1 hts gM_fold_M_isIn rfl rfl rfl (by decide +kernel) ⟨Nat.le_of_ble_eq_true rfl, Nat.le_of_ble_eq_true rfl⟩) (cr_preV hPc hK hDc (ci := 2) (q0 := 0) rfl rfl) rfl rfl hl.1 rfl (lv_room (Nat.le_of_ble_eq_true rfl)) dM_fold_130 ⟨Nat.zero_le _, Nat.zero_le _⟩) hS (fun q _ h => hFc q h) hFc (fun r_130 u_130 t_130 H_130 locs ht_130 hvm_130 hw_130 hB_130 hz_130 hk_130 hS => ?_)
                    obtain ⟨rfl, hz_130⟩ := hw_130
                    rw [cr_Hs_nI (by omega)] at hz_130
                    obtain ⟨hP, hD⟩ := cr_back (wr := []) (w1 := [(mo, .inr (2, [.int (nI 0), .ref l1, .ref l2, .int (nI n), .ref l3, .ref l4, .int (nI nk), .ref l5, .ref l6, .int (nI 0), .ref l7, .ref l8, .ref l9, .int by0, .int fd])), (l1, .inl (cI, 2400, .inl f)), (l2, .inl (cI, 2400, .inl g)), (l3, .inl (cI, 2400, .inl kf)), (l4, .inl (cI, 2400, .inl kg)), (l5, .inl (cI, 4800, .inl ef)), (l6, .inl (cI, 4800, .inl eg)), (l7, .inl (cZ, 1120, .inl (upd mt1 107 (nI 0)))), (l8, .inl (cI, 4, .inl fr)), (l9, .inl (cI, 4, .inl tt))]) hP hD [0, 1, 2, 3, 4, 5, 6, 7, 8, 9] [] rfl rfl (by decide) (by decide) hk_130 hFc hB_130 ht_130
                    clear hPc hDc hFc
                    generalize H_130 = H at hP hS ⊢
                    have hP := hP.sub (ws' := [(mo, .inr (2, [.int (nI 0), .ref l1, .ref l2, .int (nI n), .ref l3, .ref l4, .int (nI nk), .ref l5, .ref l6, .int (nI 0), .ref l7, .ref l8, .ref l9, .int by0, .int fd])), (l1, .inl (cI, 2400, .inl f)), (l2, .inl (cI, 2400, .inl g)), (l3, .inl (cI, 2400, .inl kf)), (l4, .inl (cI, 2400, .inl kg)), (l5, .inl (cI, 4800, .inl ef)), (l6, .inl (cI, 4800, .inl eg)), (l7, .inl (cZ, 1120, .inl (upd mt1 107 (nI 0)))), (l8, .inl (cI, 4, .inl fr)), (l9, .inl (cI, 4, .inl tt))]) [0, 1, 2, 3, 4, 5, 6, 7, 8, 9] rfl
                    have hD := hD.sub (ws' := [(mo, .inr (2, [.int (nI 0), .ref l1, .ref l2, .int (nI n), .ref l3, .ref l4, .int (nI nk), .ref l5, .ref l6, .int (nI 0), .ref l7, .ref l8, .ref l9, .int by0, .int fd])), (l1, .inl (cI, 2400, .inl f)), (l2, .inl (cI, 2400, .inl g)), (l3, .inl (cI, 2400, .inl kf)), (l4, .inl (cI, 2400, .inl kg)), (l5, .inl (cI, 4800, .inl ef)), (l6, .inl (cI, 4800, .inl eg)), (l7, .inl (cZ, 1120, .inl (upd mt1 107 (nI 0)))), (l8, .inl (cI, 4, .inl fr)), (l9, .inl (cI, 4, .inl tt))]) [0, 1, 2, 3, 4, 5, 6, 7, 8, 9] (by decide) rfl
                    rcases hz_130 with ⟨rfl, kd2⟩ | ⟨rfl, kd2⟩
                    · refine lv_if_eq (tgt := 140) hx hb dM_fold_133 (by decide) (fun c_133 => ?_) (fun c_133 => ?_)
                      · exact absurd c_133 (by decide)
                      · refine lv_iconst (v := nI 1) hx hb dM_fold_136 (by decide) ?_
                        refine lv_goto (tgt := 141) hx hb dM_fold_137 (by decide) ?_
                        refine va_zast hx hb hK hP hD hS 7 1 rfl rfl (vp_in_nI (by omega) (by omega)) dM_fold_141 (fun H locs hP hD hS => ?_)
                        have hP : va_P (dC, dI) crCl [(mo, .inr (2, [.int (nI 0), .ref l1, .ref l2, .int (nI n), .ref l3, .ref l4, .int (nI nk), .ref l5, .ref l6, .int (nI 0), .ref l7, .ref l8, .ref l9, .int by0, .int fd])), (l1, .inl (cI, 2400, .inl f)), (l2, .inl (cI, 2400, .inl g)), (l3, .inl (cI, 2400, .inl kf)), (l4, .inl (cI, 2400, .inl kg)), (l5, .inl (cI, 4800, .inl ef)), (l6, .inl (cI, 4800, .inl eg)), (l7, .inl (cZ, 1120, .inl (upd (upd mt1 107 (nI 0)) (nI 229).toNatClampNeg (vp_nar .boolean (nI 1))))), (l8, .inl (cI, 4, .inl fr)), (l9, .inl (cI, 4, .inl tt))] H := hP
                        have hD : va_D A [(mo, .inr (2, [.int (nI 0), .ref l1, .ref l2, .int (nI n), .ref l3, .ref l4, .int (nI nk), .ref l5, .ref l6, .int (nI 0), .ref l7, .ref l8, .ref l9, .int by0, .int fd])), (l1, .inl (cI, 2400, .inl f)), (l2, .inl (cI, 2400, .inl g)), (l3, .inl (cI, 2400, .inl kf)), (l4, .inl (cI, 2400, .inl kg)), (l5, .inl (cI, 4800, .inl ef)), (l6, .inl (cI, 4800, .inl eg)), (l7, .inl (cZ, 1120, .inl (upd (upd mt1 107 (nI 0)) (nI 229).toNatClampNeg (vp_nar .boolean (nI 1))))), (l8, .inl (cI, 4, .inl fr)), (l9, .inl (cI, 4, .inl tt))] := hD
                        rw [nI_clamp (show 229 < 2 ^ 31 by omega), show vp_nar .boolean (nI 1) = nI 1 from rfl] at hP hD
                        exact jn142 (upd (upd mt1 107 (nI 0)) 229 (nI 1)) _ _ _ ⟨cr_met_end hmt (Or.inr ⟨rfl, fun q => q.elim kb1 kb2⟩) (Or.inl ⟨rfl, Or.inr kd2⟩), hP, hD, hS, lv_sub hl [0, 1] rfl⟩
                    · refine lv_if_eq (tgt := 140) hx hb dM_fold_133 (by decide) (fun c_133 => ?_) (fun c_133 => ?_)
                      · refine lv_iconst (v := nI 0) hx hb dM_fold_140 (by decide) ?_
                        refine va_zast hx hb hK hP hD hS 7 1 rfl rfl (vp_in_nI (by omega) (by omega)) dM_fold_141 (fun H locs hP hD hS => ?_)
                        have hP : va_P (dC, dI) crCl [(mo, .inr (2, [.int (nI 0), .ref l1, .ref l2, .int (nI n), .ref l3, .ref l4, .int (nI nk), .ref l5, .ref l6, .int (nI 0), .ref l7, .ref l8, .ref l9, .int by0, .int fd])), (l1, .inl (cI, 2400, .inl f)), (l2, .inl (cI, 2400, .inl g)), (l3, .inl (cI, 2400, .inl kf)), (l4, .inl (cI, 2400, .inl kg)), (l5, .inl (cI, 4800, .inl ef)), (l6, .inl (cI, 4800, .inl eg)), (l7, .inl (cZ, 1120, .inl (upd (upd mt1 107 (nI 0)) (nI 229).toNatClampNeg (vp_nar .boolean (nI 0))))), (l8, .inl (cI, 4, .inl fr)), (l9, .inl (cI, 4, .inl tt))] H := hP
                        have hD : va_D A [(mo, .inr (2, [.int (nI 0), .ref l1, .ref l2, .int (nI n), .ref l3, .ref l4, .int (nI nk), .ref l5, .ref l6, .int (nI 0), .ref l7, .ref l8, .ref l9, .int by0, .int fd])), (l1, .inl (cI, 2400, .inl f)), (l2, .inl (cI, 2400, .inl g)), (l3, .inl (cI, 2400, .inl kf)), (l4, .inl (cI, 2400, .inl kg)), (l5, .inl (cI, 4800, .inl ef)), (l6, .inl (cI, 4800, .inl eg)), (l7, .inl (cZ, 1120, .inl (upd (upd mt1 107 (nI 0)) (nI 229).toNatClampNeg (vp_nar .boolean (nI 0))))), (l8, .inl (cI, 4, .inl fr)), (l9, .inl (cI, 4, .inl tt))] := hD
                        rw [nI_clamp (show 229 < 2 ^ 31 by omega), show vp_nar .boolean (nI 0) = nI 0 from rfl] at hP hD
                        exact jn142 (upd (upd mt1 107 (nI 0)) 229 (nI 0)) _ _ _ ⟨cr_met_end hmt (Or.inr ⟨rfl, fun q => q.elim kb1 kb2⟩) (Or.inr ⟨rfl, fun q => q.elim kd1 kd2⟩), hP, hD, hS, lv_sub hl [0, 1] rfl⟩
                      · exact absurd (by decide) c_133
              · exact absurd (by decide) c_99
    · rw [nI_leI (by omega) (by omega)] at c_33
      have hsk := cr_sf_lt (show k < 1120 by omega)
      refine lv_aload_n hx hb dM_fold_36 rfl (lv_at hl 0 rfl) ?_
      refine va_get (D := (dC, dI)) (ci := 2) (v := .ref l7) (C := RX2) (T := TM) (N := 15) hx hb hts (wsM00_in _) hown hK hP 0 rfl rfl 10 (by decide) (hts (.fieldLink RX2 28 "CharRowsModel" "met" "[Z") (by decide +kernel)) (fun _ h9 => h9) rfl dM_fold_37 ?_
      refine lv_iload_n hx hb dM_fold_40 rfl (lv_at hl 1 rfl) ?_
      have hPc := hP.sub (ws' := []) [] rfl
      have hDc := hD.sub (ws' := []) [] (by decide) rfl
      have hFc := va_free (wc := []) hD hS hA [] rfl
      refine va_calli (va_runS (As := [.int (nI k)]) (rest := [.ref l7]) ⟨hx, hb, hml, hown, hts⟩ (m_standsFor l dC dI _ k (by omega)) (va_cwS 1 hts gM_fold_M_standsFor rfl rfl rfl (by decide +kernel) ⟨Nat.le_of_ble_eq_true rfl, Nat.le_of_ble_eq_true rfl⟩) (cr_preS hPc (hK.sub (tys' := []) [] rfl) hDc) rfl rfl hl.1 rfl (lv_room (Nat.le_of_ble_eq_true rfl)) dM_fold_41 ⟨Nat.zero_le _, Nat.zero_le _⟩) hS (fun q _ h => hFc q h) hFc (fun r_41 u_41 t_41 H_41 locs ht_41 hvm_41 hw_41 hB_41 hz_41 hk_41 hS => ?_)
      obtain ⟨rfl, rfl⟩ := hw_41
      obtain ⟨hP, hD⟩ := cr_back (wr := [(mo, .inr (2, [.int (nI 0), .ref l1, .ref l2, .int (nI n), .ref l3, .ref l4, .int (nI nk), .ref l5, .ref l6, .int (nI 0), .ref l7, .ref l8, .ref l9, .int by0, .int fd])), (l1, .inl (cI, 2400, .inl f)), (l2, .inl (cI, 2400, .inl g)), (l3, .inl (cI, 2400, .inl kf)), (l4, .inl (cI, 2400, .inl kg)), (l5, .inl (cI, 4800, .inl ef)), (l6, .inl (cI, 4800, .inl eg)), (l7, .inl (cZ, 1120, .inl mt1)), (l8, .inl (cI, 4, .inl fr)), (l9, .inl (cI, 4, .inl tt))]) (w1 := []) hP hD [] [0, 1, 2, 3, 4, 5, 6, 7, 8, 9] rfl rfl (by decide) (by decide) hk_41 hFc hB_41 ht_41
      clear hPc hDc hFc
      generalize H_41 = H at hP hS ⊢
      have hP := hP.sub (ws' := [(mo, .inr (2, [.int (nI 0), .ref l1, .ref l2, .int (nI n), .ref l3, .ref l4, .int (nI nk), .ref l5, .ref l6, .int (nI 0), .ref l7, .ref l8, .ref l9, .int by0, .int fd])), (l1, .inl (cI, 2400, .inl f)), (l2, .inl (cI, 2400, .inl g)), (l3, .inl (cI, 2400, .inl kf)), (l4, .inl (cI, 2400, .inl kg)), (l5, .inl (cI, 4800, .inl ef)), (l6, .inl (cI, 4800, .inl eg)), (l7, .inl (cZ, 1120, .inl mt1)), (l8, .inl (cI, 4, .inl fr)), (l9, .inl (cI, 4, .inl tt))]) [0, 1, 2, 3, 4, 5, 6, 7, 8, 9] rfl
      have hD := hD.sub (ws' := [(mo, .inr (2, [.int (nI 0), .ref l1, .ref l2, .int (nI n), .ref l3, .ref l4, .int (nI nk), .ref l5, .ref l6, .int (nI 0), .ref l7, .ref l8, .ref l9, .int by0, .int fd])), (l1, .inl (cI, 2400, .inl f)), (l2, .inl (cI, 2400, .inl g)), (l3, .inl (cI, 2400, .inl kf)), (l4, .inl (cI, 2400, .inl kg)), (l5, .inl (cI, 4800, .inl ef)), (l6, .inl (cI, 4800, .inl eg)), (l7, .inl (cZ, 1120, .inl mt1)), (l8, .inl (cI, 4, .inl fr)), (l9, .inl (cI, 4, .inl tt))]) [0, 1, 2, 3, 4, 5, 6, 7, 8, 9] (by decide) rfl
      refine lv_aload_n hx hb dM_fold_44 rfl (lv_at hl 0 rfl) ?_
      refine va_get (D := (dC, dI)) (ci := 2) (v := .ref l7) (C := RX2) (T := TM) (N := 15) hx hb hts (wsM00_in _) hown hK hP 0 rfl rfl 10 (by decide) (hts (.fieldLink RX2 28 "CharRowsModel" "met" "[Z") (by decide +kernel)) (fun _ h9 => h9) rfl dM_fold_45 ?_
      refine lv_iload_n hx hb dM_fold_48 rfl (lv_at hl 1 rfl) ?_
      have hPc := hP.sub (ws' := []) [] rfl
      have hDc := hD.sub (ws' := []) [] (by decide) rfl
      have hFc := va_free (wc := []) hD hS hA [] rfl
      refine va_calli (va_runS (As := [.int (nI k)]) (rest := [.ref l7, .int (nI (cr_sf k)), .ref l7]) ⟨hx, hb, hml, hown, hts⟩ (m_standsFor l dC dI _ k (by omega)) (va_cwS 1 hts gM_fold_M_standsFor rfl rfl rfl (by decide +kernel) ⟨Nat.le_of_ble_eq_true rfl, Nat.le_of_ble_eq_true rfl⟩) (cr_preS hPc (hK.sub (tys' := []) [] rfl) hDc) rfl rfl hl.1 rfl (lv_room (Nat.le_of_ble_eq_true rfl)) dM_fold_49 ⟨Nat.zero_le _, Nat.zero_le _⟩) hS (fun q _ h => hFc q h) hFc (fun r_49 u_49 t_49 H_49 locs ht_49 hvm_49 hw_49 hB_49 hz_49 hk_49 hS => ?_)
      obtain ⟨rfl, rfl⟩ := hw_49
      obtain ⟨hP, hD⟩ := cr_back (wr := [(mo, .inr (2, [.int (nI 0), .ref l1, .ref l2, .int (nI n), .ref l3, .ref l4, .int (nI nk), .ref l5, .ref l6, .int (nI 0), .ref l7, .ref l8, .ref l9, .int by0, .int fd])), (l1, .inl (cI, 2400, .inl f)), (l2, .inl (cI, 2400, .inl g)), (l3, .inl (cI, 2400, .inl kf)), (l4, .inl (cI, 2400, .inl kg)), (l5, .inl (cI, 4800, .inl ef)), (l6, .inl (cI, 4800, .inl eg)), (l7, .inl (cZ, 1120, .inl mt1)), (l8, .inl (cI, 4, .inl fr)), (l9, .inl (cI, 4, .inl tt))]) (w1 := []) hP hD [] [0, 1, 2, 3, 4, 5, 6, 7, 8, 9] rfl rfl (by decide) (by decide) hk_49 hFc hB_49 ht_49
      clear hPc hDc hFc
      generalize H_49 = H at hP hS ⊢
      have hP := hP.sub (ws' := [(mo, .inr (2, [.int (nI 0), .ref l1, .ref l2, .int (nI n), .ref l3, .ref l4, .int (nI nk), .ref l5, .ref l6, .int (nI 0), .ref l7, .ref l8, .ref l9, .int by0, .int fd])), (l1, .inl (cI, 2400, .inl f)), (l2, .inl (cI, 2400, .inl g)), (l3, .inl (cI, 2400, .inl kf)), (l4, .inl (cI, 2400, .inl kg)), (l5, .inl (cI, 4800, .inl ef)), (l6, .inl (cI, 4800, .inl eg)), (l7, .inl (cZ, 1120, .inl mt1)), (l8, .inl (cI, 4, .inl fr)), (l9, .inl (cI, 4, .inl tt))]) [0, 1, 2, 3, 4, 5, 6, 7, 8, 9] rfl
      have hD := hD.sub (ws' := [(mo, .inr (2, [.int (nI 0), .ref l1, .ref l2, .int (nI n), .ref l3, .ref l4, .int (nI nk), .ref l5, .ref l6, .int (nI 0), .ref l7, .ref l8, .ref l9, .int by0, .int fd])), (l1, .inl (cI, 2400, .inl f)), (l2, .inl (cI, 2400, .inl g)), (l3, .inl (cI, 2400, .inl kf)), (l4, .inl (cI, 2400, .inl kg)), (l5, .inl (cI, 4800, .inl ef)), (l6, .inl (cI, 4800, .inl eg)), (l7, .inl (cZ, 1120, .inl mt1)), (l8, .inl (cI, 4, .inl fr)), (l9, .inl (cI, 4, .inl tt))]) [0, 1, 2, 3, 4, 5, 6, 7, 8, 9] (by decide) rfl
      refine va_zald hx hb hK hP 7 1 rfl rfl (vp_in_nI (by omega) (by omega)) dM_fold_52 ?_
      refine cr_top (y := mt1 (cr_sf k)) (by rw [nI_clamp (by omega)]) ?_
      rcases (h2 _ hsk) with ⟨ha1, ka1⟩ | ⟨ha1, ka1⟩
      · rw [ha1]
        refine lv_if_ne (tgt := 64) hx hb dM_fold_53 (by decide) (fun c_53 => ?_) (fun c_53 => ?_)
        · refine lv_iconst (v := nI 1) hx hb dM_fold_64 (by decide) ?_
          refine lv_goto (tgt := 69) hx hb dM_fold_65 (by decide) ?_
          refine va_zast hx hb hK hP hD hS 7 1 rfl rfl (vp_in_nI (by omega) (by omega)) dM_fold_69 (fun H locs hP hD hS => ?_)
          have hP : va_P (dC, dI) crCl [(mo, .inr (2, [.int (nI 0), .ref l1, .ref l2, .int (nI n), .ref l3, .ref l4, .int (nI nk), .ref l5, .ref l6, .int (nI 0), .ref l7, .ref l8, .ref l9, .int by0, .int fd])), (l1, .inl (cI, 2400, .inl f)), (l2, .inl (cI, 2400, .inl g)), (l3, .inl (cI, 2400, .inl kf)), (l4, .inl (cI, 2400, .inl kg)), (l5, .inl (cI, 4800, .inl ef)), (l6, .inl (cI, 4800, .inl eg)), (l7, .inl (cZ, 1120, .inl (upd mt1 (nI (cr_sf k)).toNatClampNeg (vp_nar .boolean (nI 1))))), (l8, .inl (cI, 4, .inl fr)), (l9, .inl (cI, 4, .inl tt))] H := hP
          have hD : va_D A [(mo, .inr (2, [.int (nI 0), .ref l1, .ref l2, .int (nI n), .ref l3, .ref l4, .int (nI nk), .ref l5, .ref l6, .int (nI 0), .ref l7, .ref l8, .ref l9, .int by0, .int fd])), (l1, .inl (cI, 2400, .inl f)), (l2, .inl (cI, 2400, .inl g)), (l3, .inl (cI, 2400, .inl kf)), (l4, .inl (cI, 2400, .inl kg)), (l5, .inl (cI, 4800, .inl ef)), (l6, .inl (cI, 4800, .inl eg)), (l7, .inl (cZ, 1120, .inl (upd mt1 (nI (cr_sf k)).toNatClampNeg (vp_nar .boolean (nI 1))))), (l8, .inl (cI, 4, .inl fr)), (l9, .inl (cI, 4, .inl tt))] := hD
          rw [nI_clamp (show cr_sf k < 2 ^ 31 by omega), show vp_nar .boolean (nI 1) = nI 1 from rfl] at hP hD
          refine lv_iinc (v := nI (k + 1)) (lv' := [(1, .int (nI (k + 1))), (0, .ref mo)]) hx hb dM_fold_70 hl (k := 1) rfl (nI_add k 1) (by decide) rfl (fun ls hl => ?_)
          refine lv_goto (tgt := 29) hx hb dM_fold_73 (by decide) ?_
          exact ih29 (k + 1) (upd mt1 (cr_sf k) (nI 1)) _ _ _ ⟨⟨by omega, cr_met_s h2 (Or.inl ⟨rfl, Or.inl ka1⟩)⟩, hP, hD, hS, lv_sub hl [1, 0] rfl⟩ (by omega)
        · exact absurd c_53 (by decide)
      · rw [ha1]
        refine lv_if_ne (tgt := 64) hx hb dM_fold_53 (by decide) (fun c_53 => ?_) (fun c_53 => ?_)
        · exact absurd (by decide) c_53
        · refine lv_aload_n hx hb dM_fold_56 rfl (lv_at hl 0 rfl) ?_
          refine lv_iload_n hx hb dM_fold_57 rfl (lv_at hl 1 rfl) ?_
          have hPc := hP.sub (ws' := [(mo, .inr (2, [.int (nI 0), .ref l1, .ref l2, .int (nI n), .ref l3, .ref l4, .int (nI nk), .ref l5, .ref l6, .int (nI 0), .ref l7, .ref l8, .ref l9, .int by0, .int fd])), (l1, .inl (cI, 2400, .inl f)), (l2, .inl (cI, 2400, .inl g)), (l3, .inl (cI, 2400, .inl kf)), (l4, .inl (cI, 2400, .inl kg)), (l5, .inl (cI, 4800, .inl ef)), (l6, .inl (cI, 4800, .inl eg)), (l7, .inl (cZ, 1120, .inl mt1)), (l8, .inl (cI, 4, .inl fr)), (l9, .inl (cI, 4, .inl tt))]) [0, 1, 2, 3, 4, 5, 6, 7, 8, 9] rfl
          have hDc := hD.sub (ws' := [(mo, .inr (2, [.int (nI 0), .ref l1, .ref l2, .int (nI n), .ref l3, .ref l4, .int (nI nk), .ref l5, .ref l6, .int (nI 0), .ref l7, .ref l8, .ref l9, .int by0, .int fd])), (l1, .inl (cI, 2400, .inl f)), (l2, .inl (cI, 2400, .inl g)), (l3, .inl (cI, 2400, .inl kf)), (l4, .inl (cI, 2400, .inl kg)), (l5, .inl (cI, 4800, .inl ef)), (l6, .inl (cI, 4800, .inl eg)), (l7, .inl (cZ, 1120, .inl mt1)), (l8, .inl (cI, 4, .inl fr)), (l9, .inl (cI, 4, .inl tt))]) [0, 1, 2, 3, 4, 5, 6, 7, 8, 9] (by decide) rfl
          have hFc := va_free (wc := [(mo, .inr (2, [.int (nI 0), .ref l1, .ref l2, .int (nI n), .ref l3, .ref l4, .int (nI nk), .ref l5, .ref l6, .int (nI 0), .ref l7, .ref l8, .ref l9, .int by0, .int fd])), (l1, .inl (cI, 2400, .inl f)), (l2, .inl (cI, 2400, .inl g)), (l3, .inl (cI, 2400, .inl kf)), (l4, .inl (cI, 2400, .inl kg)), (l5, .inl (cI, 4800, .inl ef)), (l6, .inl (cI, 4800, .inl eg)), (l7, .inl (cZ, 1120, .inl mt1)), (l8, .inl (cI, 4, .inl fr)), (l9, .inl (cI, 4, .inl tt))]) hD hS hA [0, 1, 2, 3, 4, 5, 6, 7, 8, 9] rfl
          refine va_calli (va_runV (As := [.int (nI k)]) (rest := [.int (nI (cr_sf k)), .ref l7]) ⟨hx, hb, hml, hown, hts⟩ (m_isIn l dC dI _ mo l1 l2 l3 l4 l5 l6 l7 l8 l9 cI cZ (nI 0) by0 fd n nk 0 f g kf kg ef eg mt1 fr tt S hSet (by omega) (nI k)) (cwV 1 hts gM_fold_M_isIn rfl rfl rfl (by decide +kernel) ⟨Nat.le_of_ble_eq_true rfl, Nat.le_of_ble_eq_true rfl⟩) (cr_preV hPc hK hDc (ci := 2) (q0 := 0) rfl rfl) rfl rfl hl.1 rfl (lv_room (Nat.le_of_ble_eq_true rfl)) dM_fold_58 ⟨Nat.zero_le _, Nat.zero_le _⟩) hS (fun q _ h => hFc q h) hFc (fun r_58 u_58 t_58 H_58 locs ht_58 hvm_58 hw_58 hB_58 hz_58 hk_58 hS => ?_)
          obtain ⟨rfl, hz_58⟩ := hw_58
          rw [cr_Hs_nI (by omega)] at hz_58
          obtain ⟨hP, hD⟩ := cr_back (wr := []) (w1 := [(mo, .inr (2, [.int (nI 0), .ref l1, .ref l2, .int (nI n), .ref l3, .ref l4, .int (nI nk), .ref l5, .ref l6, .int (nI 0), .ref l7, .ref l8, .ref l9, .int by0, .int fd])), (l1, .inl (cI, 2400, .inl f)), (l2, .inl (cI, 2400, .inl g)), (l3, .inl (cI, 2400, .inl kf)), (l4, .inl (cI, 2400, .inl kg)), (l5, .inl (cI, 4800, .inl ef)), (l6, .inl (cI, 4800, .inl eg)), (l7, .inl (cZ, 1120, .inl mt1)), (l8, .inl (cI, 4, .inl fr)), (l9, .inl (cI, 4, .inl tt))]) hP hD [0, 1, 2, 3, 4, 5, 6, 7, 8, 9] [] rfl rfl (by decide) (by decide) hk_58 hFc hB_58 ht_58
          clear hPc hDc hFc
          generalize H_58 = H at hP hS ⊢
          have hP := hP.sub (ws' := [(mo, .inr (2, [.int (nI 0), .ref l1, .ref l2, .int (nI n), .ref l3, .ref l4, .int (nI nk), .ref l5, .ref l6, .int (nI 0), .ref l7, .ref l8, .ref l9, .int by0, .int fd])), (l1, .inl (cI, 2400, .inl f)), (l2, .inl (cI, 2400, .inl g)), (l3, .inl (cI, 2400, .inl kf)), (l4, .inl (cI, 2400, .inl kg)), (l5, .inl (cI, 4800, .inl ef)), (l6, .inl (cI, 4800, .inl eg)), (l7, .inl (cZ, 1120, .inl mt1)), (l8, .inl (cI, 4, .inl fr)), (l9, .inl (cI, 4, .inl tt))]) [0, 1, 2, 3, 4, 5, 6, 7, 8, 9] rfl
          have hD := hD.sub (ws' := [(mo, .inr (2, [.int (nI 0), .ref l1, .ref l2, .int (nI n), .ref l3, .ref l4, .int (nI nk), .ref l5, .ref l6, .int (nI 0), .ref l7, .ref l8, .ref l9, .int by0, .int fd])), (l1, .inl (cI, 2400, .inl f)), (l2, .inl (cI, 2400, .inl g)), (l3, .inl (cI, 2400, .inl kf)), (l4, .inl (cI, 2400, .inl kg)), (l5, .inl (cI, 4800, .inl ef)), (l6, .inl (cI, 4800, .inl eg)), (l7, .inl (cZ, 1120, .inl mt1)), (l8, .inl (cI, 4, .inl fr)), (l9, .inl (cI, 4, .inl tt))]) [0, 1, 2, 3, 4, 5, 6, 7, 8, 9] (by decide) rfl
          rcases hz_58 with ⟨rfl, ka2⟩ | ⟨rfl, ka2⟩
          · refine lv_if_eq (tgt := 68) hx hb dM_fold_61 (by decide) (fun c_61 => ?_) (fun c_61 => ?_)
            · exact absurd c_61 (by decide)
            · refine lv_iconst (v := nI 1) hx hb dM_fold_64 (by decide) ?_
              refine lv_goto (tgt := 69) hx hb dM_fold_65 (by decide) ?_
              refine va_zast hx hb hK hP hD hS 7 1 rfl rfl (vp_in_nI (by omega) (by omega)) dM_fold_69 (fun H locs hP hD hS => ?_)
              have hP : va_P (dC, dI) crCl [(mo, .inr (2, [.int (nI 0), .ref l1, .ref l2, .int (nI n), .ref l3, .ref l4, .int (nI nk), .ref l5, .ref l6, .int (nI 0), .ref l7, .ref l8, .ref l9, .int by0, .int fd])), (l1, .inl (cI, 2400, .inl f)), (l2, .inl (cI, 2400, .inl g)), (l3, .inl (cI, 2400, .inl kf)), (l4, .inl (cI, 2400, .inl kg)), (l5, .inl (cI, 4800, .inl ef)), (l6, .inl (cI, 4800, .inl eg)), (l7, .inl (cZ, 1120, .inl (upd mt1 (nI (cr_sf k)).toNatClampNeg (vp_nar .boolean (nI 1))))), (l8, .inl (cI, 4, .inl fr)), (l9, .inl (cI, 4, .inl tt))] H := hP
              have hD : va_D A [(mo, .inr (2, [.int (nI 0), .ref l1, .ref l2, .int (nI n), .ref l3, .ref l4, .int (nI nk), .ref l5, .ref l6, .int (nI 0), .ref l7, .ref l8, .ref l9, .int by0, .int fd])), (l1, .inl (cI, 2400, .inl f)), (l2, .inl (cI, 2400, .inl g)), (l3, .inl (cI, 2400, .inl kf)), (l4, .inl (cI, 2400, .inl kg)), (l5, .inl (cI, 4800, .inl ef)), (l6, .inl (cI, 4800, .inl eg)), (l7, .inl (cZ, 1120, .inl (upd mt1 (nI (cr_sf k)).toNatClampNeg (vp_nar .boolean (nI 1))))), (l8, .inl (cI, 4, .inl fr)), (l9, .inl (cI, 4, .inl tt))] := hD
              rw [nI_clamp (show cr_sf k < 2 ^ 31 by omega), show vp_nar .boolean (nI 1) = nI 1 from rfl] at hP hD
              refine lv_iinc (v := nI (k + 1)) (lv' := [(1, .int (nI (k + 1))), (0, .ref mo)]) hx hb dM_fold_70 hl (k := 1) rfl (nI_add k 1) (by decide) rfl (fun ls hl => ?_)
              refine lv_goto (tgt := 29) hx hb dM_fold_73 (by decide) ?_
              exact ih29 (k + 1) (upd mt1 (cr_sf k) (nI 1)) _ _ _ ⟨⟨by omega, cr_met_s h2 (Or.inl ⟨rfl, Or.inr ka2⟩)⟩, hP, hD, hS, lv_sub hl [1, 0] rfl⟩ (by omega)
          · refine lv_if_eq (tgt := 68) hx hb dM_fold_61 (by decide) (fun c_61 => ?_) (fun c_61 => ?_)
            · refine lv_iconst (v := nI 0) hx hb dM_fold_68 (by decide) ?_
              refine va_zast hx hb hK hP hD hS 7 1 rfl rfl (vp_in_nI (by omega) (by omega)) dM_fold_69 (fun H locs hP hD hS => ?_)
              have hP : va_P (dC, dI) crCl [(mo, .inr (2, [.int (nI 0), .ref l1, .ref l2, .int (nI n), .ref l3, .ref l4, .int (nI nk), .ref l5, .ref l6, .int (nI 0), .ref l7, .ref l8, .ref l9, .int by0, .int fd])), (l1, .inl (cI, 2400, .inl f)), (l2, .inl (cI, 2400, .inl g)), (l3, .inl (cI, 2400, .inl kf)), (l4, .inl (cI, 2400, .inl kg)), (l5, .inl (cI, 4800, .inl ef)), (l6, .inl (cI, 4800, .inl eg)), (l7, .inl (cZ, 1120, .inl (upd mt1 (nI (cr_sf k)).toNatClampNeg (vp_nar .boolean (nI 0))))), (l8, .inl (cI, 4, .inl fr)), (l9, .inl (cI, 4, .inl tt))] H := hP
              have hD : va_D A [(mo, .inr (2, [.int (nI 0), .ref l1, .ref l2, .int (nI n), .ref l3, .ref l4, .int (nI nk), .ref l5, .ref l6, .int (nI 0), .ref l7, .ref l8, .ref l9, .int by0, .int fd])), (l1, .inl (cI, 2400, .inl f)), (l2, .inl (cI, 2400, .inl g)), (l3, .inl (cI, 2400, .inl kf)), (l4, .inl (cI, 2400, .inl kg)), (l5, .inl (cI, 4800, .inl ef)), (l6, .inl (cI, 4800, .inl eg)), (l7, .inl (cZ, 1120, .inl (upd mt1 (nI (cr_sf k)).toNatClampNeg (vp_nar .boolean (nI 0))))), (l8, .inl (cI, 4, .inl fr)), (l9, .inl (cI, 4, .inl tt))] := hD
              rw [nI_clamp (show cr_sf k < 2 ^ 31 by omega), show vp_nar .boolean (nI 0) = nI 0 from rfl] at hP hD
              refine lv_iinc (v := nI (k + 1)) (lv' := [(1, .int (nI (k + 1))), (0, .ref mo)]) hx hb dM_fold_70 hl (k := 1) rfl (nI_add k 1) (by decide) rfl (fun ls hl => ?_)
              refine lv_goto (tgt := 29) hx hb dM_fold_73 (by decide) ?_
              exact ih29 (k + 1) (upd mt1 (cr_sf k) (nI 0)) _ _ _ ⟨⟨by omega, cr_met_s h2 (Or.inr ⟨rfl, fun q => q.elim ka1 ka2⟩)⟩, hP, hD, hS, lv_sub hl [1, 0] rfl⟩ (by omega)
            · exact absurd (by decide) c_61
  · rw [nI_leI (by omega) (by omega)] at c_11
    refine lv_aload_n hx hb dM_fold_14 rfl (lv_at hl 0 rfl) ?_
    refine va_get (D := (dC, dI)) (ci := 2) (v := .ref l7) (C := RX2) (T := TM) (N := 15) hx hb hts (wsM00_in _) hown hK hP 0 rfl rfl 10 (by decide) (hts (.fieldLink RX2 28 "CharRowsModel" "met" "[Z") (by decide +kernel)) (fun _ h9 => h9) rfl dM_fold_15 ?_
    refine lv_iload_n hx hb dM_fold_18 rfl (lv_at hl 1 rfl) ?_
    refine lv_iconst (v := nI 0) hx hb dM_fold_19 (by decide) ?_
    refine va_zast hx hb hK hP hD hS 7 1 rfl rfl (vp_in_nI (by omega) (by omega)) dM_fold_20 (fun H locs hP hD hS => ?_)
    have hP : va_P (dC, dI) crCl [(mo, .inr (2, [.int (nI 0), .ref l1, .ref l2, .int (nI n), .ref l3, .ref l4, .int (nI nk), .ref l5, .ref l6, .int (nI 0), .ref l7, .ref l8, .ref l9, .int by0, .int fd])), (l1, .inl (cI, 2400, .inl f)), (l2, .inl (cI, 2400, .inl g)), (l3, .inl (cI, 2400, .inl kf)), (l4, .inl (cI, 2400, .inl kg)), (l5, .inl (cI, 4800, .inl ef)), (l6, .inl (cI, 4800, .inl eg)), (l7, .inl (cZ, 1120, .inl (upd mt1 (nI k).toNatClampNeg (vp_nar .boolean (nI 0))))), (l8, .inl (cI, 4, .inl fr)), (l9, .inl (cI, 4, .inl tt))] H := hP
    have hD : va_D A [(mo, .inr (2, [.int (nI 0), .ref l1, .ref l2, .int (nI n), .ref l3, .ref l4, .int (nI nk), .ref l5, .ref l6, .int (nI 0), .ref l7, .ref l8, .ref l9, .int by0, .int fd])), (l1, .inl (cI, 2400, .inl f)), (l2, .inl (cI, 2400, .inl g)), (l3, .inl (cI, 2400, .inl kf)), (l4, .inl (cI, 2400, .inl kg)), (l5, .inl (cI, 4800, .inl ef)), (l6, .inl (cI, 4800, .inl eg)), (l7, .inl (cZ, 1120, .inl (upd mt1 (nI k).toNatClampNeg (vp_nar .boolean (nI 0))))), (l8, .inl (cI, 4, .inl fr)), (l9, .inl (cI, 4, .inl tt))] := hD
    rw [nI_clamp (show k < 2 ^ 31 by omega), show vp_nar .boolean (nI 0) = nI 0 from rfl] at hP hD
    refine lv_iinc (v := nI (k + 1)) (lv' := [(1, .int (nI (k + 1))), (0, .ref mo)]) hx hb dM_fold_21 hl (k := 1) rfl (nI_add k 1) (by decide) rfl (fun ls hl => ?_)
    refine lv_goto (tgt := 7) hx hb dM_fold_24 (by decide) ?_
    exact ih7 (k + 1) (upd mt1 k (nI 0)) _ _ _ ⟨⟨by omega, cr_zero_s h2⟩, hP, hD, hS, lv_sub hl [1, 0] rfl⟩ (by omega)

