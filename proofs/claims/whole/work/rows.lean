section
-- ===== PART A: goes FIRST, ahead of the names: the tables' words, and 'selects' of the private methods out of them =====
/-- a private method of a class that the tables say can be made, by its rows of tables_1 -/
def lw_okq (q : MethodName × Nat) : Prop := (q.1.cls ≠ "java/lang/invoke/MethodHandle" ∧ q.1.cls ≠ "java/lang/invoke/VarHandle") ∧ Cond.instantiable q.1.cls q.2 ∈ tables_1 ∧ Cond.privateMethod q.1 ∈ tables_1 ∧ Cond.instanceMethod q.1 ∈ tables_1
theorem lw_p0 : lw_okq (⟨"CharRows$Ranges", "empty", "()V"⟩, 3) := ⟨⟨by decide +kernel, by decide +kernel⟩, List.mem_of_getElem? (i := 19) (by decide +kernel), List.mem_of_getElem? (i := 53) (by decide +kernel), List.mem_of_getElem? (i := 54) (by decide +kernel)⟩
theorem lw_p1 : lw_okq (⟨"CharRows", "foldLetters", "()V"⟩, 3) := ⟨⟨by decide +kernel, by decide +kernel⟩, List.mem_of_getElem? (i := 11) (by decide +kernel), List.mem_of_getElem? (i := 61) (by decide +kernel), List.mem_of_getElem? (i := 62) (by decide +kernel)⟩
theorem lw_p2 : lw_okq (⟨"CharRows", "foldTwo", "(II)V"⟩, 3) := ⟨⟨by decide +kernel, by decide +kernel⟩, List.mem_of_getElem? (i := 11) (by decide +kernel), List.mem_of_getElem? (i := 67) (by decide +kernel), List.mem_of_getElem? (i := 68) (by decide +kernel)⟩
theorem lw_p3 : lw_okq (⟨"CharRows$Ranges", "holds", "(I)Z"⟩, 3) := ⟨⟨by decide +kernel, by decide +kernel⟩, List.mem_of_getElem? (i := 19) (by decide +kernel), List.mem_of_getElem? (i := 71) (by decide +kernel), List.mem_of_getElem? (i := 72) (by decide +kernel)⟩
theorem lw_p4 : lw_okq (⟨"CharRows$Ranges", "firstEndingFrom", "(I)I"⟩, 3) := ⟨⟨by decide +kernel, by decide +kernel⟩, List.mem_of_getElem? (i := 19) (by decide +kernel), List.mem_of_getElem? (i := 75) (by decide +kernel), List.mem_of_getElem? (i := 76) (by decide +kernel)⟩
theorem lw_p5 : lw_okq (⟨"CharRows$Ranges", "put", "(II)V"⟩, 3) := ⟨⟨by decide +kernel, by decide +kernel⟩, List.mem_of_getElem? (i := 19) (by decide +kernel), List.mem_of_getElem? (i := 79) (by decide +kernel), List.mem_of_getElem? (i := 80) (by decide +kernel)⟩
theorem lw_p6 : lw_okq (⟨"CharRows$Ranges", "insert", "(III)V"⟩, 3) := ⟨⟨by decide +kernel, by decide +kernel⟩, List.mem_of_getElem? (i := 19) (by decide +kernel), List.mem_of_getElem? (i := 83) (by decide +kernel), List.mem_of_getElem? (i := 84) (by decide +kernel)⟩
theorem lw_p7 : lw_okq (⟨"CharRows$Ranges", "shift", "(II)V"⟩, 3) := ⟨⟨by decide +kernel, by decide +kernel⟩, List.mem_of_getElem? (i := 19) (by decide +kernel), List.mem_of_getElem? (i := 87) (by decide +kernel), List.mem_of_getElem? (i := 88) (by decide +kernel)⟩
theorem lw_p8 : lw_okq (⟨"CharRows$Ranges", "unite", "(IIII)V"⟩, 3) := ⟨⟨by decide +kernel, by decide +kernel⟩, List.mem_of_getElem? (i := 19) (by decide +kernel), List.mem_of_getElem? (i := 94) (by decide +kernel), List.mem_of_getElem? (i := 95) (by decide +kernel)⟩
theorem lw_p9 : lw_okq (⟨"CharRows", "foldPairs", "()V"⟩, 3) := ⟨⟨by decide +kernel, by decide +kernel⟩, List.mem_of_getElem? (i := 11) (by decide +kernel), List.mem_of_getElem? (i := 104) (by decide +kernel), List.mem_of_getElem? (i := 105) (by decide +kernel)⟩
theorem lw_p10 : lw_okq (⟨"CharRows$Ranges", "become", "(LCharRows$Ranges;)V"⟩, 3) := ⟨⟨by decide +kernel, by decide +kernel⟩, List.mem_of_getElem? (i := 19) (by decide +kernel), List.mem_of_getElem? (i := 126) (by decide +kernel), List.mem_of_getElem? (i := 127) (by decide +kernel)⟩
theorem lw_p11 : lw_okq (⟨"CharRows", "firstOfRow", "(I)I"⟩, 3) := ⟨⟨by decide +kernel, by decide +kernel⟩, List.mem_of_getElem? (i := 11) (by decide +kernel), List.mem_of_getElem? (i := 167) (by decide +kernel), List.mem_of_getElem? (i := 168) (by decide +kernel)⟩
theorem lw_p12 : lw_okq (⟨"CharRows$Ranges", "endAround", "(I)I"⟩, 3) := ⟨⟨by decide +kernel, by decide +kernel⟩, List.mem_of_getElem? (i := 19) (by decide +kernel), List.mem_of_getElem? (i := 181) (by decide +kernel), List.mem_of_getElem? (i := 182) (by decide +kernel)⟩
theorem lw_p13 : lw_okq (⟨"java/lang/Throwable", "fillInStackTrace", "(I)Ljava/lang/Throwable;"⟩, 6) := ⟨⟨by decide +kernel, by decide +kernel⟩, List.mem_of_getElem? (i := 242) (by decide +kernel), List.mem_of_getElem? (i := 240) (by decide +kernel), List.mem_of_getElem? (i := 241) (by decide +kernel)⟩
theorem lw_p14 : lw_okq (⟨"CharRowsModel", "putsSet", "()V"⟩, 15) := ⟨⟨by decide +kernel, by decide +kernel⟩, List.mem_of_getElem? (i := 272) (by decide +kernel), List.mem_of_getElem? (i := 334) (by decide +kernel), List.mem_of_getElem? (i := 335) (by decide +kernel)⟩
theorem lw_p15 : lw_okq (⟨"CharRowsModel", "puts", "(II)V"⟩, 15) := ⟨⟨by decide +kernel, by decide +kernel⟩, List.mem_of_getElem? (i := 272) (by decide +kernel), List.mem_of_getElem? (i := 338) (by decide +kernel), List.mem_of_getElem? (i := 339) (by decide +kernel)⟩
def lw_privs_1 : List (MethodName × Nat) := [(⟨"CharRows$Ranges", "empty", "()V"⟩, 3), (⟨"CharRows", "foldLetters", "()V"⟩, 3), (⟨"CharRows", "foldTwo", "(II)V"⟩, 3), (⟨"CharRows$Ranges", "holds", "(I)Z"⟩, 3), (⟨"CharRows$Ranges", "firstEndingFrom", "(I)I"⟩, 3), (⟨"CharRows$Ranges", "put", "(II)V"⟩, 3), (⟨"CharRows$Ranges", "insert", "(III)V"⟩, 3), (⟨"CharRows$Ranges", "shift", "(II)V"⟩, 3), (⟨"CharRows$Ranges", "unite", "(IIII)V"⟩, 3), (⟨"CharRows", "foldPairs", "()V"⟩, 3), (⟨"CharRows$Ranges", "become", "(LCharRows$Ranges;)V"⟩, 3), (⟨"CharRows", "firstOfRow", "(I)I"⟩, 3), (⟨"CharRows$Ranges", "endAround", "(I)I"⟩, 3), (⟨"java/lang/Throwable", "fillInStackTrace", "(I)Ljava/lang/Throwable;"⟩, 6), (⟨"CharRowsModel", "putsSet", "()V"⟩, 15), (⟨"CharRowsModel", "puts", "(II)V"⟩, 15)]
theorem lw_r1 : ∀ q ∈ lw_privs_1, lw_okq q := List.forall_mem_cons.mpr ⟨lw_p0, List.forall_mem_cons.mpr ⟨lw_p1, List.forall_mem_cons.mpr ⟨lw_p2, List.forall_mem_cons.mpr ⟨lw_p3, List.forall_mem_cons.mpr ⟨lw_p4, List.forall_mem_cons.mpr ⟨lw_p5, List.forall_mem_cons.mpr ⟨lw_p6, List.forall_mem_cons.mpr ⟨lw_p7, List.forall_mem_cons.mpr ⟨lw_p8, List.forall_mem_cons.mpr ⟨lw_p9, List.forall_mem_cons.mpr ⟨lw_p10, List.forall_mem_cons.mpr ⟨lw_p11, List.forall_mem_cons.mpr ⟨lw_p12, List.forall_mem_cons.mpr ⟨lw_p13, List.forall_mem_cons.mpr ⟨lw_p14, List.forall_mem_cons.mpr ⟨lw_p15, fun _ h => absurd h List.not_mem_nil⟩⟩⟩⟩⟩⟩⟩⟩⟩⟩⟩⟩⟩⟩⟩⟩
theorem lw_p16 : lw_okq (⟨"CharRowsModel", "gathers", "()I"⟩, 15) := ⟨⟨by decide +kernel, by decide +kernel⟩, List.mem_of_getElem? (i := 272) (by decide +kernel), List.mem_of_getElem? (i := 345) (by decide +kernel), List.mem_of_getElem? (i := 346) (by decide +kernel)⟩
theorem lw_p17 : lw_okq (⟨"CharRowsModel", "isIn", "(I)Z"⟩, 15) := ⟨⟨by decide +kernel, by decide +kernel⟩, List.mem_of_getElem? (i := 272) (by decide +kernel), List.mem_of_getElem? (i := 372) (by decide +kernel), List.mem_of_getElem? (i := 373) (by decide +kernel)⟩
theorem lw_p18 : lw_okq (⟨"CharRowsModel", "finds", "(I)Z"⟩, 15) := ⟨⟨by decide +kernel, by decide +kernel⟩, List.mem_of_getElem? (i := 272) (by decide +kernel), List.mem_of_getElem? (i := 392) (by decide +kernel), List.mem_of_getElem? (i := 393) (by decide +kernel)⟩
theorem lw_p19 : lw_okq (⟨"CharRowsModel", "runs", "(II)I"⟩, 15) := ⟨⟨by decide +kernel, by decide +kernel⟩, List.mem_of_getElem? (i := 272) (by decide +kernel), List.mem_of_getElem? (i := 396) (by decide +kernel), List.mem_of_getElem? (i := 397) (by decide +kernel)⟩
theorem lw_p20 : lw_okq (⟨"CharRowsModel", "isRow", "(II)Z"⟩, 15) := ⟨⟨by decide +kernel, by decide +kernel⟩, List.mem_of_getElem? (i := 272) (by decide +kernel), List.mem_of_getElem? (i := 400) (by decide +kernel), List.mem_of_getElem? (i := 401) (by decide +kernel)⟩
def lw_privs_2 : List (MethodName × Nat) := [(⟨"CharRowsModel", "gathers", "()I"⟩, 15), (⟨"CharRowsModel", "isIn", "(I)Z"⟩, 15), (⟨"CharRowsModel", "finds", "(I)Z"⟩, 15), (⟨"CharRowsModel", "runs", "(II)I"⟩, 15), (⟨"CharRowsModel", "isRow", "(II)Z"⟩, 15)]
theorem lw_r2 : ∀ q ∈ lw_privs_2, lw_okq q := List.forall_mem_cons.mpr ⟨lw_p16, List.forall_mem_cons.mpr ⟨lw_p17, List.forall_mem_cons.mpr ⟨lw_p18, List.forall_mem_cons.mpr ⟨lw_p19, List.forall_mem_cons.mpr ⟨lw_p20, fun _ h => absurd h List.not_mem_nil⟩⟩⟩⟩⟩
def lw_privs : List (MethodName × Nat) := lw_privs_1 ++ (lw_privs_2)
def lw_tbl : List Cond := k2_sels lw_privs ++ tables_1
theorem lw_privs_ok : ∀ q ∈ lw_privs, lw_okq q := by
  show ∀ q ∈ lw_privs_1 ++ (lw_privs_2), lw_okq q
  exact List.forall_mem_append.mpr ⟨lw_r1, lw_r2⟩
end
section
/-! ===== BEGIN words of one list among another's, by their places ===== -/
theorem goodIn_r {big : List Cond} (ws : List Cond) (ps : List Nat) (hp : ws = ps.filterMap (fun i => big[i]?)) (h : ws.all goodWord = true) : GoodIn big ws := by
  intro w hw
  have h1 := List.all_eq_true.mp h w hw
  rw [hp] at hw
  obtain ⟨i, -, hi⟩ := List.mem_filterMap.mp hw
  have hm : w ∈ big := by first | exact List.mem_of_getElem? hi | exact List.getElem?_mem hi
  exact ⟨hm, good_of_word h1⟩
theorem goodIn_app {big a b : List Cond} (ha : GoodIn big a) (hb : GoodIn big b) : GoodIn big (a ++ b) := fun w h => (List.mem_append.mp h).elim (ha w) (hb w)
theorem goodIn_ca {big a b : List Cond} {c : Cond} (ha : GoodIn big (c :: a)) (hb : GoodIn big b) : GoodIn big (c :: (a ++ b)) := fun w h => (List.mem_cons.mp h).elim (fun e => ha w (List.mem_cons.mpr (Or.inl e))) (fun h => (List.mem_append.mp h).elim (fun h => ha w (List.mem_cons.mpr (Or.inr h))) (hb w))
theorem goodIn_sub {big ws : List Cond} (hm : ∀ w ∈ ws, w ∈ big) (h : ws.all goodWord = true) : GoodIn big ws := fun w hw => ⟨hm w hw, good_of_word (List.all_eq_true.mp h w hw)⟩
/-! ===== END ===== -/

/-! ===== BEGIN exceptions that leave a method, and their catching by the caller (launches without stack traces) ===== -/
section VXA
/-! The laws vx_back, vx_callV, vx_callS, vx_callSW, vx_throw0, vx_throwS follow proofs of the library, with one case more: JvmDerived/Free/Laws.lean (Back.of_free), Shelf42/LK1.lean (callV, callS), Shelf/KitTraced.lean (throwNew0V, throwNewS). -/
/-- where a method has thrown q: the class by its name, the cell, what was written, the world -/
def vx_T (XC : String → State → State → Prop) (st : State) (q : Addr) (t : State) (mc ms : Nat) (free : Addr → Prop) : Prop :=
  ∃ (E : String) (ce : Cell) (L : List Loc), XC E st t ∧ t.heap[q]? = some ce ∧ ce.vm = .none ∧ st.vm.findClass E = some ce.cls ∧ st.WarmedH t.vm ∧ st.sameButNew ({ t with vm := st.vm } : State) L mc ms ∧ ∀ z ∈ L, free z.base
def vx_Q (Qc : Array Value → State → Outcome → State → Prop) (XC : String → State → State → Prop) (mc ms : Nat) (free : Addr → Prop) : Array Value → State → Outcome → State → Prop := fun a st o t =>
  (Qc a st o t ∧ ∃ L, FrameEnd st o t L mc ms ∧ ∀ q ∈ L, free q.base) ∨ ∃ q, o = .threw q ∧ vx_T XC st q t mc ms free
/-- a callee that returns or throws -/
def vx_Met (l : Launch) (y : MethodName) (ws : List Cond) (rm : Room) (Pc : Array Value → State → Prop) (Qc : Array Value → State → Outcome → State → Prop) (XC : String → State → State → Prop) (mc ms : Nat) (free : Addr → Prop) : Prop :=
  MetFree l y (headSpec ws rm) Pc (fun _ _ _ _ _ => True) (vx_Q Qc XC mc ms free)
def vx_Post (XC : String → State → State → Prop) (mc ms : Nat) (free : Addr → Prop) : Pt → Array Value → Addr → Pt → Prop := fun A a q B =>
  ∃ (g : JFrame) (mk : MethodId) (t : State) (L : List Loc) (E : String) (ce : Cell), B.U.heap = t.heap ∧ B.U.vm = t.vm ∧ XC E (A.U.calling g mk a) t ∧ t.heap[q]? = some ce ∧ ce.vm = .none ∧ A.U.vm.findClass E = some ce.cls ∧ B.locs = A.locs ++ L ∧ (∀ z ∈ L, free z.base) ∧ B.cells = A.cells + mc ∧ B.slots = A.slots + ms
def vx_Back (l : Launch) (R : Room) (p : Program) (e : Env) (below : List Frame) (s : State) (sargs : Array Value) (y : MethodName) (len W9 : Nat)
    (Pre : Pt → Array Value → Prop) (Post : Pt → Array Value → Option Value → Pt → Prop) (PostX : Pt → Array Value → Addr → Pt → Prop) : Prop :=
  ∀ (m : MethodId) (meth : Method) (c : Code) (A : Pt) (g : JFrame) (ig : Instr) (mk : MethodId) (a : Array Value),
    Stand p l e R s m sargs below meth c A.U A.locs A.cells A.slots → g.method = m → g.locals.size = c.maxLocals → decode c.code g.pc = .ok (ig, len) →
    2 * g.monitorRoom + (g.stack.map fun v => v.category).sum ≤ W9 → A.U.methodNamed? y = some mk → Pre A a →
    (∃ (v : Option Value) (B : Pt), Stand p l e R s m sargs below meth c B.U B.locs B.cells B.slots ∧ Post A a v B ∧
      Steps p.tables e below (doInvoke e (A.U.setTop g) [] mk a).1 (B.U.setTop { g with pc := g.pc + len, stack := v.toList ++ g.stack })) ∨
    (∃ (q : Addr) (B : Pt), Stand p l e R s m sargs below meth c B.U B.locs B.cells B.slots ∧ PostX A a q B ∧
      Steps p.tables e below (doInvoke e (A.U.setTop g) [] mk a).1 ((B.U.setTop g).pushFrame (.throwing q)))
section Payer
variable {l : Launch} {R : Room} {p : Program} {e : Env} {below : List Frame} {s : State} {sargs : Array Value} {y : MethodName} {len W9 : Nat}
theorem vx_back {ws : List Cond} {rm : Room} {Pc : Array Value → State → Prop} {Qc : Array Value → State → Outcome → State → Prop} {XC : String → State → State → Prop} {mc ms : Nat} {free : Addr → Prop} {bytes : ByteArray} {maxL : Nat} {ret : Option FieldType}
    (hM : vx_Met l y ws rm Pc Qc XC mc ms free) (hblind : FrameBlind Pc) (hrc : rm.cells = mc) (hrs : rm.slots = ms)
    (hframes : rm.frames + 1 ≤ R.frames) (hlocals : W9 + (maxL + 11) + rm.locals ≤ R.locals)
    (hws : ∀ w ∈ ws, ∀ a' U, s.WarmedH U.vm → w.before a' U = true) (hcode : Cond.code y bytes maxL ret ∈ ws) (hinit : ∀ a' U, s.WarmedH U.vm → (Cond.initialized y.cls).before a' U = true) :
    vx_Back l R p e below s sargs y len W9 (PreOf R mc ms Pc) (PostOf Qc mc ms free) (vx_Post XC mc ms free) := by
  intro m meth c A g ig mk a X hg hsize hdg hW hn hp
  have h1 : (headSpec ws rm).pre.before a A.U = true := atoms_intro fun w hw => hws w hw _ _ X.warmed
  have h2 : (Cond.code y bytes maxL ret).before a A.U = true := hws _ hcode _ _ X.warmed
  have h3 : (Cond.initialized y.cls).before a A.U = true := hinit _ _ X.warmed
  have h4 : A.cells + (headSpec ws rm).room.cells ≤ R.cells := by rw [show (headSpec ws rm).room.cells = mc from hrc]; exact hp.1
  have h5 : A.slots + (headSpec ws rm).room.slots ≤ R.slots := by rw [show (headSpec ws rm).room.slots = ms from hrs]; exact hp.2.1
  have hPc : Pc a (A.U.calling g mk a) := hblind _ _ _ _ hp.2.2
  obtain ⟨U, Ls, c0, s0⟩ := A
  dsimp only [Pt.U, Pt.locs, Pt.cells, Pt.slots] at h1 h2 h3 h4 h5 X hn hPc ⊢
  obtain ⟨methY, cY, hmY, hcY, -, hlY, -, -, -, -⟩ := Cond.code_spec hn h2
  obtain ⟨kY, hkY, -⟩ := className_of_methodNamed hn
  have hinitY : kY.init = .initialized := Cond.initialized_spec (findClass_of_methodNamed hn) hkY h3
  have h : At U g.method c below := by rw [hg]; exact X.here
  have hlocals9 : W9 + (maxL + 11) + (headSpec ws rm).room.locals ≤ R.locals := hlocals
  have happ : (headSpec ws rm).appliesLoose y e.platform (U.calling g mk a) = true :=
    Spec.appliesLoose_calling (g := g) h hdg hn hkY hinitY
      (X.room_calling (g := g) (R' := (headSpec ws rm).room) hsize hmY hcY hframes (by rw [hlY]; omega) h4 h5) h1
  obtain ⟨mid, hmid⟩ := h.above
  have hfr : (U.setTop g).frames = (.java g :: mid) ++ below := by rw [State.frames_setTop' g h.top, hmid]; rfl
  obtain ⟨o, s₂, hsteps, -, hend, hq⟩ := Steps.callFree hM p X.admits X.cas X.clock (acts := []) hfr happ hPc trivial
  have hq' : vx_Q Qc XC mc ms free a (U.calling g mk a) o s₂ := hq
  rw [State.frames_setTop' g h.top] at hend
  obtain ⟨g₀, hg0⟩ := Option.isSome_iff_exists.mp h.top
  obtain ⟨r, hr⟩ := State.topJava?_eq_some.mp hg0
  have hr' : (({ U with heap := s₂.heap, slotsUsed := s₂.slotsUsed } : State).setVm s₂.vm).frames = .java g₀ :: r := hr
  rcases hq' with ⟨hqc, L, hfe, hL⟩ | ⟨q, rfl, E, ce, L, hx, hce, hcv, hcl, hW₂, hsm, hL⟩
  · obtain ⟨⟨v, rfl⟩, hW₂, e2, q2, q3, q4, q5, q6⟩ := id hfe
    have e3 : s₂ = ({ (U.calling g mk a).setFrames s₂.frames with heap := s₂.heap, slotsUsed := s₂.slotsUsed } : State).setVm s₂.vm := by
      have : s₂ = ({ s₂ with vm := (U.calling g mk a).vm } : State).setVm s₂.vm := rfl
      rw [e2] at this
      exact this
    obtain ⟨c₂, i₂, len₂, hc₂, hd₂, hf₂⟩ := hend
    have hW' : U.WarmedH s₂.vm := hW₂
    have hcc : c₂ = c := by
      have h1 : s₂.code? g.method = U.code? g.method := by
        rw [State.code?_eq, State.code?_eq, hW'.alike.method?]
      exact Option.some.inj (hc₂.symm.trans (h1.trans h.code))
    subst hcc
    have hlen : len₂ = len := by rw [hdg] at hd₂; cases hd₂; rfl
    subst hlen
    have hs₂ : s₂ = (({ U with heap := s₂.heap, slotsUsed := s₂.slotsUsed } : State).setVm s₂.vm).setTop { g with pc := g.pc + len₂, stack := v.toList ++ g.stack } := by
      refine e3.trans ?_
      rw [hf₂, State.calling_eq h.top, State.setFrames_setFrames, State.setTop_of_frames _ hr', hr]
      rfl
    have hsame : U.sameButNew ({ U with heap := s₂.heap, slotsUsed := s₂.slotsUsed } : State) L mc ms := by
      refine ⟨?_, q2, q3, q4, q5, q6⟩
      obtain ⟨t, ht, -⟩ := State.frames_cons hr
      show ({ U with heap := s₂.heap, slotsUsed := s₂.slotsUsed } : State) = { U.setFrames U.frames with heap := s₂.heap, slotsUsed := s₂.slotsUsed }
      rw [State.setFrames_self ht]
    subst hg
    refine Or.inl ⟨v, ⟨(({ U with heap := s₂.heap, slotsUsed := s₂.slotsUsed } : State).setVm s₂.vm), Ls ++ L, c0 + mc, s0 + ms⟩,
      ⟨X.admits, X.cas, X.clock, X.frames, X.room, X.hears, X.method, X.code, (X.here.setHeapUsed s₂.heap s₂.slotsUsed).setVm hW'.alike, X.tail, State.WarmedH.trans X.warmed hW', X.limits, X.bytes, X.same.trans (hsame.setVm s.vm)⟩,
      ⟨g, mk, s₂, L, rfl, rfl, hqc, rfl, hL, rfl, rfl⟩, ?_⟩
    show Steps p.tables e below _ ((({ U with heap := s₂.heap, slotsUsed := s₂.slotsUsed } : State).setVm s₂.vm).setTop { g with pc := g.pc + len₂, stack := v.toList ++ g.stack })
    rw [← hs₂]
    exact hsteps
  · obtain ⟨e2, q2, q3, q4, q5, q6⟩ := id hsm
    have e3 : s₂ = ({ (U.calling g mk a).setFrames s₂.frames with heap := s₂.heap, slotsUsed := s₂.slotsUsed } : State).setVm s₂.vm := by
      have : s₂ = ({ s₂ with vm := (U.calling g mk a).vm } : State).setVm s₂.vm := rfl
      rw [e2] at this
      exact this
    have hf₂ : s₂.frames = .throwing q :: .java g :: U.frames.tail := hend
    have hW' : U.WarmedH s₂.vm := hW₂
    have hs₂ : s₂ = ((({ U with heap := s₂.heap, slotsUsed := s₂.slotsUsed } : State).setVm s₂.vm).setTop g).pushFrame (.throwing q) := by
      refine e3.trans ?_
      rw [hf₂, State.calling_eq h.top, State.setFrames_setFrames, State.pushFrame, State.frames_setTop _ hr', State.setTop_of_frames _ hr', State.setFrames_setFrames, hr]
      rfl
    have hsame : U.sameButNew ({ U with heap := s₂.heap, slotsUsed := s₂.slotsUsed } : State) L mc ms := by
      refine ⟨?_, q2, q3, q4, q5, q6⟩
      obtain ⟨t, ht, -⟩ := State.frames_cons hr
      show ({ U with heap := s₂.heap, slotsUsed := s₂.slotsUsed } : State) = { U.setFrames U.frames with heap := s₂.heap, slotsUsed := s₂.slotsUsed }
      rw [State.setFrames_self ht]
    subst hg
    refine Or.inr ⟨q, ⟨(({ U with heap := s₂.heap, slotsUsed := s₂.slotsUsed } : State).setVm s₂.vm), Ls ++ L, c0 + mc, s0 + ms⟩,
      ⟨X.admits, X.cas, X.clock, X.frames, X.room, X.hears, X.method, X.code, (X.here.setHeapUsed s₂.heap s₂.slotsUsed).setVm hW'.alike, X.tail, State.WarmedH.trans X.warmed hW', X.limits, X.bytes, X.same.trans (hsame.setVm s.vm)⟩,
      ⟨g, mk, s₂, L, E, ce, rfl, rfl, hx, hce, hcv, hcl, rfl, hL, rfl, rfl⟩, ?_⟩
    show Steps p.tables e below _ (((({ U with heap := s₂.heap, slotsUsed := s₂.slotsUsed } : State).setVm s₂.vm).setTop g).pushFrame (.throwing q))
    rw [← hs₂]
    exact hsteps
end Payer
section Calls
variable {p : Program} {l : Launch} {e : Env} {R : Room} {s : State} {m : MethodId} {args : Array Value} {below : List Frame} {meth : Method} {c : Code} {T : State} {locs : List Loc} {cells slots : Nat}
theorem vx_callV (X : Stand p l e R s m args below meth c T locs cells slots) (hexec : p.tables.exec = Jvm.exec) {own C : String} {index : Nat} {y : MethodName} {bytes : ByteArray} {maxL : Nat} {ret : Option FieldType}
    (hown : s.vm.findClass own = some m.cls) (hlink : (Cond.methodLink own index y).before args s = true) (hinst : (Cond.instanceMethod y).before args s = true) (hsel : (Cond.selects C y y).before args s = true)
    (hcode : (Cond.code y bytes maxL ret).before args s = true) (hy : y.cls ≠ "java/lang/invoke/MethodHandle" ∧ y.cls ≠ "java/lang/invoke/VarHandle")
    {W9 : Nat} {Pre : Pt → Array Value → Prop} {Post : Pt → Array Value → Option Value → Pt → Prop} {PostX : Pt → Array Value → Addr → Pt → Prop} (hK : vx_Back l R p e below s args y 3 W9 Pre Post PostX)
    {b : Addr} {cellB : Cell} (hcell : T.heap[b]? = some cellB) (hobj : cellB.vm.isStatics = false) (hcls : s.vm.findClass C = some cellB.cls)
    {g : JFrame} (hg : g.method = m) (hsize : g.locals.size = c.maxLocals) {argsL rest : List Value} (hlen : ∀ sig, parseMethodDescriptor y.desc = some sig → argsL.length = sig.parameters.length)
    (hstack : g.stack = argsL.reverse ++ .ref b :: rest) (hW : 2 * g.monitorRoom + (rest.map fun v => v.category).sum ≤ W9) (hdg : decode c.code g.pc = .ok (.invokevirtual index, 3))
    (hpre : ∀ vm₁, s.WarmedH vm₁ → Pre ⟨T.setVm vm₁, locs, cells, slots⟩ (Value.ref b :: argsL).toArray) :
    (∃ (v : Option Value) (vm₁ : Vm) (B : Pt), s.WarmedH vm₁ ∧ Stand p l e R s m args below meth c B.U B.locs B.cells B.slots ∧ Post ⟨T.setVm vm₁, locs, cells, slots⟩ (Value.ref b :: argsL).toArray v B ∧
      ∀ target, Steps p.tables e below (B.U.setTop { g with pc := g.pc + 3, stack := v.toList ++ rest }) target → Steps p.tables e below (T.setTop g) target) ∨
    (∃ (q : Addr) (vm₁ : Vm) (B : Pt), s.WarmedH vm₁ ∧ Stand p l e R s m args below meth c B.U B.locs B.cells B.slots ∧ PostX ⟨T.setVm vm₁, locs, cells, slots⟩ (Value.ref b :: argsL).toArray q B ∧
      Steps p.tables e below (T.setTop g) ((B.U.setTop { g with stack := rest }).pushFrame (.throwing q))) := by
  obtain ⟨mk, methM, hnamed, hmethM, hstM, habM⟩ := Cond.instanceMethod_spec hinst
  obtain ⟨methM', cM, hmethM', -, -, -, -, -, -, hsigM⟩ := Cond.code_spec hnamed hcode
  cases hmethM.symm.trans hmethM'
  obtain ⟨c2, r2, m2, q1, q2, q3, q4, kP, hkP, hkPi⟩ := Cond.selects_spec hsel
  cases hcls.symm.trans q1
  cases (State.methodFound?_of_named hnamed hy).symm.trans q2
  cases hnamed.symm.trans q3
  have hselP : selectMethod e.platform s.vm cellB.cls mk = .method mk := by rw [Launch.admits_selectMethod X.admits]; exact q4
  obtain ⟨vm₁, X₁, hstep₁⟩ := X.invokevirtual hexec hown hlink hnamed hmethM hstM hkP hkPi hy (a := b) (cell := cellB) hcell
    (fun z h => by rw [h] at hobj; cases hobj) hselP hmethM habM hkP hkPi (g := g) hg (argsL := argsL) (rest := rest) (hlen _ hsigM) hstack hdg
  rcases hK m meth c ⟨T.setVm vm₁, locs, cells, slots⟩ { g with stack := rest } (.invokevirtual index) mk (Value.ref b :: argsL).toArray X₁ hg hsize hdg hW (X₁.named hnamed) (hpre vm₁ X₁.warmed) with ⟨v, B, X', hpost, hsteps⟩ | ⟨q, B, X', hpost, hsteps⟩
  · exact Or.inl ⟨v, vm₁, B, X₁.warmed, X', hpost, fun target h => hstep₁ _ fun acts => by rw [doInvoke_state]; exact hsteps.trans h⟩
  · exact Or.inr ⟨q, vm₁, B, X₁.warmed, X', hpost, hstep₁ _ fun acts => by rw [doInvoke_state]; exact hsteps⟩
theorem vx_callS (X : Stand p l e R s m args below meth c T locs cells slots) (hexec : p.tables.exec = Jvm.exec) {own : String} {index : Nat} {y : MethodName} {bytes : ByteArray} {maxL : Nat} {ret : Option FieldType}
    (hown : s.vm.findClass own = some m.cls) (hlink : (Cond.methodLink own index y).before args s = true) (hstat : (Cond.static y).before args s = true) (hinit : (Cond.initialized y.cls).before args s = true)
    (hcode : (Cond.code y bytes maxL ret).before args s = true) (hy : y.cls ≠ "java/lang/invoke/MethodHandle" ∧ y.cls ≠ "java/lang/invoke/VarHandle")
    {W9 : Nat} {Pre : Pt → Array Value → Prop} {Post : Pt → Array Value → Option Value → Pt → Prop} {PostX : Pt → Array Value → Addr → Pt → Prop} (hK : vx_Back l R p e below s args y 3 W9 Pre Post PostX)
    {g : JFrame} (hg : g.method = m) (hsize : g.locals.size = c.maxLocals) {argsL rest : List Value} (hlen : ∀ sig, parseMethodDescriptor y.desc = some sig → argsL.length = sig.parameters.length)
    (hstack : g.stack = argsL.reverse ++ rest) (hW : 2 * g.monitorRoom + (rest.map fun v => v.category).sum ≤ W9) (hdg : decode c.code g.pc = .ok (.invokestatic index, 3))
    (hpre : ∀ vm₁, s.WarmedH vm₁ → Pre ⟨T.setVm vm₁, locs, cells, slots⟩ argsL.toArray) :
    (∃ (v : Option Value) (vm₁ : Vm) (B : Pt), s.WarmedH vm₁ ∧ Stand p l e R s m args below meth c B.U B.locs B.cells B.slots ∧ Post ⟨T.setVm vm₁, locs, cells, slots⟩ argsL.toArray v B ∧
      ∀ target, Steps p.tables e below (B.U.setTop { g with pc := g.pc + 3, stack := v.toList ++ rest }) target → Steps p.tables e below (T.setTop g) target) ∨
    (∃ (q : Addr) (vm₁ : Vm) (B : Pt), s.WarmedH vm₁ ∧ Stand p l e R s m args below meth c B.U B.locs B.cells B.slots ∧ PostX ⟨T.setVm vm₁, locs, cells, slots⟩ argsL.toArray q B ∧
      Steps p.tables e below (T.setTop g) ((B.U.setTop { g with stack := rest }).pushFrame (.throwing q))) := by
  obtain ⟨mk, hnamed⟩ := Cond.code_named hcode
  obtain ⟨methM, cM, hmethM, -, -, -, -, -, -, hsigM⟩ := Cond.code_spec hnamed hcode
  have hstatic : methM.isStatic = true := Cond.static_spec hnamed hmethM hstat
  obtain ⟨kP, hkP, -⟩ := className_of_methodNamed hnamed
  have hinitP : kP.init = .initialized := Cond.initialized_spec (findClass_of_methodNamed hnamed) hkP hinit
  obtain ⟨vm₁, X₁, hstep₁⟩ := X.invokestatic hexec hown hlink hnamed hmethM hstatic hkP hinitP hy (g := g) hg (argsL := argsL) (rest := rest) (hlen _ hsigM) hstack hdg
  rcases hK m meth c ⟨T.setVm vm₁, locs, cells, slots⟩ { g with stack := rest } (.invokestatic index) mk argsL.toArray X₁ hg hsize hdg hW (X₁.named hnamed) (hpre vm₁ X₁.warmed) with ⟨v, B, X', hpost, hsteps⟩ | ⟨q, B, X', hpost, hsteps⟩
  · exact Or.inl ⟨v, vm₁, B, X₁.warmed, X', hpost, fun target h => hstep₁ _ fun acts => by rw [doInvoke_state]; exact hsteps.trans h⟩
  · exact Or.inr ⟨q, vm₁, B, X₁.warmed, X', hpost, hstep₁ _ fun acts => by rw [doInvoke_state]; exact hsteps⟩
end Calls
theorem vx_cls {s : State} {T : State} {vm₁ : Vm} {E : String} {k : ClassId} (hW : s.WarmedH vm₁) (h : (T.setVm vm₁).vm.findClass E = some k) : s.vm.findClass E = some k := by
  have h1 : vm₁.findClass E = some k := h
  rw [hW.alike.findClass] at h1
  exact h1
/-- the method's frame g, with q thrown over it -/
def vx_W (p : Program) (l : Launch) (e : Env) (R : Room) (s : State) (m : MethodId) (args : Array Value) (below : List Frame) (meth : Method) (c : Code) (H : Heap) (locs : List Loc) (cells slots : Nat) (Q : State → Prop) (g : JFrame) (q : Addr) : Prop :=
  ∀ T : State, T.heap = H → Stand p l e R s m args below meth c T locs cells slots → ∃ t, Steps p.tables e below ((T.setTop g).pushFrame (.throwing q)) t ∧ Q t
def vx_Run (p : Program) (l : Launch) (e : Env) (R : Room) (s : State) (m : MethodId) (args : Array Value) (below : List Frame) (meth : Method) (c : Code) (H : Heap) (locs : List Loc) (cells slots mc ms : Nat) (g : JFrame) (rest : List Value) (Qa : State → Outcome → State → Prop) (XC : String → State → State → Prop) (free : Addr → Prop) : Prop :=
  ∀ T : State, T.heap = H → Stand p l e R s m args below meth c T locs cells slots →
    (∃ (v : Option Value) (st₀ t T' : State) (L : List Loc), st₀.heap = H ∧ Stand p l e R s m args below meth c T' (locs ++ L) (cells + mc) (slots + ms) ∧ (∀ q ∈ L, free q.base) ∧ T'.heap = t.heap ∧ T'.vm = t.vm ∧ Qa st₀ (.returned v) t ∧
      Goes p e below T g T' { g with pc := g.pc + 3, stack := v.toList ++ rest }) ∨
    (∃ (q : Addr) (st₀ t T' : State) (L : List Loc) (E : String) (ce : Cell), st₀.heap = H ∧ Stand p l e R s m args below meth c T' (locs ++ L) (cells + mc) (slots + ms) ∧ (∀ z ∈ L, free z.base) ∧ T'.heap = t.heap ∧ T'.vm = t.vm ∧ XC E st₀ t ∧ t.heap[q]? = some ce ∧ ce.vm = .none ∧ s.vm.findClass E = some ce.cls ∧
      Steps p.tables e below (T.setTop g) ((T'.setTop { g with stack := rest }).pushFrame (.throwing q)))
def vx_X {S : Type} (px : S → Prop) (B : String → S → State → Prop) (A : Nat → Prop) : String → State → State → Prop := fun E st t => ∃ u : S, px u ∧ B E u t ∧ va_F A st t
section Runs
variable {p : Program} {l : Launch} {e : Env} {R : Room} {s : State} {m : MethodId} {args : Array Value} {below : List Frame} {meth : Method} {c : Code} {H : Heap} {locs : List Loc} {cells slots : Nat}
variable {y : MethodName} {bytes cc : ByteArray} {maxL nL mc ms n index : Nat} {ret : Option FieldType} {ws : List Cond} {rm : Room} {Pc : Array Value → State → Prop} {Qc : Array Value → State → Outcome → State → Prop} {XC : String → State → State → Prop} {free : Addr → Prop} {Ts : List Cond} {own C : String} {b : Addr} {As rest : List Value} {g : JFrame}
theorem vx_callBack (cb : CallB R s args own index y bytes maxL ret ws rm mc ms n) (hM : vx_Met l y ws rm Pc Qc XC mc ms free) (hbl : FrameBlind Pc) : vx_Back l R p e below s args y 3 8 (PreOf R mc ms Pc) (PostOf Qc mc ms free) (vx_Post XC mc ms free) := by
  obtain ⟨hrc, hrs, hfr, hlo, hws, hcw, -, hini, -⟩ := cb
  exact vx_back (bytes := bytes) (maxL := maxL) (ret := ret) hM hbl hrc hrs hfr hlo hws hcw (fun a' U hW => word_at hW (Or.inl (by first | rfl | simp [Cond.onTables, Cond.keeps, Cond.steady])) hini)
theorem vx_runV (S : CallFix p m c cc nL s args Ts own) (hM : vx_Met l y ws rm Pc Qc XC mc ms free) (cw : CallW R s args own C index y bytes maxL ret ws rm mc ms n) (hp : PreV s H C b Pc As)
    (hg : g.method = m) (hn : As.length = n) (hsize : g.locals.size = nL) (hstack : g.stack = As.reverse ++ .ref b :: rest) (hW : 2 * g.monitorRoom + (rest.map fun v => v.category).sum ≤ 8) (hdg : decode cc g.pc = .ok (.invokevirtual index, 3)) (hf : cells + mc ≤ R.cells ∧ slots + ms ≤ R.slots) :
    vx_Run p l e R s m args below meth c H locs cells slots mc ms g rest (Qc (Value.ref b :: As).toArray) XC free := by
  have hK : vx_Back l R p e below s args y 3 8 (PreOf R mc ms Pc) (PostOf Qc mc ms free) (vx_Post XC mc ms free) := vx_callBack cw.1 hM hp.1
  obtain ⟨⟨-, -, -, -, -, -, hcode, -, hy, hlen, hl⟩, hin, hse⟩ := cw
  obtain ⟨hx, hb, hml, ho, -⟩ := S
  obtain ⟨-, ⟨cellB, hcB, hoB, hclB⟩, hPc⟩ := hp
  intro T hT X
  rcases vx_callV X hx (C := C) (bytes := bytes) (maxL := maxL) (ret := ret) ho hl hin hse hcode hy hK (by rw [hT]; exact hcB) hoB hclB hg (hsize.trans hml.symm) (argsL := As) (rest := rest) (fun sig h => hn.trans (hlen sig h)) hstack hW (by rw [hb]; exact hdg)
    (fun vm₁ hW₁ => ⟨hf.1, hf.2, hPc (T.setVm vm₁) hT hW₁⟩) with ⟨v, vm₁, ⟨U', l2, c2, s2⟩, hW₁, X', ⟨g', mk, t, L, e1, e2, hq, h1, hL, h2, h3⟩, st⟩ | ⟨q, vm₁, ⟨U', l2, c2, s2⟩, hW₁, X', ⟨g', mk, t, L, E, ce, e1, e2, hq, hce, hcv, hcl, h1, hL, h2, h3⟩, st⟩
  · dsimp only [Pt.U, Pt.locs, Pt.cells, Pt.slots] at X' e1 e2 h1 h2 h3 st
    subst h1; subst h2; subst h3
    exact Or.inl ⟨v, (T.setVm vm₁).calling g' mk (Value.ref b :: As).toArray, t, U', L, hT, X', hL, e1, e2, hq, st⟩
  · dsimp only [Pt.U, Pt.locs, Pt.cells, Pt.slots] at X' e1 e2 h1 h2 h3 st hcl
    subst h1; subst h2; subst h3
    exact Or.inr ⟨q, (T.setVm vm₁).calling g' mk (Value.ref b :: As).toArray, t, U', L, E, ce, hT, X', hL, e1, e2, hq, hce, hcv, vx_cls hW₁ hcl, st⟩
theorem vx_runS (S : CallFix p m c cc nL s args Ts own) (hM : vx_Met l y ws rm Pc Qc XC mc ms free) (cw : CallB R s args own index y bytes maxL ret ws rm mc ms n ∧ (Cond.static y).before args s = true) (hp : PreS s H Pc As)
    (hg : g.method = m) (hn : As.length = n) (hsize : g.locals.size = nL) (hstack : g.stack = As.reverse ++ rest) (hW : 2 * g.monitorRoom + (rest.map fun v => v.category).sum ≤ 8) (hdg : decode cc g.pc = .ok (.invokestatic index, 3)) (hf : cells + mc ≤ R.cells ∧ slots + ms ≤ R.slots) :
    vx_Run p l e R s m args below meth c H locs cells slots mc ms g rest (Qc As.toArray) XC free := by
  have hK : vx_Back l R p e below s args y 3 8 (PreOf R mc ms Pc) (PostOf Qc mc ms free) (vx_Post XC mc ms free) := vx_callBack cw.1 hM hp.1
  obtain ⟨⟨-, -, -, -, -, -, hcode, hini, hy, hlen, hl⟩, hstt⟩ := cw
  obtain ⟨hx, hb, hml, ho, -⟩ := S
  intro T hT X
  rcases vx_callS X hx (bytes := bytes) (maxL := maxL) (ret := ret) ho hl hstt hini hcode hy hK hg (hsize.trans hml.symm) (argsL := As) (rest := rest) (fun sig h => hn.trans (hlen sig h)) hstack hW (by rw [hb]; exact hdg)
    (fun vm₁ hW₁ => ⟨hf.1, hf.2, hp.2 (T.setVm vm₁) hT hW₁⟩) with ⟨v, vm₁, ⟨U', l2, c2, s2⟩, hW₁, X', ⟨g', mk, t, L, e1, e2, hq, h1, hL, h2, h3⟩, st⟩ | ⟨q, vm₁, ⟨U', l2, c2, s2⟩, hW₁, X', ⟨g', mk, t, L, E, ce, e1, e2, hq, hce, hcv, hcl, h1, hL, h2, h3⟩, st⟩
  · dsimp only [Pt.U, Pt.locs, Pt.cells, Pt.slots] at X' e1 e2 h1 h2 h3 st
    subst h1; subst h2; subst h3
    exact Or.inl ⟨v, (T.setVm vm₁).calling g' mk As.toArray, t, U', L, hT, X', hL, e1, e2, hq, st⟩
  · dsimp only [Pt.U, Pt.locs, Pt.cells, Pt.slots] at X' e1 e2 h1 h2 h3 st hcl
    subst h1; subst h2; subst h3
    exact Or.inr ⟨q, (T.setVm vm₁).calling g' mk As.toArray, t, U', L, E, ce, hT, X', hL, e1, e2, hq, hce, hcv, vx_cls hW₁ hcl, st⟩
end Runs
section Rows
variable {p : Program} {l : Launch} {e : Env} {R : Room} {s : State} {m : MethodId} {args : Array Value} {below : List Frame} {meth : Method} {c : Code} {H : Heap} {locs : List Loc} {cells slots : Nat} {Q : State → Prop}
variable {mc ms : Nat} {free : Addr → Prop} {A0 A1 : Nat → Prop} {H0 : Heap} {a : Array Value} {pc : Nat} {ls : Array Slot} {st0 rest : List Value}
theorem vx_keep {st₀ t T' : State} {L : List Loc} (h0 : st₀.heap = H) (e1 : T'.heap = t.heap) (hS : va_S A0 H0 H locs) (hA : ∀ q, q < H.size → A1 q → A0 q) (hf : ∀ q, free q → A0 q) (hL : ∀ q ∈ L, free q.base) (hF : va_F A1 st₀ t) :
    H.size ≤ T'.heap.size ∧ (∀ q : Nat, q < H.size → ¬ A1 q → T'.heap[q]? = H[q]?) ∧ va_S A0 H0 T'.heap (locs ++ L) := by
  obtain ⟨hz, hk⟩ := hF
  rw [h0] at hz hk
  exact ⟨by rw [e1]; exact hz, fun q h1 h2 => by rw [e1]; exact hk q h1 h2,
    ⟨Nat.le_trans hS.1 (by rw [e1]; exact hz), fun q h1 h2 => by rw [e1, hk q (Nat.lt_of_lt_of_le h1 hS.1) (fun z => h2 (hA q (Nat.lt_of_lt_of_le h1 hS.1) z))]; exact hS.2.1 q h1 h2, fun q hq => by
      rcases List.mem_append.mp hq with h | h
      · exact hS.2.2 q h
      · exact hf _ (hL q h)⟩⟩
theorem vx_calli {S SX : Type} {post : Int32 → S → Prop} {px : SX → Prop} {B : S → State → Prop} {BX : String → SX → State → Prop} {AX : Nat → Prop} (hr : vx_Run p l e R s m args below meth c H locs cells slots mc ms (F0 m pc ls st0) rest (va_Qi post B A1 a) (vx_X px BX AX) free) (hS : va_S A0 H0 H locs) (hA : ∀ q, q < H.size → A1 q → A0 q) (hf : ∀ q, free q → A0 q) (hAX : ∀ q, q < H.size → AX q → A0 q)
    (kx : ∀ (E : String) (ce : Cell) (q9 : Addr) (u : SX) (t : State) (H1 : Heap) (locs1 : List Loc), t.heap = H1 → s.vm.Alike t.vm → px u → BX E u t → H.size ≤ H1.size → (∀ q : Nat, q < H.size → ¬ AX q → H1[q]? = H[q]?) → va_S A0 H0 H1 locs1 → H1[q9]? = some ce → ce.vm = .none → s.vm.findClass E = some ce.cls → vx_W p l e R s m args below meth c H1 locs1 (cells + mc) (slots + ms) Q (F0 m pc ls rest) q9)
    (kk : ∀ (r : Int32) (u : S) (t : State) (H1 : Heap) (locs1 : List Loc), t.heap = H1 → s.vm.Alike t.vm → post r u → B u t → H.size ≤ H1.size → (∀ q : Nat, q < H.size → ¬ A1 q → H1[q]? = H[q]?) → va_S A0 H0 H1 locs1 → W p l e R s m args below meth c H1 locs1 (cells + mc) (slots + ms) Q (F0 m (pc + 3) ls (.int r :: rest))) : W p l e R s m args below meth c H locs cells slots Q (F0 m pc ls st0) := by
  intro T hT X
  rcases hr T hT X with ⟨v, st₀, t, T', L, h0, X', hL, e1, e2, ⟨⟨r, u, hv, hp, hb⟩, hF⟩, st⟩ | ⟨q, st₀, t, T', L, E, ce, h0, X', hL, e1, e2, ⟨u, hp, hb, hF⟩, hce, hcv, hcl, st⟩
  · cases hv
    obtain ⟨k1, k2, k3⟩ := vx_keep h0 e1 hS hA hf hL hF
    obtain ⟨t2, a1, b1⟩ := kk r u t T'.heap (locs ++ L) e1.symm (by rw [← e2]; exact X'.warmed.alike) hp hb k1 k2 k3 T' rfl X'
    exact ⟨t2, st t2 a1, b1⟩
  · obtain ⟨k1, k2, k3⟩ := vx_keep h0 e1 hS hAX hf hL hF
    obtain ⟨t2, a1, b1⟩ := kx E ce q u t T'.heap (locs ++ L) e1.symm (by rw [← e2]; exact X'.warmed.alike) hp hb k1 k2 k3 (by rw [e1]; exact hce) hcv hcl T' rfl X'
    exact ⟨t2, st.trans a1, b1⟩
theorem vx_calll {S SX : Type} {post : Int64 → S → Prop} {px : SX → Prop} {B : S → State → Prop} {BX : String → SX → State → Prop} {AX : Nat → Prop} (hr : vx_Run p l e R s m args below meth c H locs cells slots mc ms (F0 m pc ls st0) rest (va_Ql post B A1 a) (vx_X px BX AX) free) (hS : va_S A0 H0 H locs) (hA : ∀ q, q < H.size → A1 q → A0 q) (hf : ∀ q, free q → A0 q) (hAX : ∀ q, q < H.size → AX q → A0 q)
    (kx : ∀ (E : String) (ce : Cell) (q9 : Addr) (u : SX) (t : State) (H1 : Heap) (locs1 : List Loc), t.heap = H1 → s.vm.Alike t.vm → px u → BX E u t → H.size ≤ H1.size → (∀ q : Nat, q < H.size → ¬ AX q → H1[q]? = H[q]?) → va_S A0 H0 H1 locs1 → H1[q9]? = some ce → ce.vm = .none → s.vm.findClass E = some ce.cls → vx_W p l e R s m args below meth c H1 locs1 (cells + mc) (slots + ms) Q (F0 m pc ls rest) q9)
    (kk : ∀ (r : Int64) (u : S) (t : State) (H1 : Heap) (locs1 : List Loc), t.heap = H1 → s.vm.Alike t.vm → post r u → B u t → H.size ≤ H1.size → (∀ q : Nat, q < H.size → ¬ A1 q → H1[q]? = H[q]?) → va_S A0 H0 H1 locs1 → W p l e R s m args below meth c H1 locs1 (cells + mc) (slots + ms) Q (F0 m (pc + 3) ls (.long r :: rest))) : W p l e R s m args below meth c H locs cells slots Q (F0 m pc ls st0) := by
  intro T hT X
  rcases hr T hT X with ⟨v, st₀, t, T', L, h0, X', hL, e1, e2, ⟨⟨r, u, hv, hp, hb⟩, hF⟩, st⟩ | ⟨q, st₀, t, T', L, E, ce, h0, X', hL, e1, e2, ⟨u, hp, hb, hF⟩, hce, hcv, hcl, st⟩
  · cases hv
    obtain ⟨k1, k2, k3⟩ := vx_keep h0 e1 hS hA hf hL hF
    obtain ⟨t2, a1, b1⟩ := kk r u t T'.heap (locs ++ L) e1.symm (by rw [← e2]; exact X'.warmed.alike) hp hb k1 k2 k3 T' rfl X'
    exact ⟨t2, st t2 a1, b1⟩
  · obtain ⟨k1, k2, k3⟩ := vx_keep h0 e1 hS hAX hf hL hF
    obtain ⟨t2, a1, b1⟩ := kx E ce q u t T'.heap (locs ++ L) e1.symm (by rw [← e2]; exact X'.warmed.alike) hp hb k1 k2 k3 (by rw [e1]; exact hce) hcv hcl T' rfl X'
    exact ⟨t2, st.trans a1, b1⟩
theorem vx_callf {S SX : Type} {post : UInt32 → S → Prop} {px : SX → Prop} {B : S → State → Prop} {BX : String → SX → State → Prop} {AX : Nat → Prop} (hr : vx_Run p l e R s m args below meth c H locs cells slots mc ms (F0 m pc ls st0) rest (va_Qf post B A1 a) (vx_X px BX AX) free) (hS : va_S A0 H0 H locs) (hA : ∀ q, q < H.size → A1 q → A0 q) (hf : ∀ q, free q → A0 q) (hAX : ∀ q, q < H.size → AX q → A0 q)
    (kx : ∀ (E : String) (ce : Cell) (q9 : Addr) (u : SX) (t : State) (H1 : Heap) (locs1 : List Loc), t.heap = H1 → s.vm.Alike t.vm → px u → BX E u t → H.size ≤ H1.size → (∀ q : Nat, q < H.size → ¬ AX q → H1[q]? = H[q]?) → va_S A0 H0 H1 locs1 → H1[q9]? = some ce → ce.vm = .none → s.vm.findClass E = some ce.cls → vx_W p l e R s m args below meth c H1 locs1 (cells + mc) (slots + ms) Q (F0 m pc ls rest) q9)
    (kk : ∀ (r : UInt32) (u : S) (t : State) (H1 : Heap) (locs1 : List Loc), t.heap = H1 → s.vm.Alike t.vm → post r u → B u t → H.size ≤ H1.size → (∀ q : Nat, q < H.size → ¬ A1 q → H1[q]? = H[q]?) → va_S A0 H0 H1 locs1 → W p l e R s m args below meth c H1 locs1 (cells + mc) (slots + ms) Q (F0 m (pc + 3) ls (.float r :: rest))) : W p l e R s m args below meth c H locs cells slots Q (F0 m pc ls st0) := by
  intro T hT X
  rcases hr T hT X with ⟨v, st₀, t, T', L, h0, X', hL, e1, e2, ⟨⟨r, u, hv, hp, hb⟩, hF⟩, st⟩ | ⟨q, st₀, t, T', L, E, ce, h0, X', hL, e1, e2, ⟨u, hp, hb, hF⟩, hce, hcv, hcl, st⟩
  · cases hv
    obtain ⟨k1, k2, k3⟩ := vx_keep h0 e1 hS hA hf hL hF
    obtain ⟨t2, a1, b1⟩ := kk r u t T'.heap (locs ++ L) e1.symm (by rw [← e2]; exact X'.warmed.alike) hp hb k1 k2 k3 T' rfl X'
    exact ⟨t2, st t2 a1, b1⟩
  · obtain ⟨k1, k2, k3⟩ := vx_keep h0 e1 hS hAX hf hL hF
    obtain ⟨t2, a1, b1⟩ := kx E ce q u t T'.heap (locs ++ L) e1.symm (by rw [← e2]; exact X'.warmed.alike) hp hb k1 k2 k3 (by rw [e1]; exact hce) hcv hcl T' rfl X'
    exact ⟨t2, st.trans a1, b1⟩
theorem vx_calld {S SX : Type} {post : UInt64 → S → Prop} {px : SX → Prop} {B : S → State → Prop} {BX : String → SX → State → Prop} {AX : Nat → Prop} (hr : vx_Run p l e R s m args below meth c H locs cells slots mc ms (F0 m pc ls st0) rest (va_Qd post B A1 a) (vx_X px BX AX) free) (hS : va_S A0 H0 H locs) (hA : ∀ q, q < H.size → A1 q → A0 q) (hf : ∀ q, free q → A0 q) (hAX : ∀ q, q < H.size → AX q → A0 q)
    (kx : ∀ (E : String) (ce : Cell) (q9 : Addr) (u : SX) (t : State) (H1 : Heap) (locs1 : List Loc), t.heap = H1 → s.vm.Alike t.vm → px u → BX E u t → H.size ≤ H1.size → (∀ q : Nat, q < H.size → ¬ AX q → H1[q]? = H[q]?) → va_S A0 H0 H1 locs1 → H1[q9]? = some ce → ce.vm = .none → s.vm.findClass E = some ce.cls → vx_W p l e R s m args below meth c H1 locs1 (cells + mc) (slots + ms) Q (F0 m pc ls rest) q9)
    (kk : ∀ (r : UInt64) (u : S) (t : State) (H1 : Heap) (locs1 : List Loc), t.heap = H1 → s.vm.Alike t.vm → post r u → B u t → H.size ≤ H1.size → (∀ q : Nat, q < H.size → ¬ A1 q → H1[q]? = H[q]?) → va_S A0 H0 H1 locs1 → W p l e R s m args below meth c H1 locs1 (cells + mc) (slots + ms) Q (F0 m (pc + 3) ls (.double r :: rest))) : W p l e R s m args below meth c H locs cells slots Q (F0 m pc ls st0) := by
  intro T hT X
  rcases hr T hT X with ⟨v, st₀, t, T', L, h0, X', hL, e1, e2, ⟨⟨r, u, hv, hp, hb⟩, hF⟩, st⟩ | ⟨q, st₀, t, T', L, E, ce, h0, X', hL, e1, e2, ⟨u, hp, hb, hF⟩, hce, hcv, hcl, st⟩
  · cases hv
    obtain ⟨k1, k2, k3⟩ := vx_keep h0 e1 hS hA hf hL hF
    obtain ⟨t2, a1, b1⟩ := kk r u t T'.heap (locs ++ L) e1.symm (by rw [← e2]; exact X'.warmed.alike) hp hb k1 k2 k3 T' rfl X'
    exact ⟨t2, st t2 a1, b1⟩
  · obtain ⟨k1, k2, k3⟩ := vx_keep h0 e1 hS hAX hf hL hF
    obtain ⟨t2, a1, b1⟩ := kx E ce q u t T'.heap (locs ++ L) e1.symm (by rw [← e2]; exact X'.warmed.alike) hp hb k1 k2 k3 (by rw [e1]; exact hce) hcv hcl T' rfl X'
    exact ⟨t2, st.trans a1, b1⟩
theorem vx_callv {S SX : Type} {post : S → Prop} {px : SX → Prop} {B : S → State → Prop} {BX : String → SX → State → Prop} {AX : Nat → Prop} (hr : vx_Run p l e R s m args below meth c H locs cells slots mc ms (F0 m pc ls st0) rest (va_Qv post B A1 a) (vx_X px BX AX) free) (hS : va_S A0 H0 H locs) (hA : ∀ q, q < H.size → A1 q → A0 q) (hf : ∀ q, free q → A0 q) (hAX : ∀ q, q < H.size → AX q → A0 q)
    (kx : ∀ (E : String) (ce : Cell) (q9 : Addr) (u : SX) (t : State) (H1 : Heap) (locs1 : List Loc), t.heap = H1 → s.vm.Alike t.vm → px u → BX E u t → H.size ≤ H1.size → (∀ q : Nat, q < H.size → ¬ AX q → H1[q]? = H[q]?) → va_S A0 H0 H1 locs1 → H1[q9]? = some ce → ce.vm = .none → s.vm.findClass E = some ce.cls → vx_W p l e R s m args below meth c H1 locs1 (cells + mc) (slots + ms) Q (F0 m pc ls rest) q9)
    (kk : ∀ (u : S) (t : State) (H1 : Heap) (locs1 : List Loc), t.heap = H1 → s.vm.Alike t.vm → post u → B u t → H.size ≤ H1.size → (∀ q : Nat, q < H.size → ¬ A1 q → H1[q]? = H[q]?) → va_S A0 H0 H1 locs1 → W p l e R s m args below meth c H1 locs1 (cells + mc) (slots + ms) Q (F0 m (pc + 3) ls (rest))) : W p l e R s m args below meth c H locs cells slots Q (F0 m pc ls st0) := by
  intro T hT X
  rcases hr T hT X with ⟨v, st₀, t, T', L, h0, X', hL, e1, e2, ⟨⟨u, hv, hp, hb⟩, hF⟩, st⟩ | ⟨q, st₀, t, T', L, E, ce, h0, X', hL, e1, e2, ⟨u, hp, hb, hF⟩, hce, hcv, hcl, st⟩
  · cases hv
    obtain ⟨k1, k2, k3⟩ := vx_keep h0 e1 hS hA hf hL hF
    obtain ⟨t2, a1, b1⟩ := kk u t T'.heap (locs ++ L) e1.symm (by rw [← e2]; exact X'.warmed.alike) hp hb k1 k2 k3 T' rfl X'
    exact ⟨t2, st t2 a1, b1⟩
  · obtain ⟨k1, k2, k3⟩ := vx_keep h0 e1 hS hAX hf hL hF
    obtain ⟨t2, a1, b1⟩ := kx E ce q u t T'.heap (locs ++ L) e1.symm (by rw [← e2]; exact X'.warmed.alike) hp hb k1 k2 k3 (by rw [e1]; exact hce) hcv hcl T' rfl X'
    exact ⟨t2, st.trans a1, b1⟩
/-- caught by the row x of this method's table; the rows ahead don't take it -/
theorem vx_catch {own name : String} {E : String} {ce : Cell} {q : Addr} (hown : s.vm.findClass own = some m.cls) (pre : List ExceptionTableEntry) (x : ExceptionTableEntry) (suf : List ExceptionTableEntry) (hsplit : c.exceptionTable.toList = pre ++ x :: suf)
    (hpass : ∀ z ∈ pre, covers z pc = false ∨ (z.catchType ≠ 0 ∧ ∃ nm : String, (Cond.classLink own z.catchType nm).before args s = true ∧ va_Nc E nm s)) (hx : covers x pc = true) (h0 : x.catchType ≠ 0)
    (hlink : (Cond.classLink own x.catchType name).before args s = true) (hcast : (Cond.castable E name).before args s = true) (hcell : H[q]? = some ce) (hv : ce.vm = .none) (hcl : s.vm.findClass E = some ce.cls)
    (kk : W p l e R s m args below meth c H locs cells slots Q (F0 m x.handlerPc ls [.ref q])) : vx_W p l e R s m args below meth c H locs cells slots Q (F0 m pc ls rest) q := by
  intro T hT X
  have hpl : e.platform.magicAccessors = ({} : Platform).magicAccessors := by rw [X.admits.platform]
  obtain ⟨c3, c4, hc3, hc4, hasg⟩ := Cond.castable_spec hcast
  cases Option.some.inj (hc3.symm.trans hcl)
  obtain ⟨c5, hc5, hcl5⟩ := Cond.classLink_spec hown hlink e.platform hpl
  cases Option.some.inj (hc4.symm.trans hc5)
  obtain ⟨vm', X', st⟩ := X.thenCaughtThrough q (g := F0 m pc ls rest) rfl (Steps.refl _) (by rw [hT]; exact hcell) (by rw [hv]; rfl) (by obtain ⟨k9, h9, -⟩ := Vm.findClass_spec hcl; exact ⟨k9, h9⟩) pre x suf hsplit
    (fun z hz => by
      rcases hpass z hz with h | ⟨hz0, nm, hl1, hn1⟩
      · exact Or.inl h
      · obtain ⟨c6, hc6, hcl6⟩ := Cond.classLink_spec hown hl1 e.platform hpl
        obtain ⟨a8, b8, h1, h2, h3⟩ := hn1
        cases Option.some.inj (h1.symm.trans hcl)
        cases Option.some.inj (h2.symm.trans hc6)
        exact Or.inr ⟨hz0, _, hcl6, h3⟩) hx (Or.inr ⟨h0, c4, hcl5, hasg⟩)
  obtain ⟨t, a1, b1⟩ := kk (T.setVm vm') hT X'
  exact ⟨t, st.trans a1, b1⟩
end Rows
section Ends
variable {p : Program} {l : Launch} {e : Env} {R : Room} {s : State} {m : MethodId} {args : Array Value} {below : List Frame} {meth : Method} {c : Code} {H : Heap} {locs : List Loc} {cells slots : Nat} {Q : State → Prop}
variable {mc ms : Nat} {free : Addr → Prop} {A0 A1 : Nat → Prop} {H0 : Heap} {a : Array Value} {ls : Array Slot} {st0 rest : List Value}
variable {Qc : Array Value → State → Outcome → State → Prop} {XC : String → State → State → Prop}
/-- what a body that may throw owes at its end -/
def vx_MQ (below : List Frame) (Qc : Array Value → State → Outcome → State → Prop) (XC : String → State → State → Prop) (a : Array Value) (s : State) (mc ms : Nat) (free : Addr → Prop) : State → Prop := fun t =>
  ∃ o, t.status = .running ∧ Ended t below o ∧ vx_Q Qc XC mc ms free a s o t
theorem vx_ret {g : JFrame} {mc ms : Nat} (k : W p l e R s m args below meth c H locs cells slots (MQ below Qc args s mc ms free) g) : W p l e R s m args below meth c H locs cells slots (vx_MQ below Qc XC args s mc ms free) g := by
  intro T hT X
  obtain ⟨t, a1, o, b1, b2, b3, b4⟩ := k T hT X
  exact ⟨t, a1, o, b1, b2, Or.inl ⟨b3, b4⟩⟩
/-- not caught here: it goes on to the caller -/
theorem vx_widen {g : JFrame} {q : Addr} {k n : Nat} (h1 : cells ≤ k) (h2 : slots ≤ n) (kk : vx_W p l e R s m args below meth c H locs k n Q g q) : vx_W p l e R s m args below meth c H locs cells slots Q g q := fun T hT X => kk T hT (stand_widen X h1 h2)
theorem vx_out {pc : Nat} {E : String} {ce : Cell} {q : Addr} {mc ms : Nat} (hout : ∀ x ∈ c.exceptionTable.toList, covers x pc = false) (hlocks : meth.locks = false) (hcell : H[q]? = some ce) (hv : ce.vm = .none) (hcl : s.vm.findClass E = some ce.cls)
    (hx : ∀ t : State, t.heap = H → s.vm.Alike t.vm → XC E s t) (hf : ∀ z ∈ locs, free z.base) (hc : cells ≤ mc) (hs : slots ≤ ms) :
    vx_W p l e R s m args below meth c H locs cells slots (vx_MQ below Qc XC args s mc ms free) (F0 m pc ls rest) q := by
  intro T hT X
  obtain ⟨st1, hrun, hend, hW, hsm⟩ := X.leaveThrown q (g := F0 m pc ls rest) rfl rfl rfl hout hlocks
  have hcell9 : (T.setFrames (.throwing q :: below)).heap[q]? = some ce := by
    show T.heap[q]? = some ce
    rw [hT]; exact hcell
  exact ⟨_, st1, .threw q, hrun, hend, Or.inr ⟨q, rfl, E, ce, locs, hx _ hT hW.alike, hcell9, hv, hcl, hW, hsm.mono hc hs, hf⟩⟩
theorem vx_frame {U : State} {k n : Nat} (h : s.sameButNew ({ U with vm := s.vm } : State) locs k n) : s.heap.size ≤ U.heap.size ∧ ∀ q : Nat, q < s.heap.size → (∀ z ∈ locs, z.base ≠ q) → U.heap[q]? = s.heap[q]? := by
  obtain ⟨-, h2, -, -, -, h6⟩ := h
  refine ⟨h2, fun q hq hz => ?_⟩
  obtain ⟨c9, e1, e2, e3, e4⟩ := h6 q _ (Array.getElem?_eq_getElem hq)
  have hs : c9.slots = (s.heap[q]).slots := Array.ext_getElem? fun i => e4 i fun hm => hz _ hm rfl
  have h9 : c9 = s.heap[q] := by
    rw [hs] at e2
    exact e2
  have e5 : U.heap[q]? = some c9 := e1
  rw [e5, h9, Array.getElem?_eq_getElem hq]
/-- the words of a throw but the four that speak of the heap -/
def vx_no (w : Cond) : Bool := decide (w ≠ .isRef (.static Bundle.tN "UNASSIGNED_STACK" Bundle.steD)) && decide (w ≠ .isRef (.static Bundle.tN "SUPPRESSED_SENTINEL" Bundle.listD)) && decide (w ≠ .laysStatic Bundle.tN "UNASSIGNED_STACK" Bundle.steD) && decide (w ≠ .laysStatic Bundle.tN "SUPPRESSED_SENTINEL" Bundle.listD)
def vx_at0 (own : String) (ic : Nat) (X : String) (names : List String) : List Cond := (Bundle.ownAtoms0 own ic X names).filter vx_no
def vx_atS (own : String) (ic : Nat) (X : String) (names : List String) : List Cond := (Bundle.ownAtoms own ic X names).filter vx_no
/-- a word that the tables alone decide, or a good one -/
def vx_ot (w : Cond) : Bool := w.onTables || goodWord w
theorem vx_ot_at {args a' : Array Value} {s U : State} {w : Cond} (hW : s.WarmedH U.vm) (hvm : s.vm = U.vm) (hg : vx_ot w = true) (h : w.before args s = true) : w.before a' U = true := by
  simp only [vx_ot, Bool.or_eq_true] at hg
  rcases hg with hg | hg
  · exact va_tabs hg hvm h
  · exact word_at hW (good_of_word hg) h
/-- a list's words: the good ones out of the method's own list, the others by premises of their own -/
theorem vx_hat {args : Array Value} {s : State} {L B : List Cond} (h1 : ∀ w ∈ L.filter goodWord, w.before args s = true) (h2 : ∀ w ∈ L.filter (fun w => !goodWord w), w ∈ B) (h3 : ∀ w ∈ B, w.before args s = true) : ∀ w ∈ L, w.before args s = true := by
  intro w hw
  by_cases g : goodWord w = true
  · exact h1 w (List.mem_filter.mpr ⟨hw, g⟩)
  · refine h3 w (h2 w (List.mem_filter.mpr ⟨hw, ?_⟩))
    show (!goodWord w) = true
    cases hgw : goodWord w
    · rfl
    · exact absurd hgw g
theorem vx_c {args : Array Value} {s : State} {w : Cond} {B : List Cond} (h : w.before args s = true) (t : ∀ w ∈ B, w.before args s = true) : ∀ w' ∈ w :: B, w'.before args s = true := fun w' h' => (List.mem_cons.mp h').elim (fun e => by rw [e]; exact h) (t w')
theorem vx_n {args : Array Value} {s : State} : ∀ w ∈ ([] : List Cond), w.before args s = true := fun _ h => nomatch h
theorem vx_own {args : Array Value} {s : State} {L : List Cond} (h1 : ∀ w ∈ L.filter vx_no, w.before args s = true)
    (hU : (Cond.isRef (.static Bundle.tN "UNASSIGNED_STACK" Bundle.steD)).before args s = true) (hN : (Cond.isRef (.static Bundle.tN "SUPPRESSED_SENTINEL" Bundle.listD)).before args s = true)
    (lU : (Cond.laysStatic Bundle.tN "UNASSIGNED_STACK" Bundle.steD).before args s = true) (lN : (Cond.laysStatic Bundle.tN "SUPPRESSED_SENTINEL" Bundle.listD).before args s = true) : ∀ w ∈ L, w.before args s = true := by
  intro w hw
  by_cases e1 : w = .isRef (.static Bundle.tN "UNASSIGNED_STACK" Bundle.steD)
  · rw [e1]; exact hU
  · by_cases e2 : w = .isRef (.static Bundle.tN "SUPPRESSED_SENTINEL" Bundle.listD)
    · rw [e2]; exact hN
    · by_cases e3 : w = .laysStatic Bundle.tN "UNASSIGNED_STACK" Bundle.steD
      · rw [e3]; exact lU
      · by_cases e4 : w = .laysStatic Bundle.tN "SUPPRESSED_SENTINEL" Bundle.listD
        · rw [e4]; exact lN
        · exact h1 w (List.mem_filter.mpr ⟨hw, by unfold vx_no; rw [decide_eq_true e1, decide_eq_true e2, decide_eq_true e3, decide_eq_true e4]; rfl⟩)
/-- where a static field lies, its class's statics cell in H -/
def vx_L (C n d : String) (A : Nat → Prop) (U : State) (H : Heap) : Prop := ∃ (c : ClassId) (k : Class) (i : Nat) (f : Field) (a : Nat) (cell : Cell), U.vm.findClass C = some c ∧ U.fieldFound? C n d = some (c, k, i, f) ∧ f.isStatic = true ∧ k.statics = some a ∧ H[a]? = some cell ∧ cell.vm.isStatics = true ∧ cell.cls = c ∧ f.slot < cell.slots.size ∧ k.staticTypes[f.slot]? = some f.type ∧ ¬ A a
theorem vx_L.moved {C n d : String} {A : Nat → Prop} {u U : State} {H : Heap} (hvm : u.vm.Alike U.vm) (h : vx_L C n d A u H) : vx_L C n d A U H := by
  obtain ⟨c, k, i, f, a, cell, h1, h2, h3, h4, h5, h6, h7, h8, h9, h10⟩ := h
  obtain ⟨k', hi', he⟩ := State.fieldFound?_setVm hvm h2
  exact ⟨c, k', i, f, a, cell, by rw [hvm.findClass]; exact h1, hi', h3, by rw [he]; exact h4, h5, h6, h7, h8, by rw [he]; exact h9, h10⟩
theorem vx_L.kept {C n d : String} {A : Nat → Prop} {U : State} {H H1 : Heap} (h : vx_L C n d A U H) (hq : ∀ a : Nat, a < H.size → ¬ A a → H1[a]? = H[a]?) : vx_L C n d A U H1 := by
  obtain ⟨c, k, i, f, a, cell, h1, h2, h3, h4, h5, h6, h7, h8, h9, h10⟩ := h
  exact ⟨c, k, i, f, a, cell, h1, h2, h3, h4, by rw [hq a (Array.getElem?_eq_some_iff.mp h5).1 h10]; exact h5, h6, h7, h8, h9, h10⟩
theorem vx_L.narrow {C n d : String} {A B : Nat → Prop} {U : State} {H : Heap} (h : vx_L C n d A U H) (hAB : ∀ q, B q → A q) : vx_L C n d B U H := by
  obtain ⟨c, k, i, f, a, cell, h1, h2, h3, h4, h5, h6, h7, h8, h9, h10⟩ := h
  exact ⟨c, k, i, f, a, cell, h1, h2, h3, h4, h5, h6, h7, h8, h9, fun z => h10 (hAB _ z)⟩
theorem vx_L.word {C n d : String} {A : Nat → Prop} {s : State} {args : Array Value} (h : vx_L C n d A s s.heap) : (Cond.laysStatic C n d).before args s = true := by
  obtain ⟨c, k, i, f, a, cell, h1, h2, h3, h4, h5, h6, h7, h8, h9, -⟩ := h
  show (Cond.laysStatic C n d).holds args s none s [] = true
  exact Cond.laysStatic_of h1 h2 h3 h4 h5 h6 h7 h8 h9
/-- .. and what it holds: null or some reference -/
def vx_Zq (C n d : String) (A : Nat → Prop) (U : State) (H : Heap) : Prop := va_Zq C n d A U H ∧ vx_L C n d A U H
theorem vx_Zq.moved {C n d : String} {A : Nat → Prop} {u U : State} {H : Heap} (hvm : u.vm.Alike U.vm) (h : vx_Zq C n d A u H) : vx_Zq C n d A U H := ⟨va_Zq.moved hvm h.1, vx_L.moved hvm h.2⟩
theorem vx_Zq.kept {C n d : String} {A : Nat → Prop} {U : State} {H H1 : Heap} (h : vx_Zq C n d A U H) (hq : ∀ a : Nat, a < H.size → ¬ A a → H1[a]? = H[a]?) : vx_Zq C n d A U H1 := ⟨va_Zq.kept h.1 hq, vx_L.kept h.2 hq⟩
theorem vx_Zq.narrow {C n d : String} {A B : Nat → Prop} {U : State} {H : Heap} (h : vx_Zq C n d A U H) (hAB : ∀ q, B q → A q) : vx_Zq C n d B U H := ⟨va_Zq.narrow h.1 hAB, vx_L.narrow h.2 hAB⟩
theorem vx_Zqof {args : Array Value} {s : State} {C n d : String} {A : Nat → Prop} (hl : (Cond.laysStatic C n d).before args s = true) (hini : (Cond.initialized C).before args s = true) (h : (Cond.isRef (.static C n d)).before args s = true) (hA : ∀ a : Nat, a < s.heap.size → ¬ A a) : vx_Zq C n d A s s.heap := by
  refine ⟨va_Zqof hl hini h hA, ?_⟩
  obtain ⟨c, k, i, f, a, cell, h1, h2, h3, h4, h5, h6, h7, h8, h9⟩ := Cond.laysStatic_spec hl
  exact ⟨c, k, i, f, a, cell, h1, h2, h3, h4, h5, h6, h7, h8, h9, hA a (Array.getElem?_eq_some_iff.mp h5).1⟩
theorem vx_isRef {C n d : String} {v : Value} {A : Nat → Prop} {s : State} {args : Array Value} (h : va_Z C n d v A s s.heap) (hv : v.isRef = true) : (Cond.isRef (.static C n d)).before args s = true := by
  obtain ⟨cf, kf, fi, f, a, cell, h1, h2, h3, h4, h5, h6, h7, -⟩ := h
  have he : (Term.static C n d).eval args s none [] s = some v := by
    simp [Term.eval, State.fieldNamed?, h1, h2, h4, h5, h6, h7]
  simp only [Cond.before, Cond.holds, Cond.value, he]
  cases v <;> simp_all [Value.isRef]
theorem vx_isRefq {C n d : String} {A : Nat → Prop} {s : State} {args : Array Value} (h : va_Zq C n d A s s.heap) : (Cond.isRef (.static C n d)).before args s = true := by
  rcases h with h | ⟨t, h⟩
  · exact vx_isRef h rfl
  · exact vx_isRef h rfl
/-- the same frame, seen from here: as if the method were called anew in this heap -/
theorem vx_rebase {T : State} (X : Stand p l e R s m args below meth c T locs cells slots) {R' : Room} (hf : R'.frames ≤ R.frames) (hl : R'.locals ≤ R.locals) (hc : cells + R'.cells ≤ R.cells) (hs : slots + R'.slots ≤ R.slots) :
    Stand p l e R' ((T.setVm s.vm).setFrames (.invoking m args :: below)) m args below meth c T [] 0 0 := by
  have htop : (T.setVm s.vm).topJava?.isSome := X.here.top
  have hF : ((T.setVm s.vm).setFrames (.invoking m args :: below)).frames = .invoking m args :: below := State.frames_setFrames _ (State.cur_lt_of_top htop)
  obtain ⟨g₀, hg0⟩ := Option.isSome_iff_exists.mp htop
  obtain ⟨r, hr⟩ := State.topJava?_eq_some.mp hg0
  have hl9 : e.platform.stackLimits (T.setVm s.vm).me = e.platform.stackLimits s.me := X.limits
  have hb9 : (T.setVm s.vm).me.stackBytes = s.me.stackBytes := X.bytes
  refine ⟨X.admits, X.cas, X.clock, hF, ?_, X.hears, X.method, X.code, X.here, X.tail, X.warmed, ?_, ?_, ?_⟩
  · have h := X.room
    have hU : ((T.setVm s.vm).setFrames (.invoking m args :: below)).localsInUse = s.localsInUse := by
      rw [State.localsInUse_invoking hF (meth := meth) (c := c) X.method X.code, State.localsInUse_invoking X.frames X.method X.code]
    simp only [State.hasRoom, Bool.and_eq_true, decide_eq_true_eq] at h ⊢
    obtain ⟨⟨⟨⟨h1, h2, h3, h4, h5, h6⟩, h7⟩, h8⟩, h9⟩ := h
    rw [X.frames, List.length_cons] at h2 h3
    have q1 := X.heapSize
    have q2 := X.used
    simp only [hF, hU, List.length_cons, State.stackLimits_setFrames, State.stackBytes_setFrames, hl9, hb9]
    refine ⟨⟨⟨⟨by omega, by omega, by omega, by omega, by omega, h6⟩, ?_⟩, ?_⟩, X.book⟩
    · show T.heap.size + R'.cells ≤ e.platform.maxCells
      omega
    · show T.slotsUsed + R'.slots ≤ e.platform.maxSlots
      omega
  · rw [State.stackLimits_setFrames]; rfl
  · rw [State.stackBytes_setFrames]; rfl
  · refine ⟨?_, Nat.le_refl _, Nat.le_refl _, ?_, ?_, fun a c9 h9 => ⟨c9, h9, rfl, rfl, fun _ _ => rfl⟩⟩
    · obtain ⟨t, ht, -⟩ := State.frames_cons hr
      show T.setVm s.vm = { ((T.setVm s.vm).setFrames (.invoking m args :: below)).setFrames (T.setVm s.vm).frames with heap := T.heap, slotsUsed := T.slotsUsed }
      rw [State.setFrames_setFrames, State.setFrames_self ht]
      rfl
    · show T.slotsUsed = T.slotsUsed + ((T.heap.toList.drop T.heap.size).map (·.slots.size)).sum
      rw [List.drop_eq_nil_of_le (Nat.le_of_eq Array.length_toList)]
      rfl
    · show ((T.heap.toList.drop T.heap.size).map (·.slots.size)).sum ≤ 0
      rw [List.drop_eq_nil_of_le (Nat.le_of_eq Array.length_toList)]
      exact Nat.le_refl _
/-- 'throw new E()': new; dup; invokespecial; athrow -/
theorem vx_throw0 {cc : ByteArray} {pc : Nat} (hexec : p.tables.exec = Jvm.exec) (hb : c.code = cc) (hl : l.stackTraces = false) {own cls : String} {names : List String} {ik ic mc ms : Nat} {A : Nat → Prop}
    (hown : s.vm.findClass own = some m.cls) (hcls : Bundle.fit cls = true) (hnames : ∀ n ∈ names, Bundle.fit n = true)
    (hk : (Cond.classLink own ik cls).before args s = true) (hini : (Cond.initialized cls).before args s = true) (hat : ∀ w ∈ vx_at0 own ic cls names, w.before args s = true)
    (hgood : ∀ w ∈ Cond.classLink own ik cls :: Cond.initialized cls :: vx_at0 own ic cls names, vx_ot w = true)
    (hU : vx_Zq Bundle.tN "UNASSIGNED_STACK" Bundle.steD A s s.heap) (hN : vx_Zq Bundle.tN "SUPPRESSED_SENTINEL" Bundle.listD A s s.heap) (hS : va_S A s.heap H locs) (hsize : ls.size = c.maxLocals)
    (d0 : decode cc pc = .ok (.new ik, 3)) (d3 : decode cc (pc + 3) = .ok (.dup, 1)) (d4 : decode cc (pc + 4) = .ok (.invokespecial ic, 3)) (d7 : decode cc (pc + 7) = .ok (.athrow, 1))
    (hout : ∀ x ∈ c.exceptionTable.toList, covers x (pc + 7) = false)
    (hRframes : names.length + 3 < R.frames) (hRlocals : (rest.map fun v => v.category).sum + (13 * (names.length + 1) + 42) ≤ R.locals) (hRcells : cells + 1 ≤ R.cells) (hRslots : slots + 6 ≤ R.slots) (hlocks : meth.locks = false)
    (hx : ∀ t : State, s.vm.Alike t.vm → H.size ≤ t.heap.size → (∀ q : Nat, q < H.size → t.heap[q]? = H[q]?) → XC cls s t)
    (hf : ∀ z ∈ locs, free z.base) (hc : cells + 1 ≤ mc) (hs : slots + 6 ≤ ms) :
    W p l e R s m args below meth c H locs cells slots (vx_MQ below Qc XC args s mc ms free) (F0 m pc ls rest) := by
  intro T hT X
  have htr : e.platform.stackTraces = false := (show e.platform.stackTraces = l.stackTraces by rw [X.admits.platform]).trans hl
  have Y := vx_rebase X (R' := { frames := R.frames, locals := R.locals, cells := 1, slots := 6 }) (Nat.le_refl _) (Nat.le_refl _) hRcells hRslots
  obtain ⟨s', hA⟩ : ∃ z, z = (T.setVm s.vm).setFrames (.invoking m args :: below) := ⟨_, rfl⟩
  rw [← hA] at Y
  have hvm : s'.vm = s.vm := by rw [hA]; rfl
  have hhp : s'.heap = H := by rw [hA]; exact hT
  have hW0 : s.WarmedH s'.vm := by rw [hvm]; exact State.WarmedH.refl s
  have hat' : ∀ w ∈ vx_at0 own ic cls names, w.before args s' = true := fun w hw => vx_ot_at hW0 hvm.symm (hgood w (List.mem_cons_of_mem _ (List.mem_cons_of_mem _ hw))) (hat w hw)
  have hk' : (Cond.classLink own ik cls).before args s' = true := vx_ot_at hW0 hvm.symm (hgood _ List.mem_cons_self) hk
  have hini' : (Cond.initialized cls).before args s' = true := vx_ot_at hW0 hvm.symm (hgood _ (List.mem_cons_of_mem _ List.mem_cons_self)) hini
  have hU' : vx_Zq Bundle.tN "UNASSIGNED_STACK" Bundle.steD A s' s'.heap := by rw [hhp]; exact vx_Zq.moved hW0.alike (hU.kept hS.2.1)
  have hN' : vx_Zq Bundle.tN "SUPPRESSED_SENTINEL" Bundle.listD A s' s'.heap := by rw [hhp]; exact vx_Zq.moved hW0.alike (hN.kept hS.2.1)
  have h : ∀ w ∈ Bundle.ownAtoms0 own ic cls names, w.before args s' = true := vx_own hat' (vx_isRefq hU'.1) (vx_isRefq hN'.1) hU'.2.word hN'.2.word
  have hown' : s'.vm.findClass own = some m.cls := by rw [hvm]; exact hown
  have hins : (Cond.instantiable cls 6).before args s' = true := h _ (by simp [Bundle.ownAtoms0])
  obtain ⟨vm₁, cX, kX, hfX, hkX, -, -, X₁, st1⟩ := Y.newCold hexec (own := own) (C := cls) (index := ik) (n := 6) hown' hk' hins hini'
    (g := F0 m pc ls rest) rfl (by rw [hb]; exact d0) (Nat.le_refl _) (Nat.le_refl _)
  generalize hT1 : (T.setVm vm₁).pushCell { cls := cX, slots := kX.instanceTypes.map defaultValue, vm := .none } = T1 at X₁ st1
  have hcat : (Value.ref T.heap.size).category = 1 := rfl
  have hcellA : T1.heap[T.heap.size]? = some (freshCell cX kX) := by rw [← hT1]; exact State.heap_pushCell_size _ _
  have d3' : decode c.code (pc + 3) = .ok (.dup, 1) := by rw [hb]; exact d3
  obtain ⟨U, hsteps, hrun, hend, hW, hsame, ce, hce, hO⟩ := X₁.ctorThrow0 hexec htr (own := own) (cls := cls) (names := names) (ic := ic) hown' hcls hnames h (fun x hx => nomatch hx) hfX hkX hcellA (by rw [hhp, hT]; exact Nat.le_refl _)
    (g := { method := m, pc := pc + 4, locals := ls, stack := .ref T.heap.size :: .ref T.heap.size :: rest, locked := none }) rfl hsize rfl rfl (rest := rest) rfl
    (by rw [hb]; exact d4) (by rw [hb]; exact d7) hout hRframes (by simp only [List.map_cons, List.sum_cons, hcat]; omega) hlocks
  obtain ⟨f1, f2⟩ := vx_frame hsame
  rw [hhp] at f1 f2
  have hWs : s.WarmedH U.vm := State.WarmedH.trans hW0 hW
  have hcl : s.vm.findClass cls = some ce.cls := by
    have h9 := hO.cls
    rw [hvm] at h9
    exact h9
  have hall : s.sameButNew ({ U with vm := s.vm } : State) locs mc ms := by
    subst hA
    obtain ⟨e1, e2⟩ := hsame
    rw [State.setFrames_setFrames] at e1
    have h2 : (T.setVm s.vm).sameButNew ({ U with vm := s.vm } : State) [] (0 + 1) (0 + 6) := ⟨e1, e2⟩
    have h3 := X.same.trans h2
    rw [List.append_nil] at h3
    exact h3.mono hc hs
  refine ⟨U, ?_, .threw T.heap.size, hrun, hend, Or.inr ⟨T.heap.size, rfl, cls, ce, locs, hx U hWs.alike f1 (fun q hq => f2 q hq (fun z hz => nomatch hz)), hce, hO.vm, hcl, hWs, hall, hf⟩⟩
  refine st1 _ ?_
  show Steps p.tables e below (T1.setTop { method := m, pc := pc + 3, locals := ls, stack := .ref T.heap.size :: rest, locked := none }) _
  jvm_step X₁.here [X₁.here.top, hexec, d3', Value.category]
  exact hsteps
/-- 'throw new E("text")': new; dup; ldc; invokespecial; athrow -/
theorem vx_throwS {cc : ByteArray} {pc : Nat} (hexec : p.tables.exec = Jvm.exec) (hb : c.code = cc) (hl : l.stackTraces = false) {own cls text : String} {names : List String} {ik is ic mc ms sa : Nat} {A : Nat → Prop}
    (hown : s.vm.findClass own = some m.cls) (hcls : Bundle.fit cls = true) (hnames : ∀ n ∈ names, Bundle.fit n = true)
    (hk : (Cond.classLink own ik cls).before args s = true) (hini : (Cond.initialized cls).before args s = true) (hstr : vk_R own is text sa s) (hat : ∀ w ∈ vx_atS own ic cls names, w.before args s = true)
    (hgood : ∀ w ∈ Cond.classLink own ik cls :: Cond.initialized cls :: vx_atS own ic cls names, vx_ot w = true)
    (hU : vx_Zq Bundle.tN "UNASSIGNED_STACK" Bundle.steD A s s.heap) (hN : vx_Zq Bundle.tN "SUPPRESSED_SENTINEL" Bundle.listD A s s.heap) (hS : va_S A s.heap H locs) (hsize : ls.size = c.maxLocals)
    (d0 : decode cc pc = .ok (.new ik, 3)) (d3 : decode cc (pc + 3) = .ok (.dup, 1)) (d4 : decode cc (pc + 4) = .ok (.ldc is, 2)) (d6 : decode cc (pc + 6) = .ok (.invokespecial ic, 3)) (d9 : decode cc (pc + 9) = .ok (.athrow, 1))
    (hout : ∀ x ∈ c.exceptionTable.toList, covers x (pc + 9) = false)
    (hRframes : names.length + 3 < R.frames) (hRlocals : (rest.map fun v => v.category).sum + (13 * (names.length + 1) + 43) ≤ R.locals) (hRcells : cells + 1 ≤ R.cells) (hRslots : slots + 6 ≤ R.slots) (hlocks : meth.locks = false)
    (hx : ∀ t : State, s.vm.Alike t.vm → H.size ≤ t.heap.size → (∀ q : Nat, q < H.size → t.heap[q]? = H[q]?) → XC cls s t)
    (hf : ∀ z ∈ locs, free z.base) (hc : cells + 1 ≤ mc) (hs : slots + 6 ≤ ms) :
    W p l e R s m args below meth c H locs cells slots (vx_MQ below Qc XC args s mc ms free) (F0 m pc ls rest) := by
  intro T hT X
  have htr : e.platform.stackTraces = false := (show e.platform.stackTraces = l.stackTraces by rw [X.admits.platform]).trans hl
  have Y := vx_rebase X (R' := { frames := R.frames, locals := R.locals, cells := 1, slots := 6 }) (Nat.le_refl _) (Nat.le_refl _) hRcells hRslots
  obtain ⟨s', hA⟩ : ∃ z, z = (T.setVm s.vm).setFrames (.invoking m args :: below) := ⟨_, rfl⟩
  rw [← hA] at Y
  have hvm : s'.vm = s.vm := by rw [hA]; rfl
  have hhp : s'.heap = H := by rw [hA]; exact hT
  have hW0 : s.WarmedH s'.vm := by rw [hvm]; exact State.WarmedH.refl s
  have hat' : ∀ w ∈ vx_atS own ic cls names, w.before args s' = true := fun w hw => vx_ot_at hW0 hvm.symm (hgood w (List.mem_cons_of_mem _ (List.mem_cons_of_mem _ hw))) (hat w hw)
  have hk' : (Cond.classLink own ik cls).before args s' = true := vx_ot_at hW0 hvm.symm (hgood _ List.mem_cons_self) hk
  have hini' : (Cond.initialized cls).before args s' = true := vx_ot_at hW0 hvm.symm (hgood _ (List.mem_cons_of_mem _ List.mem_cons_self)) hini
  have hU' : vx_Zq Bundle.tN "UNASSIGNED_STACK" Bundle.steD A s' s'.heap := by rw [hhp]; exact vx_Zq.moved hW0.alike (hU.kept hS.2.1)
  have hN' : vx_Zq Bundle.tN "SUPPRESSED_SENTINEL" Bundle.listD A s' s'.heap := by rw [hhp]; exact vx_Zq.moved hW0.alike (hN.kept hS.2.1)
  have h : ∀ w ∈ Bundle.ownAtoms own ic cls names, w.before args s' = true := vx_own hat' (vx_isRefq hU'.1) (vx_isRefq hN'.1) hU'.2.word hN'.2.word
  have hown' : s'.vm.findClass own = some m.cls := by rw [hvm]; exact hown
  have hins : (Cond.instantiable cls 6).before args s' = true := h _ (by simp [Bundle.ownAtoms])
  obtain ⟨vm₁, cX, kX, hfX, hkX, -, -, X₁, st1⟩ := Y.newCold hexec (own := own) (C := cls) (index := ik) (n := 6) hown' hk' hins hini'
    (g := F0 m pc ls rest) rfl (by rw [hb]; exact d0) (Nat.le_refl _) (Nat.le_refl _)
  generalize hT1 : (T.setVm vm₁).pushCell { cls := cX, slots := kX.instanceTypes.map defaultValue, vm := .none } = T1 at X₁ st1
  have hcat : (Value.ref T.heap.size).category = 1 := rfl
  have hcellA : T1.heap[T.heap.size]? = some (freshCell cX kX) := by rw [← hT1]; exact State.heap_pushCell_size _ _
  have d3' : decode c.code (pc + 3) = .ok (.dup, 1) := by rw [hb]; exact d3
  have d4' : decode c.code (pc + 4) = .ok (.ldc is, 2) := by rw [hb]; exact d4
  have hstr' : vk_R own is text sa s' := vk_R.warm hW0 hstr
  obtain ⟨U, hsteps, hrun, hend, hW, hsame, ce, hce, hO⟩ := X₁.ctorThrowS hexec htr (own := own) (cls := cls) (names := names) (ic := ic) hown' hcls hnames h (fun x hx => nomatch hx) hfX hkX hcellA (by rw [hhp, hT]; exact Nat.le_refl _) (msg := .ref sa) rfl
    (g := { method := m, pc := pc + 6, locals := ls, stack := .ref sa :: .ref T.heap.size :: .ref T.heap.size :: rest, locked := none }) rfl hsize rfl rfl (rest := rest) rfl
    (by rw [hb]; exact d6) (by rw [hb]; exact d9) hout hRframes (by simp only [List.map_cons, List.sum_cons, hcat]; omega) hlocks
  obtain ⟨f1, f2⟩ := vx_frame hsame
  rw [hhp] at f1 f2
  have hWs : s.WarmedH U.vm := State.WarmedH.trans hW0 hW
  have hcl : s.vm.findClass cls = some ce.cls := by
    have h9 := hO.cls
    rw [hvm] at h9
    exact h9
  have hall : s.sameButNew ({ U with vm := s.vm } : State) locs mc ms := by
    subst hA
    obtain ⟨e1, e2⟩ := hsame
    rw [State.setFrames_setFrames] at e1
    have h2 : (T.setVm s.vm).sameButNew ({ U with vm := s.vm } : State) [] (0 + 1) (0 + 6) := ⟨e1, e2⟩
    have h3 := X.same.trans h2
    rw [List.append_nil] at h3
    exact h3.mono hc hs
  refine ⟨U, ?_, .threw T.heap.size, hrun, hend, Or.inr ⟨T.heap.size, rfl, cls, ce, locs, hx U hWs.alike f1 (fun q hq => f2 q hq (fun z hz => nomatch hz)), hce, hO.vm, hcl, hWs, hall, hf⟩⟩
  refine st1 _ ?_
  show Steps p.tables e below (T1.setTop { method := m, pc := pc + 3, locals := ls, stack := .ref T.heap.size :: rest, locked := none }) _
  jvm_step X₁.here [X₁.here.top, hexec, d3', Value.category]
  exact X₁.ldcString hexec (own := own) (text := text) (index := is) (a := sa) hown' hstr'.1 hstr'.2
    (g := { method := m, pc := pc + 4, locals := ls, stack := .ref T.heap.size :: .ref T.heap.size :: rest, locked := none }) rfl d4' _ hsteps
/-- 'throw new E("text")', the text by a wide index -/
theorem vx_throwSW {cc : ByteArray} {pc : Nat} (hexec : p.tables.exec = Jvm.exec) (hb : c.code = cc) (hl : l.stackTraces = false) {own cls text : String} {names : List String} {ik is ic mc ms sa : Nat} {A : Nat → Prop}
    (hown : s.vm.findClass own = some m.cls) (hcls : Bundle.fit cls = true) (hnames : ∀ n ∈ names, Bundle.fit n = true)
    (hk : (Cond.classLink own ik cls).before args s = true) (hini : (Cond.initialized cls).before args s = true) (hstr : vk_R own is text sa s) (hat : ∀ w ∈ vx_atS own ic cls names, w.before args s = true)
    (hgood : ∀ w ∈ Cond.classLink own ik cls :: Cond.initialized cls :: vx_atS own ic cls names, vx_ot w = true)
    (hU : vx_Zq Bundle.tN "UNASSIGNED_STACK" Bundle.steD A s s.heap) (hN : vx_Zq Bundle.tN "SUPPRESSED_SENTINEL" Bundle.listD A s s.heap) (hS : va_S A s.heap H locs) (hsize : ls.size = c.maxLocals)
    (d0 : decode cc pc = .ok (.new ik, 3)) (d3 : decode cc (pc + 3) = .ok (.dup, 1)) (d4 : decode cc (pc + 4) = .ok (.ldc_w is, 3)) (d7 : decode cc (pc + 7) = .ok (.invokespecial ic, 3)) (d10 : decode cc (pc + 10) = .ok (.athrow, 1))
    (hout : ∀ x ∈ c.exceptionTable.toList, covers x (pc + 10) = false)
    (hRframes : names.length + 3 < R.frames) (hRlocals : (rest.map fun v => v.category).sum + (13 * (names.length + 1) + 43) ≤ R.locals) (hRcells : cells + 1 ≤ R.cells) (hRslots : slots + 6 ≤ R.slots) (hlocks : meth.locks = false)
    (hx : ∀ t : State, s.vm.Alike t.vm → H.size ≤ t.heap.size → (∀ q : Nat, q < H.size → t.heap[q]? = H[q]?) → XC cls s t)
    (hf : ∀ z ∈ locs, free z.base) (hc : cells + 1 ≤ mc) (hs : slots + 6 ≤ ms) :
    W p l e R s m args below meth c H locs cells slots (vx_MQ below Qc XC args s mc ms free) (F0 m pc ls rest) := by
  intro T hT X
  have htr : e.platform.stackTraces = false := (show e.platform.stackTraces = l.stackTraces by rw [X.admits.platform]).trans hl
  have Y := vx_rebase X (R' := { frames := R.frames, locals := R.locals, cells := 1, slots := 6 }) (Nat.le_refl _) (Nat.le_refl _) hRcells hRslots
  obtain ⟨s', hA⟩ : ∃ z, z = (T.setVm s.vm).setFrames (.invoking m args :: below) := ⟨_, rfl⟩
  rw [← hA] at Y
  have hvm : s'.vm = s.vm := by rw [hA]; rfl
  have hhp : s'.heap = H := by rw [hA]; exact hT
  have hW0 : s.WarmedH s'.vm := by rw [hvm]; exact State.WarmedH.refl s
  have hat' : ∀ w ∈ vx_atS own ic cls names, w.before args s' = true := fun w hw => vx_ot_at hW0 hvm.symm (hgood w (List.mem_cons_of_mem _ (List.mem_cons_of_mem _ hw))) (hat w hw)
  have hk' : (Cond.classLink own ik cls).before args s' = true := vx_ot_at hW0 hvm.symm (hgood _ List.mem_cons_self) hk
  have hini' : (Cond.initialized cls).before args s' = true := vx_ot_at hW0 hvm.symm (hgood _ (List.mem_cons_of_mem _ List.mem_cons_self)) hini
  have hU' : vx_Zq Bundle.tN "UNASSIGNED_STACK" Bundle.steD A s' s'.heap := by rw [hhp]; exact vx_Zq.moved hW0.alike (hU.kept hS.2.1)
  have hN' : vx_Zq Bundle.tN "SUPPRESSED_SENTINEL" Bundle.listD A s' s'.heap := by rw [hhp]; exact vx_Zq.moved hW0.alike (hN.kept hS.2.1)
  have h : ∀ w ∈ Bundle.ownAtoms own ic cls names, w.before args s' = true := vx_own hat' (vx_isRefq hU'.1) (vx_isRefq hN'.1) hU'.2.word hN'.2.word
  have hown' : s'.vm.findClass own = some m.cls := by rw [hvm]; exact hown
  have hins : (Cond.instantiable cls 6).before args s' = true := h _ (by simp [Bundle.ownAtoms])
  obtain ⟨vm₁, cX, kX, hfX, hkX, -, -, X₁, st1⟩ := Y.newCold hexec (own := own) (C := cls) (index := ik) (n := 6) hown' hk' hins hini'
    (g := F0 m pc ls rest) rfl (by rw [hb]; exact d0) (Nat.le_refl _) (Nat.le_refl _)
  generalize hT1 : (T.setVm vm₁).pushCell { cls := cX, slots := kX.instanceTypes.map defaultValue, vm := .none } = T1 at X₁ st1
  have hcat : (Value.ref T.heap.size).category = 1 := rfl
  have hcellA : T1.heap[T.heap.size]? = some (freshCell cX kX) := by rw [← hT1]; exact State.heap_pushCell_size _ _
  have d3' : decode c.code (pc + 3) = .ok (.dup, 1) := by rw [hb]; exact d3
  have d4' : decode c.code (pc + 4) = .ok (.ldc_w is, 3) := by rw [hb]; exact d4
  have hstr' : vk_R own is text sa s' := vk_R.warm hW0 hstr
  obtain ⟨U, hsteps, hrun, hend, hW, hsame, ce, hce, hO⟩ := X₁.ctorThrowS hexec htr (own := own) (cls := cls) (names := names) (ic := ic) hown' hcls hnames h (fun x hx => nomatch hx) hfX hkX hcellA (by rw [hhp, hT]; exact Nat.le_refl _) (msg := .ref sa) rfl
    (g := { method := m, pc := pc + 7, locals := ls, stack := .ref sa :: .ref T.heap.size :: .ref T.heap.size :: rest, locked := none }) rfl hsize rfl rfl (rest := rest) rfl
    (by rw [hb]; exact d7) (by rw [hb]; exact d10) hout hRframes (by simp only [List.map_cons, List.sum_cons, hcat]; omega) hlocks
  obtain ⟨f1, f2⟩ := vx_frame hsame
  rw [hhp] at f1 f2
  have hWs : s.WarmedH U.vm := State.WarmedH.trans hW0 hW
  have hcl : s.vm.findClass cls = some ce.cls := by
    have h9 := hO.cls
    rw [hvm] at h9
    exact h9
  have hall : s.sameButNew ({ U with vm := s.vm } : State) locs mc ms := by
    subst hA
    obtain ⟨e1, e2⟩ := hsame
    rw [State.setFrames_setFrames] at e1
    have h2 : (T.setVm s.vm).sameButNew ({ U with vm := s.vm } : State) [] (0 + 1) (0 + 6) := ⟨e1, e2⟩
    have h3 := X.same.trans h2
    rw [List.append_nil] at h3
    exact h3.mono hc hs
  refine ⟨U, ?_, .threw T.heap.size, hrun, hend, Or.inr ⟨T.heap.size, rfl, cls, ce, locs, hx U hWs.alike f1 (fun q hq => f2 q hq (fun z hz => nomatch hz)), hce, hO.vm, hcl, hWs, hall, hf⟩⟩
  refine st1 _ ?_
  show Steps p.tables e below (T1.setTop { method := m, pc := pc + 3, locals := ls, stack := .ref T.heap.size :: rest, locked := none }) _
  jvm_step X₁.here [X₁.here.top, hexec, d3', Value.category]
  exact X₁.ldcStringW hexec (own := own) (text := text) (index := is) (a := sa) hown' hstr'.1 hstr'.2
    (g := { method := m, pc := pc + 4, locals := ls, stack := .ref T.heap.size :: .ref T.heap.size :: rest, locked := none }) rfl d4' _ hsteps
end Ends
section Bodies
variable {l : Launch}
theorem vx_ofW {y : MethodName} {ws ws' : List Cond} {rm : Room} {Pc : Array Value → State → Prop} {Qc : Array Value → State → Outcome → State → Prop} {XC : String → State → State → Prop} {mc ms : Nat} {free : Addr → Prop} {cc : ByteArray} {maxL : Nat} {ret : Option FieldType}
    (hy : plainName y.cls = true) (hw : ws = Cond.code y cc maxL ret :: ws')
    (body : ∀ p e s m args below meth c s₁, BodyLoose p l y (headSpec ws rm) cc maxL ret e s m args below meth c s₁ → c.maxLocals = maxL → (∀ x ∈ c.exceptionTable.toList, False) → Pc args s →
      W p l e (headSpec ws rm).room s m args below meth c s.heap [] 0 0 (vx_MQ below Qc XC args s mc ms free) (entryFrame m args maxL)) : vx_Met l y ws rm Pc Qc XC mc ms free := by
  refine MetFree.of_bodyS (code := cc) (maxLocals := maxL) (ret := ret) hy ?_ ?_
  · intro args s m h hn
    obtain ⟨meth, c, h1, h2, h3, h4, h5, h6, -, -⟩ := Cond.code_spec hn (atoms_spec (ws := ws) h _ (by rw [hw]; exact List.mem_cons_self))
    exact ⟨meth, c, h1, h2, h3, h4, h5, h6⟩
  · intro p e s m args below meth c s₁ B hml hP _
    have hh0 : s₁.heap = s.heap := by rw [B.state]; rfl
    have ht : ∀ x ∈ c.exceptionTable.toList, False := by
      obtain ⟨meth9, c9, h1, h2, -, -, -, -, h7, -⟩ := Cond.code_spec B.named (atoms_spec (ws := ws) B.pre _ (by rw [hw]; exact List.mem_cons_self))
      cases Option.some.inj (h1.symm.trans B.method)
      cases Option.some.inj (h2.symm.trans (Stand.of_body B).code)
      intro x hx
      rw [Array.isEmpty_iff.mp h7] at hx
      cases hx
    obtain ⟨t, a1, o, b1, b2, b3⟩ := body p e s m args below meth c s₁ B hml ht hP s₁ hh0 (Stand.of_body B)
    exact ⟨t, o, a1, b1, b2, b3⟩
/-- the table of a body with handlers -/
theorem vx_table {p : Program} {x y : MethodName} {S : Spec} {cc bytes : ByteArray} {maxL maxL' : Nat} {ret ret' : Option FieldType} {e : Env} {s s₁ : State} {m : MethodId} {args : Array Value} {below : List Frame} {meth : Method} {c : Code} {hh : List (Nat × Nat × Nat × Nat)}
    (B : BodyLoose p l y S cc maxL ret e s m args below meth c s₁) (h : (Cond.codeWith y bytes maxL' ret' hh).before args s = true) : c.exceptionTable.toList = tableOf hh := by
  obtain ⟨m9, meth9, c9, hn9, h1, h2, -, -, h6, -⟩ := Cond.codeWith_spec h
  cases Option.some.inj (hn9.symm.trans B.named)
  cases Option.some.inj (h1.symm.trans B.method)
  cases Option.some.inj (h2.symm.trans (Stand.of_body B).code)
  rw [← h6, table_eq]
end Bodies
end VXA
/-! ===== END ===== -/
/-! ===== BEGIN a static call of a method with an exception table ===== -/
section VXS
variable {p : Program} {l : Launch} {e : Env} {R : Room} {s : State} {m : MethodId} {args : Array Value} {below : List Frame} {meth : Method} {c : Code} {T : State} {H : Heap} {locs : List Loc} {cells slots : Nat}
abbrev vx_CSW (R : Room) (s : State) (args : Array Value) (own : String) (index : Nat) (y : MethodName) (bytes : ByteArray) (maxL : Nat) (ret : Option FieldType) (hh : List (Nat × Nat × Nat × Nat)) (ws : List Cond) (rm : Room) (mc ms n : Nat) : Prop :=
  (rm.cells = mc ∧ rm.slots = ms ∧ rm.frames + 1 ≤ R.frames ∧ 8 + (maxL + 11) + rm.locals ≤ R.locals ∧ (∀ w ∈ ws, ∀ (a' : Array Value) (U : State), s.WarmedH U.vm → w.before a' U = true) ∧ Cond.codeWith y bytes maxL ret hh ∈ ws) ∧
  (Cond.codeWith y bytes maxL ret hh).before args s = true ∧ (Cond.initialized y.cls).before args s = true ∧ (y.cls ≠ "java/lang/invoke/MethodHandle" ∧ y.cls ≠ "java/lang/invoke/VarHandle") ∧
  (∀ sig, parseMethodDescriptor y.desc = some sig → n = sig.parameters.length) ∧ (Cond.methodLink own index y).before args s = true ∧ (Cond.static y).before args s = true
theorem vx_cwSW {own : String} {index maxL mc ms : Nat} {y : MethodName} {bytes : ByteArray} {ret : Option FieldType} {hh : List (Nat × Nat × Nat × Nat)} {Ts ws ws' : List Cond} {rm : Room} (n : Nat) (ht : ∀ w ∈ Ts, w.before args s = true) (hT : GoodIn Ts (va_wsS own index y ws)) (hw : ws = Cond.codeWith y bytes maxL ret hh :: ws') (hrc : rm.cells = mc) (hrs : rm.slots = ms)
    (hd : y.cls ≠ "java/lang/invoke/MethodHandle" ∧ y.cls ≠ "java/lang/invoke/VarHandle" ∧ (parseMethodDescriptor y.desc).map (fun d => d.parameters.length) = some n) (hR : rm.frames + 1 ≤ R.frames ∧ 8 + (maxL + 11) + rm.locals ≤ R.locals) :
    vx_CSW R s args own index y bytes maxL ret hh ws rm mc ms n := by
  have ok : ∀ w ∈ va_wsS own index y ws, w.before args s = true := fun w h => ht w (hT w h).1
  have hG : GoodIn Ts ws := fun w h => hT w (by unfold va_wsS; exact List.mem_append_right _ h)
  have hc : Cond.codeWith y bytes maxL ret hh ∈ ws := by rw [hw]; exact List.mem_cons_self
  refine ⟨⟨hrc, hrs, hR.1, hR.2, pay_in ht hG, hc⟩, ht _ (hG _ hc).1, ok _ (by simp [va_wsS]), ⟨hd.1, hd.2.1⟩, fun sig h => ?_, ok _ (by simp [va_wsS]), ok _ (by simp [va_wsS])⟩
  have h2 := hd.2.2
  rw [h] at h2
  exact (Option.some.inj h2).symm
theorem vx_callSW (X : Stand p l e R s m args below meth c T locs cells slots) (hexec : p.tables.exec = Jvm.exec) {own : String} {index : Nat} {y : MethodName} {bytes : ByteArray} {maxL : Nat} {ret : Option FieldType} {hh : List (Nat × Nat × Nat × Nat)}
    (hown : s.vm.findClass own = some m.cls) (hlink : (Cond.methodLink own index y).before args s = true) (hstat : (Cond.static y).before args s = true) (hinit : (Cond.initialized y.cls).before args s = true)
    (hcode : (Cond.codeWith y bytes maxL ret hh).before args s = true) (hy : y.cls ≠ "java/lang/invoke/MethodHandle" ∧ y.cls ≠ "java/lang/invoke/VarHandle")
    {W9 : Nat} {Pre : Pt → Array Value → Prop} {Post : Pt → Array Value → Option Value → Pt → Prop} (hK : Back l R p e below s args y 3 W9 Pre Post)
    {g : JFrame} (hg : g.method = m) (hsize : g.locals.size = c.maxLocals) {argsL rest : List Value} (hlen : ∀ sig, parseMethodDescriptor y.desc = some sig → argsL.length = sig.parameters.length)
    (hstack : g.stack = argsL.reverse ++ rest) (hW : 2 * g.monitorRoom + (rest.map fun v => v.category).sum ≤ W9) (hdg : decode c.code g.pc = .ok (.invokestatic index, 3))
    (hpre : ∀ vm₁, s.WarmedH vm₁ → Pre ⟨T.setVm vm₁, locs, cells, slots⟩ argsL.toArray) :
    ∃ (v : Option Value) (vm₁ : Vm) (B : Pt), s.WarmedH vm₁ ∧ Stand p l e R s m args below meth c B.U B.locs B.cells B.slots ∧ Post ⟨T.setVm vm₁, locs, cells, slots⟩ argsL.toArray v B ∧
      ∀ target, Steps p.tables e below (B.U.setTop { g with pc := g.pc + 3, stack := v.toList ++ rest }) target → Steps p.tables e below (T.setTop g) target := by
  obtain ⟨mk, methM, cM, hnamed, hmethM, -, -, -, -, -, -, hsigM⟩ := Cond.codeWith_spec hcode
  have hstatic : methM.isStatic = true := Cond.static_spec hnamed hmethM hstat
  obtain ⟨kP, hkP, -⟩ := className_of_methodNamed hnamed
  have hinitP : kP.init = .initialized := Cond.initialized_spec (findClass_of_methodNamed hnamed) hkP hinit
  obtain ⟨vm₁, X₁, hstep₁⟩ := X.invokestatic hexec hown hlink hnamed hmethM hstatic hkP hinitP hy (g := g) hg (argsL := argsL) (rest := rest) (hlen _ hsigM) hstack hdg
  obtain ⟨v, B, X', hpost, hsteps⟩ := hK m meth c ⟨T.setVm vm₁, locs, cells, slots⟩ { g with stack := rest } (.invokestatic index) mk argsL.toArray X₁ hg hsize hdg hW (X₁.named hnamed) (hpre vm₁ X₁.warmed)
  exact ⟨v, vm₁, B, X₁.warmed, X', hpost, fun target h => hstep₁ _ fun acts => by rw [doInvoke_state]; exact hsteps.trans h⟩
theorem vx_runSW {y : MethodName} {bytes cc : ByteArray} {maxL nL mc ms n index : Nat} {ret : Option FieldType} {hh : List (Nat × Nat × Nat × Nat)} {ws : List Cond} {rm : Room} {Pc : Array Value → State → Prop} {Qc : Array Value → State → Outcome → State → Prop} {free : Addr → Prop} {Ts : List Cond} {own : String} {As rest : List Value} {g : JFrame}
    (S : CallFix p m c cc nL s args Ts own) (hM : Met l y ws rm Pc Qc mc ms free) (cw : vx_CSW R s args own index y bytes maxL ret hh ws rm mc ms n) (hp : PreS s H Pc As)
    (hg : g.method = m) (hn : As.length = n) (hsize : g.locals.size = nL) (hstack : g.stack = As.reverse ++ rest) (hW : 2 * g.monitorRoom + (rest.map fun v => v.category).sum ≤ 8) (hdg : decode cc g.pc = .ok (.invokestatic index, 3)) (hf : cells + mc ≤ R.cells ∧ slots + ms ≤ R.slots) :
    va_Run p l e R s m args below meth c H locs cells slots mc ms g rest (Qc As.toArray) (free) := by
  obtain ⟨⟨hrc, hrs, hfr, hlo, hws, hcw⟩, hcode, hini, hy, hlen, hl, hstt⟩ := cw
  have hK : Back l R p e below s args y 3 8 (PreOf R mc ms Pc) (PostOf Qc mc ms free) := va_backW (hh := hh) (bytes := bytes) (maxL := maxL) (ret := ret) hM hp.1 hrc hrs hfr hlo hws hcw (fun a' U hW => word_at hW (Or.inl (by first | rfl | simp [Cond.onTables, Cond.keeps, Cond.steady])) hini)
  obtain ⟨hx, hb, hml, ho, -⟩ := S
  intro T hT X
  obtain ⟨v, vm₁, ⟨U', l2, c2, s2⟩, hW₁, X', ⟨g', mk, t, L, e1, e2, hq, h1, hL, h2, h3⟩, st⟩ := vx_callSW X hx (hh := hh) (bytes := bytes) (maxL := maxL) (ret := ret) ho hl hstt hini hcode hy hK hg (hsize.trans hml.symm) (argsL := As) (rest := rest) (fun sig h => hn.trans (hlen sig h)) hstack hW (by rw [hb]; exact hdg)
    (fun vm₁ hW₁ => ⟨hf.1, hf.2, hp.2 (T.setVm vm₁) hT hW₁⟩)
  dsimp only [Pt.U, Pt.locs, Pt.cells, Pt.slots] at X' e1 e2 h1 h2 h3 st
  subst h1; subst h2; subst h3
  exact ⟨v, (T.setVm vm₁).calling g' mk As.toArray, t, U', L, hT, X', hL, e1, e2, hq, st⟩
/-- not caught here, past rows that name other classes: it goes on to the caller -/
theorem vx_outP {p : Program} {l : Launch} {e : Env} {R : Room} {s : State} {m : MethodId} {args : Array Value} {below : List Frame} {meth : Method} {c : Code} {H : Heap} {locs : List Loc} {cells slots : Nat} {free : Addr → Prop} {ls : Array Slot} {rest : List Value} {Qc : Array Value → State → Outcome → State → Prop} {XC : String → State → State → Prop}
    {pc : Nat} {own E : String} {ce : Cell} {q : Addr} {mc ms : Nat} (hown : s.vm.findClass own = some m.cls) (hlocks : meth.locks = false)
    (hpass : ∀ z ∈ c.exceptionTable.toList, covers z pc = false ∨ (z.catchType ≠ 0 ∧ ∃ nm : String, (Cond.classLink own z.catchType nm).before args s = true ∧ va_Nc E nm s)) (hcell : H[q]? = some ce) (hv : ce.vm = .none) (hcl : s.vm.findClass E = some ce.cls)
    (hx : ∀ t : State, t.heap = H → s.vm.Alike t.vm → XC E s t) (hf : ∀ z ∈ locs, free z.base) (hc : cells ≤ mc) (hs : slots ≤ ms) :
    vx_W p l e R s m args below meth c H locs cells slots (vx_MQ below Qc XC args s mc ms free) (F0 m pc ls rest) q := by
  intro T hT X
  have hpl : e.platform.magicAccessors = ({} : Platform).magicAccessors := by rw [X.admits.platform]
  obtain ⟨vm', hW', X', st⟩ := X.outThrough hlocks q (g := F0 m pc ls rest) rfl rfl rfl (cell := ce) (by rw [hT]; exact hcell) (by rw [hv]; rfl)
    (by obtain ⟨k9, h9, -⟩ := Vm.findClass_spec hcl; exact ⟨k9, h9⟩) (fun z hz => by
      rcases hpass z hz with h | ⟨hz0, nm, hl1, hn1⟩
      · exact Or.inl h
      · obtain ⟨c6, hc6, hcl6⟩ := Cond.classLink_spec hown hl1 e.platform hpl
        obtain ⟨a8, b8, h1, h2, h3⟩ := hn1
        cases Option.some.inj (h1.symm.trans hcl)
        cases Option.some.inj (h2.symm.trans hc6)
        exact Or.inr ⟨hz0, _, hcl6, h3⟩)
  obtain ⟨g₀, hfr⟩ := X'.frames_eq
  have hcell9 : ((T.setVm vm').setFrames (.throwing q :: below)).heap[q]? = some ce := by
    show T.heap[q]? = some ce
    rw [hT]; exact hcell
  have hend : Ended ((T.setVm vm').setFrames (.throwing q :: below)) below (.threw q) := State.frames_setFrames _ (State.cur_lt_of_frames hfr)
  refine ⟨(T.setVm vm').setFrames (.throwing q :: below), ?_, .threw q, X'.here.running, hend, Or.inr ⟨q, rfl, E, ce, locs, hx _ hT (X'.ends _).1.alike, hcell9, hv, hcl, (X'.ends _).1, (X'.ends _).2.mono hc hs, hf⟩⟩
  rw [X.pushThrowing_eq]
  exact st
/-- a thing of a world lies in the heap -/
theorem vx_lt {D : va_G} {cl : List vw_C} {ws : va_W} {H1 : Heap} (h : va_P D cl ws H1) {k : Nat} {q : Nat × va_E} (hk : ws[k]? = some q) : q.1 < H1.size := (h k q hk).lt
end VXS
/-! ===== END ===== -/
/-! ===== BEGIN methods with a table of their own: called by a name, returning or throwing ===== -/
section VXH
/-! vx_backW, vx_callVX, vx_callSX, vx_callVW, vx_runVW, vx_runVX, vx_runSX, vx_ofWH follow the same proofs as their sisters above (Free/Laws.lean, Shelf42/LK1.lean); vx_outP calls Shelf42/NT130.lean (outThrough). -/
section
variable {l : Launch} {R : Room} {p : Program} {e : Env} {below : List Frame} {s : State} {sargs : Array Value} {y : MethodName} {len W9 : Nat}
theorem vx_backW {ws : List Cond} {rm : Room} {Pc : Array Value → State → Prop} {Qc : Array Value → State → Outcome → State → Prop} {XC : String → State → State → Prop} {mc ms : Nat} {free : Addr → Prop} {bytes : ByteArray} {maxL : Nat} {ret : Option FieldType} {hh : List (Nat × Nat × Nat × Nat)}
    (hM : vx_Met l y ws rm Pc Qc XC mc ms free) (hblind : FrameBlind Pc) (hrc : rm.cells = mc) (hrs : rm.slots = ms)
    (hframes : rm.frames + 1 ≤ R.frames) (hlocals : W9 + (maxL + 11) + rm.locals ≤ R.locals)
    (hws : ∀ w ∈ ws, ∀ a' U, s.WarmedH U.vm → w.before a' U = true) (hcode : Cond.codeWith y bytes maxL ret hh ∈ ws) (hinit : ∀ a' U, s.WarmedH U.vm → (Cond.initialized y.cls).before a' U = true) :
    vx_Back l R p e below s sargs y len W9 (PreOf R mc ms Pc) (PostOf Qc mc ms free) (vx_Post XC mc ms free) := by
  intro m meth c A g ig mk a X hg hsize hdg hW hn hp
  have h1 : (headSpec ws rm).pre.before a A.U = true := atoms_intro fun w hw => hws w hw _ _ X.warmed
  have h2 : (Cond.codeWith y bytes maxL ret hh).before a A.U = true := hws _ hcode _ _ X.warmed
  have h3 : (Cond.initialized y.cls).before a A.U = true := hinit _ _ X.warmed
  have h4 : A.cells + (headSpec ws rm).room.cells ≤ R.cells := by rw [show (headSpec ws rm).room.cells = mc from hrc]; exact hp.1
  have h5 : A.slots + (headSpec ws rm).room.slots ≤ R.slots := by rw [show (headSpec ws rm).room.slots = ms from hrs]; exact hp.2.1
  have hPc : Pc a (A.U.calling g mk a) := hblind _ _ _ _ hp.2.2
  obtain ⟨U, Ls, c0, s0⟩ := A
  dsimp only [Pt.U, Pt.locs, Pt.cells, Pt.slots] at h1 h2 h3 h4 h5 X hn hPc ⊢
  obtain ⟨m9, methY, cY, hn9, hmY, hcY, -, hlY, -⟩ := Cond.codeWith_spec h2
  cases Option.some.inj (hn9.symm.trans hn)
  obtain ⟨kY, hkY, -⟩ := className_of_methodNamed hn
  have hinitY : kY.init = .initialized := Cond.initialized_spec (findClass_of_methodNamed hn) hkY h3
  have h : At U g.method c below := by rw [hg]; exact X.here
  have hlocals9 : W9 + (maxL + 11) + (headSpec ws rm).room.locals ≤ R.locals := hlocals
  have happ : (headSpec ws rm).appliesLoose y e.platform (U.calling g mk a) = true :=
    Spec.appliesLoose_calling (g := g) h hdg hn hkY hinitY
      (X.room_calling (g := g) (R' := (headSpec ws rm).room) hsize hmY hcY hframes (by rw [hlY]; omega) h4 h5) h1
  obtain ⟨mid, hmid⟩ := h.above
  have hfr : (U.setTop g).frames = (.java g :: mid) ++ below := by rw [State.frames_setTop' g h.top, hmid]; rfl
  obtain ⟨o, s₂, hsteps, -, hend, hq⟩ := Steps.callFree hM p X.admits X.cas X.clock (acts := []) hfr happ hPc trivial
  have hq' : vx_Q Qc XC mc ms free a (U.calling g mk a) o s₂ := hq
  rw [State.frames_setTop' g h.top] at hend
  obtain ⟨g₀, hg0⟩ := Option.isSome_iff_exists.mp h.top
  obtain ⟨r, hr⟩ := State.topJava?_eq_some.mp hg0
  have hr' : (({ U with heap := s₂.heap, slotsUsed := s₂.slotsUsed } : State).setVm s₂.vm).frames = .java g₀ :: r := hr
  rcases hq' with ⟨hqc, L, hfe, hL⟩ | ⟨q, rfl, E, ce, L, hx, hce, hcv, hcl, hW₂, hsm, hL⟩
  · obtain ⟨⟨v, rfl⟩, hW₂, e2, q2, q3, q4, q5, q6⟩ := id hfe
    have e3 : s₂ = ({ (U.calling g mk a).setFrames s₂.frames with heap := s₂.heap, slotsUsed := s₂.slotsUsed } : State).setVm s₂.vm := by
      have : s₂ = ({ s₂ with vm := (U.calling g mk a).vm } : State).setVm s₂.vm := rfl
      rw [e2] at this
      exact this
    obtain ⟨c₂, i₂, len₂, hc₂, hd₂, hf₂⟩ := hend
    have hW' : U.WarmedH s₂.vm := hW₂
    have hcc : c₂ = c := by
      have h1 : s₂.code? g.method = U.code? g.method := by
        rw [State.code?_eq, State.code?_eq, hW'.alike.method?]
      exact Option.some.inj (hc₂.symm.trans (h1.trans h.code))
    subst hcc
    have hlen : len₂ = len := by rw [hdg] at hd₂; cases hd₂; rfl
    subst hlen
    have hs₂ : s₂ = (({ U with heap := s₂.heap, slotsUsed := s₂.slotsUsed } : State).setVm s₂.vm).setTop { g with pc := g.pc + len₂, stack := v.toList ++ g.stack } := by
      refine e3.trans ?_
      rw [hf₂, State.calling_eq h.top, State.setFrames_setFrames, State.setTop_of_frames _ hr', hr]
      rfl
    have hsame : U.sameButNew ({ U with heap := s₂.heap, slotsUsed := s₂.slotsUsed } : State) L mc ms := by
      refine ⟨?_, q2, q3, q4, q5, q6⟩
      obtain ⟨t, ht, -⟩ := State.frames_cons hr
      show ({ U with heap := s₂.heap, slotsUsed := s₂.slotsUsed } : State) = { U.setFrames U.frames with heap := s₂.heap, slotsUsed := s₂.slotsUsed }
      rw [State.setFrames_self ht]
    subst hg
    refine Or.inl ⟨v, ⟨(({ U with heap := s₂.heap, slotsUsed := s₂.slotsUsed } : State).setVm s₂.vm), Ls ++ L, c0 + mc, s0 + ms⟩,
      ⟨X.admits, X.cas, X.clock, X.frames, X.room, X.hears, X.method, X.code, (X.here.setHeapUsed s₂.heap s₂.slotsUsed).setVm hW'.alike, X.tail, State.WarmedH.trans X.warmed hW', X.limits, X.bytes, X.same.trans (hsame.setVm s.vm)⟩,
      ⟨g, mk, s₂, L, rfl, rfl, hqc, rfl, hL, rfl, rfl⟩, ?_⟩
    show Steps p.tables e below _ ((({ U with heap := s₂.heap, slotsUsed := s₂.slotsUsed } : State).setVm s₂.vm).setTop { g with pc := g.pc + len₂, stack := v.toList ++ g.stack })
    rw [← hs₂]
    exact hsteps
  · obtain ⟨e2, q2, q3, q4, q5, q6⟩ := id hsm
    have e3 : s₂ = ({ (U.calling g mk a).setFrames s₂.frames with heap := s₂.heap, slotsUsed := s₂.slotsUsed } : State).setVm s₂.vm := by
      have : s₂ = ({ s₂ with vm := (U.calling g mk a).vm } : State).setVm s₂.vm := rfl
      rw [e2] at this
      exact this
    have hf₂ : s₂.frames = .throwing q :: .java g :: U.frames.tail := hend
    have hW' : U.WarmedH s₂.vm := hW₂
    have hs₂ : s₂ = ((({ U with heap := s₂.heap, slotsUsed := s₂.slotsUsed } : State).setVm s₂.vm).setTop g).pushFrame (.throwing q) := by
      refine e3.trans ?_
      rw [hf₂, State.calling_eq h.top, State.setFrames_setFrames, State.pushFrame, State.frames_setTop _ hr', State.setTop_of_frames _ hr', State.setFrames_setFrames, hr]
      rfl
    have hsame : U.sameButNew ({ U with heap := s₂.heap, slotsUsed := s₂.slotsUsed } : State) L mc ms := by
      refine ⟨?_, q2, q3, q4, q5, q6⟩
      obtain ⟨t, ht, -⟩ := State.frames_cons hr
      show ({ U with heap := s₂.heap, slotsUsed := s₂.slotsUsed } : State) = { U.setFrames U.frames with heap := s₂.heap, slotsUsed := s₂.slotsUsed }
      rw [State.setFrames_self ht]
    subst hg
    refine Or.inr ⟨q, ⟨(({ U with heap := s₂.heap, slotsUsed := s₂.slotsUsed } : State).setVm s₂.vm), Ls ++ L, c0 + mc, s0 + ms⟩,
      ⟨X.admits, X.cas, X.clock, X.frames, X.room, X.hears, X.method, X.code, (X.here.setHeapUsed s₂.heap s₂.slotsUsed).setVm hW'.alike, X.tail, State.WarmedH.trans X.warmed hW', X.limits, X.bytes, X.same.trans (hsame.setVm s.vm)⟩,
      ⟨g, mk, s₂, L, E, ce, rfl, rfl, hx, hce, hcv, hcl, rfl, hL, rfl, rfl⟩, ?_⟩
    show Steps p.tables e below _ (((({ U with heap := s₂.heap, slotsUsed := s₂.slotsUsed } : State).setVm s₂.vm).setTop g).pushFrame (.throwing q))
    rw [← hs₂]
    exact hsteps
end
variable {p : Program} {l : Launch} {e : Env} {R : Room} {s : State} {m : MethodId} {args : Array Value} {below : List Frame} {meth : Method} {c : Code} {T : State} {H : Heap} {locs : List Loc} {cells slots : Nat}
theorem vx_callVX (X : Stand p l e R s m args below meth c T locs cells slots) (hexec : p.tables.exec = Jvm.exec) {own C : String} {index : Nat} {y : MethodName} {bytes : ByteArray} {maxL : Nat} {ret : Option FieldType} {hh : List (Nat × Nat × Nat × Nat)}
    (hown : s.vm.findClass own = some m.cls) (hlink : (Cond.methodLink own index y).before args s = true) (hinst : (Cond.instanceMethod y).before args s = true) (hsel : (Cond.selects C y y).before args s = true)
    (hcode : (Cond.codeWith y bytes maxL ret hh).before args s = true) (hy : y.cls ≠ "java/lang/invoke/MethodHandle" ∧ y.cls ≠ "java/lang/invoke/VarHandle")
    {W9 : Nat} {Pre : Pt → Array Value → Prop} {Post : Pt → Array Value → Option Value → Pt → Prop} {PostX : Pt → Array Value → Addr → Pt → Prop} (hK : vx_Back l R p e below s args y 3 W9 Pre Post PostX)
    {b : Addr} {cellB : Cell} (hcell : T.heap[b]? = some cellB) (hobj : cellB.vm.isStatics = false) (hcls : s.vm.findClass C = some cellB.cls)
    {g : JFrame} (hg : g.method = m) (hsize : g.locals.size = c.maxLocals) {argsL rest : List Value} (hlen : ∀ sig, parseMethodDescriptor y.desc = some sig → argsL.length = sig.parameters.length)
    (hstack : g.stack = argsL.reverse ++ .ref b :: rest) (hW : 2 * g.monitorRoom + (rest.map fun v => v.category).sum ≤ W9) (hdg : decode c.code g.pc = .ok (.invokevirtual index, 3))
    (hpre : ∀ vm₁, s.WarmedH vm₁ → Pre ⟨T.setVm vm₁, locs, cells, slots⟩ (Value.ref b :: argsL).toArray) :
    (∃ (v : Option Value) (vm₁ : Vm) (B : Pt), s.WarmedH vm₁ ∧ Stand p l e R s m args below meth c B.U B.locs B.cells B.slots ∧ Post ⟨T.setVm vm₁, locs, cells, slots⟩ (Value.ref b :: argsL).toArray v B ∧
      ∀ target, Steps p.tables e below (B.U.setTop { g with pc := g.pc + 3, stack := v.toList ++ rest }) target → Steps p.tables e below (T.setTop g) target) ∨
    (∃ (q : Addr) (vm₁ : Vm) (B : Pt), s.WarmedH vm₁ ∧ Stand p l e R s m args below meth c B.U B.locs B.cells B.slots ∧ PostX ⟨T.setVm vm₁, locs, cells, slots⟩ (Value.ref b :: argsL).toArray q B ∧
      Steps p.tables e below (T.setTop g) ((B.U.setTop { g with stack := rest }).pushFrame (.throwing q))) := by
  obtain ⟨mk, methM, hnamed, hmethM, hstM, habM⟩ := Cond.instanceMethod_spec hinst
  obtain ⟨m8, methM', cM, hn8, hmethM', -, -, -, -, -, -, hsigM⟩ := Cond.codeWith_spec hcode
  cases Option.some.inj (hn8.symm.trans hnamed)
  cases hmethM.symm.trans hmethM'
  obtain ⟨c2, r2, m2, q1, q2, q3, q4, kP, hkP, hkPi⟩ := Cond.selects_spec hsel
  cases hcls.symm.trans q1
  cases (State.methodFound?_of_named hnamed hy).symm.trans q2
  cases hnamed.symm.trans q3
  have hselP : selectMethod e.platform s.vm cellB.cls mk = .method mk := by rw [Launch.admits_selectMethod X.admits]; exact q4
  obtain ⟨vm₁, X₁, hstep₁⟩ := X.invokevirtual hexec hown hlink hnamed hmethM hstM hkP hkPi hy (a := b) (cell := cellB) hcell
    (fun z h => by rw [h] at hobj; cases hobj) hselP hmethM habM hkP hkPi (g := g) hg (argsL := argsL) (rest := rest) (hlen _ hsigM) hstack hdg
  rcases hK m meth c ⟨T.setVm vm₁, locs, cells, slots⟩ { g with stack := rest } (.invokevirtual index) mk (Value.ref b :: argsL).toArray X₁ hg hsize hdg hW (X₁.named hnamed) (hpre vm₁ X₁.warmed) with ⟨v, B, X', hpost, hsteps⟩ | ⟨q, B, X', hpost, hsteps⟩
  · exact Or.inl ⟨v, vm₁, B, X₁.warmed, X', hpost, fun target h => hstep₁ _ fun acts => by rw [doInvoke_state]; exact hsteps.trans h⟩
  · exact Or.inr ⟨q, vm₁, B, X₁.warmed, X', hpost, hstep₁ _ fun acts => by rw [doInvoke_state]; exact hsteps⟩
theorem vx_callSX (X : Stand p l e R s m args below meth c T locs cells slots) (hexec : p.tables.exec = Jvm.exec) {own : String} {index : Nat} {y : MethodName} {bytes : ByteArray} {maxL : Nat} {ret : Option FieldType} {hh : List (Nat × Nat × Nat × Nat)}
    (hown : s.vm.findClass own = some m.cls) (hlink : (Cond.methodLink own index y).before args s = true) (hstat : (Cond.static y).before args s = true) (hinit : (Cond.initialized y.cls).before args s = true)
    (hcode : (Cond.codeWith y bytes maxL ret hh).before args s = true) (hy : y.cls ≠ "java/lang/invoke/MethodHandle" ∧ y.cls ≠ "java/lang/invoke/VarHandle")
    {W9 : Nat} {Pre : Pt → Array Value → Prop} {Post : Pt → Array Value → Option Value → Pt → Prop} {PostX : Pt → Array Value → Addr → Pt → Prop} (hK : vx_Back l R p e below s args y 3 W9 Pre Post PostX)
    {g : JFrame} (hg : g.method = m) (hsize : g.locals.size = c.maxLocals) {argsL rest : List Value} (hlen : ∀ sig, parseMethodDescriptor y.desc = some sig → argsL.length = sig.parameters.length)
    (hstack : g.stack = argsL.reverse ++ rest) (hW : 2 * g.monitorRoom + (rest.map fun v => v.category).sum ≤ W9) (hdg : decode c.code g.pc = .ok (.invokestatic index, 3))
    (hpre : ∀ vm₁, s.WarmedH vm₁ → Pre ⟨T.setVm vm₁, locs, cells, slots⟩ argsL.toArray) :
    (∃ (v : Option Value) (vm₁ : Vm) (B : Pt), s.WarmedH vm₁ ∧ Stand p l e R s m args below meth c B.U B.locs B.cells B.slots ∧ Post ⟨T.setVm vm₁, locs, cells, slots⟩ argsL.toArray v B ∧
      ∀ target, Steps p.tables e below (B.U.setTop { g with pc := g.pc + 3, stack := v.toList ++ rest }) target → Steps p.tables e below (T.setTop g) target) ∨
    (∃ (q : Addr) (vm₁ : Vm) (B : Pt), s.WarmedH vm₁ ∧ Stand p l e R s m args below meth c B.U B.locs B.cells B.slots ∧ PostX ⟨T.setVm vm₁, locs, cells, slots⟩ argsL.toArray q B ∧
      Steps p.tables e below (T.setTop g) ((B.U.setTop { g with stack := rest }).pushFrame (.throwing q))) := by
  obtain ⟨mk, methM, cM, hnamed, hmethM, -, -, -, -, -, -, hsigM⟩ := Cond.codeWith_spec hcode
  have hstatic : methM.isStatic = true := Cond.static_spec hnamed hmethM hstat
  obtain ⟨kP, hkP, -⟩ := className_of_methodNamed hnamed
  have hinitP : kP.init = .initialized := Cond.initialized_spec (findClass_of_methodNamed hnamed) hkP hinit
  obtain ⟨vm₁, X₁, hstep₁⟩ := X.invokestatic hexec hown hlink hnamed hmethM hstatic hkP hinitP hy (g := g) hg (argsL := argsL) (rest := rest) (hlen _ hsigM) hstack hdg
  rcases hK m meth c ⟨T.setVm vm₁, locs, cells, slots⟩ { g with stack := rest } (.invokestatic index) mk argsL.toArray X₁ hg hsize hdg hW (X₁.named hnamed) (hpre vm₁ X₁.warmed) with ⟨v, B, X', hpost, hsteps⟩ | ⟨q, B, X', hpost, hsteps⟩
  · exact Or.inl ⟨v, vm₁, B, X₁.warmed, X', hpost, fun target h => hstep₁ _ fun acts => by rw [doInvoke_state]; exact hsteps.trans h⟩
  · exact Or.inr ⟨q, vm₁, B, X₁.warmed, X', hpost, hstep₁ _ fun acts => by rw [doInvoke_state]; exact hsteps⟩
theorem vx_callVW (X : Stand p l e R s m args below meth c T locs cells slots) (hexec : p.tables.exec = Jvm.exec) {own C : String} {index : Nat} {y : MethodName} {bytes : ByteArray} {maxL : Nat} {ret : Option FieldType} {hh : List (Nat × Nat × Nat × Nat)}
    (hown : s.vm.findClass own = some m.cls) (hlink : (Cond.methodLink own index y).before args s = true) (hinst : (Cond.instanceMethod y).before args s = true) (hsel : (Cond.selects C y y).before args s = true)
    (hcode : (Cond.codeWith y bytes maxL ret hh).before args s = true) (hy : y.cls ≠ "java/lang/invoke/MethodHandle" ∧ y.cls ≠ "java/lang/invoke/VarHandle")
    {W9 : Nat} {Pre : Pt → Array Value → Prop} {Post : Pt → Array Value → Option Value → Pt → Prop} (hK : Back l R p e below s args y 3 W9 Pre Post)
    {b : Addr} {cellB : Cell} (hcell : T.heap[b]? = some cellB) (hobj : cellB.vm.isStatics = false) (hcls : s.vm.findClass C = some cellB.cls)
    {g : JFrame} (hg : g.method = m) (hsize : g.locals.size = c.maxLocals) {argsL rest : List Value} (hlen : ∀ sig, parseMethodDescriptor y.desc = some sig → argsL.length = sig.parameters.length)
    (hstack : g.stack = argsL.reverse ++ .ref b :: rest) (hW : 2 * g.monitorRoom + (rest.map fun v => v.category).sum ≤ W9) (hdg : decode c.code g.pc = .ok (.invokevirtual index, 3))
    (hpre : ∀ vm₁, s.WarmedH vm₁ → Pre ⟨T.setVm vm₁, locs, cells, slots⟩ (Value.ref b :: argsL).toArray) :
    ∃ (v : Option Value) (vm₁ : Vm) (B : Pt), s.WarmedH vm₁ ∧ Stand p l e R s m args below meth c B.U B.locs B.cells B.slots ∧ Post ⟨T.setVm vm₁, locs, cells, slots⟩ (Value.ref b :: argsL).toArray v B ∧
      ∀ target, Steps p.tables e below (B.U.setTop { g with pc := g.pc + 3, stack := v.toList ++ rest }) target → Steps p.tables e below (T.setTop g) target := by
  obtain ⟨mk, methM, hnamed, hmethM, hstM, habM⟩ := Cond.instanceMethod_spec hinst
  obtain ⟨m8, methM', cM, hn8, hmethM', -, -, -, -, -, -, hsigM⟩ := Cond.codeWith_spec hcode
  cases Option.some.inj (hn8.symm.trans hnamed)
  cases hmethM.symm.trans hmethM'
  obtain ⟨c2, r2, m2, q1, q2, q3, q4, kP, hkP, hkPi⟩ := Cond.selects_spec hsel
  cases hcls.symm.trans q1
  cases (State.methodFound?_of_named hnamed hy).symm.trans q2
  cases hnamed.symm.trans q3
  have hselP : selectMethod e.platform s.vm cellB.cls mk = .method mk := by rw [Launch.admits_selectMethod X.admits]; exact q4
  obtain ⟨vm₁, X₁, hstep₁⟩ := X.invokevirtual hexec hown hlink hnamed hmethM hstM hkP hkPi hy (a := b) (cell := cellB) hcell
    (fun z h => by rw [h] at hobj; cases hobj) hselP hmethM habM hkP hkPi (g := g) hg (argsL := argsL) (rest := rest) (hlen _ hsigM) hstack hdg
  obtain ⟨v, B, X', hpost, hsteps⟩ := hK m meth c ⟨T.setVm vm₁, locs, cells, slots⟩ { g with stack := rest } (.invokevirtual index) mk (Value.ref b :: argsL).toArray X₁ hg hsize hdg hW (X₁.named hnamed) (hpre vm₁ X₁.warmed)
  exact ⟨v, vm₁, B, X₁.warmed, X', hpost, fun target h => hstep₁ _ fun acts => by rw [doInvoke_state]; exact hsteps.trans h⟩
abbrev vx_CVW (R : Room) (s : State) (args : Array Value) (own C : String) (index : Nat) (y : MethodName) (bytes : ByteArray) (maxL : Nat) (ret : Option FieldType) (hh : List (Nat × Nat × Nat × Nat)) (ws : List Cond) (rm : Room) (mc ms n : Nat) : Prop :=
  (rm.cells = mc ∧ rm.slots = ms ∧ rm.frames + 1 ≤ R.frames ∧ 8 + (maxL + 11) + rm.locals ≤ R.locals ∧ (∀ w ∈ ws, ∀ (a' : Array Value) (U : State), s.WarmedH U.vm → w.before a' U = true) ∧ Cond.codeWith y bytes maxL ret hh ∈ ws) ∧
  (Cond.codeWith y bytes maxL ret hh).before args s = true ∧ (Cond.initialized y.cls).before args s = true ∧ (y.cls ≠ "java/lang/invoke/MethodHandle" ∧ y.cls ≠ "java/lang/invoke/VarHandle") ∧
  (∀ sig, parseMethodDescriptor y.desc = some sig → n = sig.parameters.length) ∧ (Cond.methodLink own index y).before args s = true ∧ (Cond.instanceMethod y).before args s = true ∧ (Cond.selects C y y).before args s = true
theorem vx_cwVW {own C : String} {index maxL mc ms : Nat} {y : MethodName} {bytes : ByteArray} {ret : Option FieldType} {hh : List (Nat × Nat × Nat × Nat)} {Ts ws ws' : List Cond} {rm : Room} (n : Nat) (ht : ∀ w ∈ Ts, w.before args s = true) (hT : GoodIn Ts (wsV own index C y ws)) (hw : ws = Cond.codeWith y bytes maxL ret hh :: ws') (hrc : rm.cells = mc) (hrs : rm.slots = ms)
    (hd : y.cls = C ∧ y.cls ≠ "java/lang/invoke/MethodHandle" ∧ y.cls ≠ "java/lang/invoke/VarHandle" ∧ (parseMethodDescriptor y.desc).map (fun d => d.parameters.length) = some n) (hR : rm.frames + 1 ≤ R.frames ∧ 8 + (maxL + 11) + rm.locals ≤ R.locals) :
    vx_CVW R s args own C index y bytes maxL ret hh ws rm mc ms n := by
  obtain ⟨hC, hd⟩ := hd
  subst hC
  have ok : ∀ w ∈ wsV own index y.cls y ws, w.before args s = true := fun w h => ht w (hT w h).1
  have hG : GoodIn Ts ws := fun w h => hT w (by unfold wsV; exact List.mem_append_right _ h)
  have hc : Cond.codeWith y bytes maxL ret hh ∈ ws := by rw [hw]; exact List.mem_cons_self
  refine ⟨⟨hrc, hrs, hR.1, hR.2, pay_in ht hG, hc⟩, ht _ (hG _ hc).1, ok _ (by simp [wsV]), ⟨hd.1, hd.2.1⟩, fun sig h => ?_, ok _ (by simp [wsV]), ok _ (by simp [wsV]), ok _ (by simp [wsV])⟩
  have h2 := hd.2.2
  rw [h] at h2
  exact (Option.some.inj h2).symm
theorem vx_runVW {y : MethodName} {bytes cc : ByteArray} {maxL nL mc ms n index : Nat} {ret : Option FieldType} {hh : List (Nat × Nat × Nat × Nat)} {ws : List Cond} {rm : Room} {Pc : Array Value → State → Prop} {Qc : Array Value → State → Outcome → State → Prop} {free : Addr → Prop} {Ts : List Cond} {own C : String} {b : Addr} {As rest : List Value} {g : JFrame}
    (S : CallFix p m c cc nL s args Ts own) (hM : Met l y ws rm Pc Qc mc ms free) (cw : vx_CVW R s args own C index y bytes maxL ret hh ws rm mc ms n) (hp : PreV s H C b Pc As)
    (hg : g.method = m) (hn : As.length = n) (hsize : g.locals.size = nL) (hstack : g.stack = As.reverse ++ .ref b :: rest) (hW : 2 * g.monitorRoom + (rest.map fun v => v.category).sum ≤ 8) (hdg : decode cc g.pc = .ok (.invokevirtual index, 3)) (hf : cells + mc ≤ R.cells ∧ slots + ms ≤ R.slots) :
    va_Run p l e R s m args below meth c H locs cells slots mc ms g rest (Qc (Value.ref b :: As).toArray) free := by
  obtain ⟨⟨hrc, hrs, hfr, hlo, hws, hcw⟩, hcode, hini, hy, hlen, hl, hin, hse⟩ := cw
  have hK : Back l R p e below s args y 3 8 (PreOf R mc ms Pc) (PostOf Qc mc ms free) := va_backW (hh := hh) (bytes := bytes) (maxL := maxL) (ret := ret) hM hp.1 hrc hrs hfr hlo hws hcw (fun a' U hW => word_at hW (Or.inl (by first | rfl | simp [Cond.onTables, Cond.keeps, Cond.steady])) hini)
  obtain ⟨hx, hb, hml, ho, -⟩ := S
  obtain ⟨-, ⟨cellB, hcB, hoB, hclB⟩, hPc⟩ := hp
  intro T hT X
  obtain ⟨v, vm₁, ⟨U', l2, c2, s2⟩, hW₁, X', ⟨g', mk, t, L, e1, e2, hq, h1, hL, h2, h3⟩, st⟩ := vx_callVW X hx (C := C) (hh := hh) (bytes := bytes) (maxL := maxL) (ret := ret) ho hl hin hse hcode hy hK (by rw [hT]; exact hcB) hoB hclB hg (hsize.trans hml.symm) (argsL := As) (rest := rest) (fun sig h => hn.trans (hlen sig h)) hstack hW (by rw [hb]; exact hdg)
    (fun vm₁ hW₁ => ⟨hf.1, hf.2, hPc (T.setVm vm₁) hT hW₁⟩)
  dsimp only [Pt.U, Pt.locs, Pt.cells, Pt.slots] at X' e1 e2 h1 h2 h3 st
  subst h1; subst h2; subst h3
  exact ⟨v, (T.setVm vm₁).calling g' mk (Value.ref b :: As).toArray, t, U', L, hT, X', hL, e1, e2, hq, st⟩
section
variable {y : MethodName} {bytes cc : ByteArray} {maxL nL mc ms n index : Nat} {ret : Option FieldType} {ws : List Cond} {rm : Room} {Pc : Array Value → State → Prop} {Qc : Array Value → State → Outcome → State → Prop} {XC : String → State → State → Prop} {free : Addr → Prop} {Ts : List Cond} {own C : String} {b : Addr} {As rest : List Value} {g : JFrame}
theorem vx_runVX {hh : List (Nat × Nat × Nat × Nat)} (S : CallFix p m c cc nL s args Ts own) (hM : vx_Met l y ws rm Pc Qc XC mc ms free) (cw : vx_CVW R s args own C index y bytes maxL ret hh ws rm mc ms n) (hp : PreV s H C b Pc As)
    (hg : g.method = m) (hn : As.length = n) (hsize : g.locals.size = nL) (hstack : g.stack = As.reverse ++ .ref b :: rest) (hW : 2 * g.monitorRoom + (rest.map fun v => v.category).sum ≤ 8) (hdg : decode cc g.pc = .ok (.invokevirtual index, 3)) (hf : cells + mc ≤ R.cells ∧ slots + ms ≤ R.slots) :
    vx_Run p l e R s m args below meth c H locs cells slots mc ms g rest (Qc (Value.ref b :: As).toArray) XC free := by
  obtain ⟨⟨hrc, hrs, hfr, hlo, hws, hcw⟩, hcode, hini, hy, hlen, hl, hin, hse⟩ := cw
  have hK : vx_Back l R p e below s args y 3 8 (PreOf R mc ms Pc) (PostOf Qc mc ms free) (vx_Post XC mc ms free) := vx_backW (hh := hh) (bytes := bytes) (maxL := maxL) (ret := ret) hM hp.1 hrc hrs hfr hlo hws hcw (fun a' U hW => word_at hW (Or.inl (by first | rfl | simp [Cond.onTables, Cond.keeps, Cond.steady])) hini)
  obtain ⟨hx, hb, hml, ho, -⟩ := S
  obtain ⟨-, ⟨cellB, hcB, hoB, hclB⟩, hPc⟩ := hp
  intro T hT X
  rcases vx_callVX X hx (C := C) (hh := hh) (bytes := bytes) (maxL := maxL) (ret := ret) ho hl hin hse hcode hy hK (by rw [hT]; exact hcB) hoB hclB hg (hsize.trans hml.symm) (argsL := As) (rest := rest) (fun sig h => hn.trans (hlen sig h)) hstack hW (by rw [hb]; exact hdg)
    (fun vm₁ hW₁ => ⟨hf.1, hf.2, hPc (T.setVm vm₁) hT hW₁⟩) with ⟨v, vm₁, ⟨U', l2, c2, s2⟩, hW₁, X', ⟨g', mk, t, L, e1, e2, hq, h1, hL, h2, h3⟩, st⟩ | ⟨q, vm₁, ⟨U', l2, c2, s2⟩, hW₁, X', ⟨g', mk, t, L, E, ce, e1, e2, hq, hce, hcv, hcl, h1, hL, h2, h3⟩, st⟩
  · dsimp only [Pt.U, Pt.locs, Pt.cells, Pt.slots] at X' e1 e2 h1 h2 h3 st
    subst h1; subst h2; subst h3
    exact Or.inl ⟨v, (T.setVm vm₁).calling g' mk (Value.ref b :: As).toArray, t, U', L, hT, X', hL, e1, e2, hq, st⟩
  · dsimp only [Pt.U, Pt.locs, Pt.cells, Pt.slots] at X' e1 e2 h1 h2 h3 st hcl
    subst h1; subst h2; subst h3
    exact Or.inr ⟨q, (T.setVm vm₁).calling g' mk (Value.ref b :: As).toArray, t, U', L, E, ce, hT, X', hL, e1, e2, hq, hce, hcv, vx_cls hW₁ hcl, st⟩
theorem vx_runSX {hh : List (Nat × Nat × Nat × Nat)} (S : CallFix p m c cc nL s args Ts own) (hM : vx_Met l y ws rm Pc Qc XC mc ms free) (cw : vx_CSW R s args own index y bytes maxL ret hh ws rm mc ms n) (hp : PreS s H Pc As)
    (hg : g.method = m) (hn : As.length = n) (hsize : g.locals.size = nL) (hstack : g.stack = As.reverse ++ rest) (hW : 2 * g.monitorRoom + (rest.map fun v => v.category).sum ≤ 8) (hdg : decode cc g.pc = .ok (.invokestatic index, 3)) (hf : cells + mc ≤ R.cells ∧ slots + ms ≤ R.slots) :
    vx_Run p l e R s m args below meth c H locs cells slots mc ms g rest (Qc As.toArray) XC free := by
  obtain ⟨⟨hrc, hrs, hfr, hlo, hws, hcw⟩, hcode, hini, hy, hlen, hl, hstt⟩ := cw
  have hK : vx_Back l R p e below s args y 3 8 (PreOf R mc ms Pc) (PostOf Qc mc ms free) (vx_Post XC mc ms free) := vx_backW (hh := hh) (bytes := bytes) (maxL := maxL) (ret := ret) hM hp.1 hrc hrs hfr hlo hws hcw (fun a' U hW => word_at hW (Or.inl (by first | rfl | simp [Cond.onTables, Cond.keeps, Cond.steady])) hini)
  obtain ⟨hx, hb, hml, ho, -⟩ := S
  intro T hT X
  rcases vx_callSX X hx (hh := hh) (bytes := bytes) (maxL := maxL) (ret := ret) ho hl hstt hini hcode hy hK hg (hsize.trans hml.symm) (argsL := As) (rest := rest) (fun sig h => hn.trans (hlen sig h)) hstack hW (by rw [hb]; exact hdg)
    (fun vm₁ hW₁ => ⟨hf.1, hf.2, hp.2 (T.setVm vm₁) hT hW₁⟩) with ⟨v, vm₁, ⟨U', l2, c2, s2⟩, hW₁, X', ⟨g', mk, t, L, e1, e2, hq, h1, hL, h2, h3⟩, st⟩ | ⟨q, vm₁, ⟨U', l2, c2, s2⟩, hW₁, X', ⟨g', mk, t, L, E, ce, e1, e2, hq, hce, hcv, hcl, h1, hL, h2, h3⟩, st⟩
  · dsimp only [Pt.U, Pt.locs, Pt.cells, Pt.slots] at X' e1 e2 h1 h2 h3 st
    subst h1; subst h2; subst h3
    exact Or.inl ⟨v, (T.setVm vm₁).calling g' mk As.toArray, t, U', L, hT, X', hL, e1, e2, hq, st⟩
  · dsimp only [Pt.U, Pt.locs, Pt.cells, Pt.slots] at X' e1 e2 h1 h2 h3 st hcl
    subst h1; subst h2; subst h3
    exact Or.inr ⟨q, (T.setVm vm₁).calling g' mk As.toArray, t, U', L, E, ce, hT, X', hL, e1, e2, hq, hce, hcv, vx_cls hW₁ hcl, st⟩
end
end VXH
theorem vx_ofWH {l : Launch} {y : MethodName} {ws ws' : List Cond} {rm : Room} {Pc : Array Value → State → Prop} {Qc : Array Value → State → Outcome → State → Prop} {XC : String → State → State → Prop} {mc ms : Nat} {free : Addr → Prop} {cc : ByteArray} {maxL : Nat} {ret : Option FieldType} {hh : List (Nat × Nat × Nat × Nat)}
    (hy : plainName y.cls = true) (hw : ws = Cond.codeWith y cc maxL ret hh :: ws')
    (body : ∀ p e s m args below meth c s₁, BodyLoose p l y (headSpec ws rm) cc maxL ret e s m args below meth c s₁ → c.maxLocals = maxL → Pc args s →
      W p l e (headSpec ws rm).room s m args below meth c s.heap [] 0 0 (vx_MQ below Qc XC args s mc ms free) (entryFrame m args maxL)) : vx_Met l y ws rm Pc Qc XC mc ms free := by
  refine MetFree.of_bodyS (code := cc) (maxLocals := maxL) (ret := ret) hy ?_ ?_
  · intro args s m h hn
    obtain ⟨m9, meth, c, hn9, h1, h2, h3, h4, -, h5, h6, -⟩ := Cond.codeWith_spec (atoms_spec (ws := ws) h _ (by rw [hw]; exact List.mem_cons_self))
    cases hn.symm.trans hn9
    exact ⟨meth, c, h1, h2, h3, h4, h5, h6⟩
  · intro p e s m args below meth c s₁ B hml hP _
    have hh0 : s₁.heap = s.heap := by rw [B.state]; rfl
    obtain ⟨t, a1, o, b1, b2, b3⟩ := body p e s m args below meth c s₁ B hml hP s₁ hh0 (Stand.of_body B)
    exact ⟨t, o, a1, b1, b2, b3⟩
/-! ===== END ===== -/

/-! ===== BEGIN printed: names, fields, word lists, decode rows ===== -/
end
section
def RX0 : String := "CharRows$Ranges"
def TX0 : u_T := fun k => match k with
  | 0 => ("CharRows$Ranges", "lows", "[I", true)
  | 1 => ("CharRows$Ranges", "highs", "[I", true)
  | _ => ("CharRows$Ranges", "count", "I", false)
def tyX0 : Nat → FieldType := fun k => match k with
  | 0 => .array .int
  | 1 => .array .int
  | _ => .int
abbrev wsX00 : List Cond := u_ws RX0 TX0 3
theorem nmX0 : ∀ a, a < 3 → ∀ b, b < 3 → a ≠ b → (TX0 a).2.1 ≠ (TX0 b).2.1 := by decide +kernel
theorem tyX0_ok : ∀ k, k < 3 → parseFieldDescriptor (TX0 k).2.2.1 = some (tyX0 k) := by decide +kernel
abbrev cX0_init : ByteArray := prog_2_method_1_code
def yX0_init : MethodName := ⟨RX0, "<init>", "()V"⟩
abbrev cX0_empty : ByteArray := prog_2_method_2_code
def yX0_empty : MethodName := ⟨RX0, "empty", "()V"⟩
abbrev cX0_become : ByteArray := prog_2_method_3_code
def yX0_become : MethodName := ⟨RX0, "become", "(LCharRows$Ranges;)V"⟩
abbrev cX0_holds : ByteArray := prog_2_method_4_code
def yX0_holds : MethodName := ⟨RX0, "holds", "(I)Z"⟩
abbrev cX0_endAround : ByteArray := prog_2_method_5_code
def yX0_endAround : MethodName := ⟨RX0, "endAround", "(I)I"⟩
abbrev cX0_firstEndingFrom : ByteArray := prog_2_method_6_code
def yX0_firstEndingFrom : MethodName := ⟨RX0, "firstEndingFrom", "(I)I"⟩
abbrev cX0_put : ByteArray := prog_2_method_7_code
def yX0_put : MethodName := ⟨RX0, "put", "(II)V"⟩
abbrev cX0_insert : ByteArray := prog_2_method_8_code
def yX0_insert : MethodName := ⟨RX0, "insert", "(III)V"⟩
abbrev cX0_unite : ByteArray := prog_2_method_9_code
def yX0_unite : MethodName := ⟨RX0, "unite", "(IIII)V"⟩
abbrev cX0_shift : ByteArray := prog_2_method_10_code
def yX0_shift : MethodName := ⟨RX0, "shift", "(II)V"⟩
def RX1 : String := "CharRows"
def TX1 : u_T := fun k => match k with
  | 0 => ("CharRows", "held", "LCharRows$Ranges;", false)
  | 1 => ("CharRows", "spare", "LCharRows$Ranges;", false)
  | _ => ("CharRows", "kept", "LCharRows$Ranges;", true)
def tyX1 : Nat → FieldType := fun k => match k with
  | 0 => .object "CharRows$Ranges"
  | 1 => .object "CharRows$Ranges"
  | _ => .object "CharRows$Ranges"
abbrev wsX10 : List Cond := u_ws RX1 TX1 3
theorem nmX1 : ∀ a, a < 3 → ∀ b, b < 3 → a ≠ b → (TX1 a).2.1 ≠ (TX1 b).2.1 := by decide +kernel
theorem tyX1_ok : ∀ k, k < 3 → parseFieldDescriptor (TX1 k).2.2.1 = some (tyX1 k) := by decide +kernel
abbrev cX1_init : ByteArray := prog_1_method_1_code
def yX1_init : MethodName := ⟨RX1, "<init>", "()V"⟩
abbrev cX1_add : ByteArray := prog_1_method_2_code
def yX1_add : MethodName := ⟨RX1, "add", "(II)I"⟩
abbrev cX1_clear : ByteArray := prog_1_method_3_code
def yX1_clear : MethodName := ⟨RX1, "clear", "()V"⟩
abbrev cX1_fold : ByteArray := prog_1_method_4_code
def yX1_fold : MethodName := ⟨RX1, "fold", "()I"⟩
abbrev cX1_turn : ByteArray := prog_1_method_5_code
def yX1_turn : MethodName := ⟨RX1, "turn", "()I"⟩
abbrev cX1_keep : ByteArray := prog_1_method_6_code
def yX1_keep : MethodName := ⟨RX1, "keep", "()V"⟩
abbrev cX1_join : ByteArray := prog_1_method_7_code
def yX1_join : MethodName := ⟨RX1, "join", "()I"⟩
abbrev cX1_has : ByteArray := prog_1_method_8_code
def yX1_has : MethodName := ⟨RX1, "has", "(I)Z"⟩
abbrev cX1_ranges : ByteArray := prog_1_method_9_code
def yX1_ranges : MethodName := ⟨RX1, "ranges", "()I"⟩
abbrev cX1_range : ByteArray := prog_1_method_10_code
def yX1_range : MethodName := ⟨RX1, "range", "(II)I"⟩
abbrev cX1_rows : ByteArray := prog_1_method_11_code
def yX1_rows : MethodName := ⟨RX1, "rows", "()I"⟩
abbrev cX1_row : ByteArray := prog_1_method_12_code
def yX1_row : MethodName := ⟨RX1, "row", "(III)I"⟩
abbrev cX1_takes : ByteArray := prog_1_method_13_code
def yX1_takes : MethodName := ⟨RX1, "takes", "(II)Z"⟩
abbrev cX1_putCharacters : ByteArray := prog_1_method_14_code
def yX1_putCharacters : MethodName := ⟨RX1, "putCharacters", "(LCharRows$Ranges;II)V"⟩
abbrev cX1_foldLetters : ByteArray := prog_1_method_15_code
def yX1_foldLetters : MethodName := ⟨RX1, "foldLetters", "()V"⟩
abbrev cX1_foldPairs : ByteArray := prog_1_method_16_code
def yX1_foldPairs : MethodName := ⟨RX1, "foldPairs", "()V"⟩
abbrev cX1_foldTwo : ByteArray := prog_1_method_17_code
def yX1_foldTwo : MethodName := ⟨RX1, "foldTwo", "(II)V"⟩
abbrev cX1_countRows : ByteArray := prog_1_method_18_code
def yX1_countRows : MethodName := ⟨RX1, "countRows", "(II)I"⟩
abbrev cX1_firstOfRow : ByteArray := prog_1_method_19_code
def yX1_firstOfRow : MethodName := ⟨RX1, "firstOfRow", "(I)I"⟩
abbrev cX1_skipRows : ByteArray := prog_1_method_20_code
def yX1_skipRows : MethodName := ⟨RX1, "skipRows", "(III)I"⟩
abbrev cX1_lastOfRow : ByteArray := prog_1_method_21_code
def yX1_lastOfRow : MethodName := ⟨RX1, "lastOfRow", "(II)I"⟩
abbrev cX1_byteCount : ByteArray := prog_1_method_22_code
def yX1_byteCount : MethodName := ⟨RX1, "byteCount", "(I)I"⟩
abbrev cX1_lastOfLength : ByteArray := prog_1_method_23_code
def yX1_lastOfLength : MethodName := ⟨RX1, "lastOfLength", "(I)I"⟩
abbrev cX1_byteOf : ByteArray := prog_1_method_24_code
def yX1_byteOf : MethodName := ⟨RX1, "byteOf", "(III)I"⟩
abbrev cX1_leadMark : ByteArray := prog_1_method_25_code
def yX1_leadMark : MethodName := ⟨RX1, "leadMark", "(I)I"⟩
abbrev cX1_byteAt : ByteArray := prog_1_method_26_code
def yX1_byteAt : MethodName := ⟨RX1, "byteAt", "(II)I"⟩
abbrev cX1_decode : ByteArray := prog_1_method_27_code
def yX1_decode : MethodName := ⟨RX1, "decode", "(II)I"⟩
abbrev cX1_startsWithBytesOf : ByteArray := prog_1_method_28_code
def yX1_startsWithBytesOf : MethodName := ⟨RX1, "startsWithBytesOf", "(III)Z"⟩
def RX2 : String := "CharRowsModel"
def TX2 : u_T := fun k => match k with
  | _ => ("", "", "", false)
def tyX2 : Nat → FieldType := fun k => match k with
  | _ => .int
abbrev wsX20 : List Cond := u_ws RX2 TX2 0
theorem nmX2 : ∀ a, a < 0 → ∀ b, b < 0 → a ≠ b → (TX2 a).2.1 ≠ (TX2 b).2.1 := by decide +kernel
theorem tyX2_ok : ∀ k, k < 0 → parseFieldDescriptor (TX2 k).2.2.1 = some (tyX2 k) := by decide +kernel
def RJ9 : String := "java/lang/Math"
def TJ9 : u_T := fun k => match k with
  | _ => ("", "", "", false)
def tyJ9 : Nat → FieldType := fun k => match k with
  | _ => .int
abbrev wsJ90 : List Cond := u_ws RJ9 TJ9 0
theorem nmJ9 : ∀ a, a < 0 → ∀ b, b < 0 → a ≠ b → (TJ9 a).2.1 ≠ (TJ9 b).2.1 := by decide +kernel
theorem tyJ9_ok : ∀ k, k < 0 → parseFieldDescriptor (TJ9 k).2.2.1 = some (tyJ9 k) := by decide +kernel
abbrev cJ9_max_7cf53 : ByteArray := prog_7_method_65_code
def yJ9_max_7cf53 : MethodName := ⟨RJ9, "max", "(II)I"⟩
abbrev cJ9_min_7cf53 : ByteArray := prog_7_method_69_code
def yJ9_min_7cf53 : MethodName := ⟨RJ9, "min", "(II)I"⟩
def RJ0 : String := "java/lang/String"
def TJ0 : u_T := fun k => match k with
  | _ => ("", "", "", false)
def tyJ0 : Nat → FieldType := fun k => match k with
  | _ => .int
abbrev wsJ00 : List Cond := u_ws RJ0 TJ0 0
theorem nmJ0 : ∀ a, a < 0 → ∀ b, b < 0 → a ≠ b → (TJ0 a).2.1 ≠ (TJ0 b).2.1 := by decide +kernel
theorem tyJ0_ok : ∀ k, k < 0 → parseFieldDescriptor (TJ0 k).2.2.1 = some (tyJ0 k) := by decide +kernel
def RJ10 : String := "java/lang/System"
def TJ10 : u_T := fun k => match k with
  | _ => ("", "", "", false)
def tyJ10 : Nat → FieldType := fun k => match k with
  | _ => .int
abbrev wsJ100 : List Cond := u_ws RJ10 TJ10 0
theorem nmJ10 : ∀ a, a < 0 → ∀ b, b < 0 → a ≠ b → (TJ10 a).2.1 ≠ (TJ10 b).2.1 := by decide +kernel
theorem tyJ10_ok : ∀ k, k < 0 → parseFieldDescriptor (TJ10 k).2.2.1 = some (tyJ10 k) := by decide +kernel
def RL : String := "CharRowsLaw"
abbrev cL_add : ByteArray := method_3_code
def yL_add : MethodName := ⟨RL, "add", "(LCharRows;II[J)I"⟩
abbrev cL_law : ByteArray := code
def yL_law : MethodName := ⟨RL, "law", "([I)Z"⟩
def wsX0_init : List Cond := .code yX0_init cX0_init 1 none :: ([.methodLink RX0 1 objectInit, .instanceMethod objectInit, .code objectInit ⟨#[0xb1]⟩ 1 none, .arrayClass .int, .fieldLink RX0 9 "CharRows$Ranges" "lows" "[I", .fieldLink RX0 13 "CharRows$Ranges" "highs" "[I", .fieldLink RX0 16 "CharRows$Ranges" "count" "I"] ++ wsX00)
def wsX0_empty : List Cond := .code yX0_empty cX0_empty 1 none :: ([.fieldLink RX0 16 "CharRows$Ranges" "count" "I"] ++ wsX00)
def wsX0_become : List Cond := .code yX0_become cX0_become 2 none :: ([.fieldLink RX0 9 "CharRows$Ranges" "lows" "[I", .fieldLink RX0 16 "CharRows$Ranges" "count" "I", .methodLink RX0 20 arraycopyName, .native arraycopyName, .static arraycopyName, .initialized "java/lang/System", .fieldLink RX0 13 "CharRows$Ranges" "highs" "[I"] ++ wsX00)
def wsX0_firstEndingFrom : List Cond := .code yX0_firstEndingFrom cX0_firstEndingFrom 5 (some .int) :: ([.fieldLink RX0 16 "CharRows$Ranges" "count" "I", .fieldLink RX0 13 "CharRows$Ranges" "highs" "[I"] ++ wsX00)
def wsX0_holds : List Cond := .code yX0_holds cX0_holds 3 (some .boolean) :: ([.fieldLink RX0 16 "CharRows$Ranges" "count" "I", .fieldLink RX0 9 "CharRows$Ranges" "lows" "[I", .methodLink RX0 26 yX0_firstEndingFrom, .instanceMethod yX0_firstEndingFrom, .selects RX0 yX0_firstEndingFrom yX0_firstEndingFrom, .initialized RX0, .code yX0_firstEndingFrom cX0_firstEndingFrom 5 (some .int), .fieldLink RX0 13 "CharRows$Ranges" "highs" "[I"] ++ wsX00)
def wsX0_endAround : List Cond := .code yX0_endAround cX0_endAround 3 (some .int) :: ([.fieldLink RX0 16 "CharRows$Ranges" "count" "I", .fieldLink RX0 9 "CharRows$Ranges" "lows" "[I", .fieldLink RX0 13 "CharRows$Ranges" "highs" "[I", .methodLink RX0 26 yX0_firstEndingFrom, .instanceMethod yX0_firstEndingFrom, .selects RX0 yX0_firstEndingFrom yX0_firstEndingFrom, .initialized RX0, .code yX0_firstEndingFrom cX0_firstEndingFrom 5 (some .int)] ++ wsX00)
def wsX0_shift : List Cond := .code yX0_shift cX0_shift 3 none :: ([.fieldLink RX0 9 "CharRows$Ranges" "lows" "[I", .fieldLink RX0 16 "CharRows$Ranges" "count" "I", .methodLink RX0 20 arraycopyName, .native arraycopyName, .static arraycopyName, .initialized "java/lang/System", .fieldLink RX0 13 "CharRows$Ranges" "highs" "[I"] ++ wsX00)
def wsX0_insert : List Cond := .code yX0_insert cX0_insert 4 none :: ([.fieldLink RX0 16 "CharRows$Ranges" "count" "I", .fieldLink RX0 9 "CharRows$Ranges" "lows" "[I", .fieldLink RX0 13 "CharRows$Ranges" "highs" "[I", .methodLink RX0 38 yX0_shift, .instanceMethod yX0_shift, .selects RX0 yX0_shift yX0_shift, .initialized RX0, .code yX0_shift cX0_shift 3 none, .methodLink RX0 20 arraycopyName, .native arraycopyName, .static arraycopyName, .initialized "java/lang/System"] ++ wsX00)
def wsX0_unite : List Cond := .code yX0_unite cX0_unite 5 none :: ([.fieldLink RX0 9 "CharRows$Ranges" "lows" "[I", .methodLink RX0 42 Lib.Math.min.name, .static Lib.Math.min.name, .initialized "java/lang/Math", .code Lib.Math.min.name Lib.Math.min.code 2 (some .int), .fieldLink RX0 13 "CharRows$Ranges" "highs" "[I", .methodLink RX0 48 Lib.Math.max.name, .static Lib.Math.max.name, .code Lib.Math.max.name Lib.Math.max.code 2 (some .int), .methodLink RX0 38 yX0_shift, .instanceMethod yX0_shift, .selects RX0 yX0_shift yX0_shift, .initialized RX0, .code yX0_shift cX0_shift 3 none, .fieldLink RX0 16 "CharRows$Ranges" "count" "I", .methodLink RX0 20 arraycopyName, .native arraycopyName, .static arraycopyName, .initialized "java/lang/System"] ++ wsX00)
def wsX0_put_r1 : List Cond := [Cond.fieldLink RX0 16 "CharRows$Ranges" "count" "I", Cond.fieldLink RX0 9 "CharRows$Ranges" "lows" "[I", Cond.methodLink RX0 26 yX0_firstEndingFrom, Cond.instanceMethod yX0_firstEndingFrom, Cond.selects RX0 yX0_firstEndingFrom yX0_firstEndingFrom, Cond.initialized RX0, Cond.code yX0_firstEndingFrom cX0_firstEndingFrom 5 (some .int), Cond.fieldLink RX0 13 "CharRows$Ranges" "highs" "[I", Cond.methodLink RX0 30 yX0_insert, Cond.instanceMethod yX0_insert, Cond.selects RX0 yX0_insert yX0_insert, Cond.code yX0_insert cX0_insert 4 none, Cond.methodLink RX0 38 yX0_shift, Cond.instanceMethod yX0_shift, Cond.selects RX0 yX0_shift yX0_shift, Cond.code yX0_shift cX0_shift 3 none, Cond.methodLink RX0 20 arraycopyName, Cond.native arraycopyName, Cond.static arraycopyName, Cond.initialized "java/lang/System", Cond.methodLink RX0 34 yX0_unite, Cond.instanceMethod yX0_unite, Cond.selects RX0 yX0_unite yX0_unite, Cond.code yX0_unite cX0_unite 5 none]
def wsX0_put_r2 : List Cond := [Cond.methodLink RX0 42 Lib.Math.min.name, Cond.static Lib.Math.min.name, Cond.initialized "java/lang/Math", Cond.code Lib.Math.min.name Lib.Math.min.code 2 (some .int), Cond.methodLink RX0 48 Lib.Math.max.name, Cond.static Lib.Math.max.name, Cond.code Lib.Math.max.name Lib.Math.max.code 2 (some .int)]
def wsX0_put : List Cond := .code yX0_put cX0_put 5 none :: ((wsX0_put_r1 ++ wsX0_put_r2) ++ wsX00)
def wsX1_init : List Cond := .code yX1_init cX1_init 1 none :: ([.methodLink RX1 1 objectInit, .instanceMethod objectInit, .code objectInit ⟨#[0xb1]⟩ 1 none, .classLink RX1 7 RX0, .instantiable RX0 3, .initialized RX0, .fieldLink RX1 10 "CharRows" "held" "LCharRows$Ranges;", .fieldLink RX1 16 "CharRows" "spare" "LCharRows$Ranges;", .fieldLink RX1 19 "CharRows" "kept" "LCharRows$Ranges;", .instanceMethod yX0_init, .code yX0_init cX0_init 1 none, .methodLink RX0 1 objectInit, .arrayClass .int, .fieldLink RX0 9 "CharRows$Ranges" "lows" "[I", .fieldLink RX0 13 "CharRows$Ranges" "highs" "[I", .fieldLink RX0 16 "CharRows$Ranges" "count" "I"] ++ wsX00 ++ wsX10)
def wsX1_putCharacters_r1 : List Cond := [Cond.constant RX1 94 (55295), Cond.methodLink RX1 95 Lib.Math.min.name, Cond.static Lib.Math.min.name, Cond.initialized "java/lang/Math", Cond.code Lib.Math.min.name Lib.Math.min.code 2 (some .int), Cond.constant RX1 100 (57344), Cond.methodLink RX1 101 Lib.Math.max.name, Cond.static Lib.Math.max.name, Cond.code Lib.Math.max.name Lib.Math.max.code 2 (some .int), Cond.instanceMethod yX0_put, Cond.initialized RX0, Cond.selects RX0 yX0_put yX0_put, Cond.code yX0_put cX0_put 5 none, Cond.fieldLink RX0 16 "CharRows$Ranges" "count" "I", Cond.fieldLink RX0 9 "CharRows$Ranges" "lows" "[I", Cond.methodLink RX0 26 yX0_firstEndingFrom, Cond.instanceMethod yX0_firstEndingFrom, Cond.selects RX0 yX0_firstEndingFrom yX0_firstEndingFrom, Cond.code yX0_firstEndingFrom cX0_firstEndingFrom 5 (some .int), Cond.fieldLink RX0 13 "CharRows$Ranges" "highs" "[I", Cond.methodLink RX0 30 yX0_insert, Cond.instanceMethod yX0_insert, Cond.selects RX0 yX0_insert yX0_insert, Cond.code yX0_insert cX0_insert 4 none]
def wsX1_putCharacters_r2 : List Cond := [Cond.methodLink RX0 38 yX0_shift, Cond.instanceMethod yX0_shift, Cond.selects RX0 yX0_shift yX0_shift, Cond.code yX0_shift cX0_shift 3 none, Cond.methodLink RX0 20 arraycopyName, Cond.native arraycopyName, Cond.static arraycopyName, Cond.initialized "java/lang/System", Cond.methodLink RX0 34 yX0_unite, Cond.instanceMethod yX0_unite, Cond.selects RX0 yX0_unite yX0_unite, Cond.code yX0_unite cX0_unite 5 none, Cond.methodLink RX0 42 Lib.Math.min.name, Cond.methodLink RX0 48 Lib.Math.max.name]
def wsX1_putCharacters : List Cond := .code yX1_putCharacters cX1_putCharacters 3 none :: ((wsX1_putCharacters_r1 ++ wsX1_putCharacters_r2) ++ wsX00)
def wsX1_add_r1 : List Cond := [Cond.classLink RX1 23 "java/lang/IllegalArgumentException", Cond.initialized "java/lang/IllegalArgumentException", Cond.constant RX1 22 (1114111), Cond.fieldLink RX1 10 "CharRows" "held" "LCharRows$Ranges;", Cond.methodLink RX1 30 yX1_putCharacters, Cond.static yX1_putCharacters, Cond.initialized RX1, Cond.code yX1_putCharacters cX1_putCharacters 3 none, Cond.constant RX1 94 (55295), Cond.methodLink RX1 95 Lib.Math.min.name, Cond.static Lib.Math.min.name, Cond.initialized "java/lang/Math", Cond.code Lib.Math.min.name Lib.Math.min.code 2 (some .int), Cond.constant RX1 100 (57344), Cond.methodLink RX1 101 Lib.Math.max.name, Cond.static Lib.Math.max.name, Cond.code Lib.Math.max.name Lib.Math.max.code 2 (some .int), Cond.instanceMethod yX0_put, Cond.initialized RX0, Cond.selects RX0 yX0_put yX0_put, Cond.code yX0_put cX0_put 5 none, Cond.fieldLink RX0 16 "CharRows$Ranges" "count" "I", Cond.fieldLink RX0 9 "CharRows$Ranges" "lows" "[I", Cond.methodLink RX0 26 yX0_firstEndingFrom]
def wsX1_add_r2 : List Cond := [Cond.instanceMethod yX0_firstEndingFrom, Cond.selects RX0 yX0_firstEndingFrom yX0_firstEndingFrom, Cond.code yX0_firstEndingFrom cX0_firstEndingFrom 5 (some .int), Cond.fieldLink RX0 13 "CharRows$Ranges" "highs" "[I", Cond.methodLink RX0 30 yX0_insert, Cond.instanceMethod yX0_insert, Cond.selects RX0 yX0_insert yX0_insert, Cond.code yX0_insert cX0_insert 4 none, Cond.methodLink RX0 38 yX0_shift, Cond.instanceMethod yX0_shift, Cond.selects RX0 yX0_shift yX0_shift, Cond.code yX0_shift cX0_shift 3 none, Cond.methodLink RX0 20 arraycopyName, Cond.native arraycopyName, Cond.static arraycopyName, Cond.initialized "java/lang/System", Cond.methodLink RX0 34 yX0_unite, Cond.instanceMethod yX0_unite, Cond.selects RX0 yX0_unite yX0_unite, Cond.code yX0_unite cX0_unite 5 none, Cond.methodLink RX0 42 Lib.Math.min.name, Cond.methodLink RX0 48 Lib.Math.max.name]
def wsX1_add : List Cond := .code yX1_add cX1_add 3 (some .int) :: ((wsX1_add_r1 ++ wsX1_add_r2) ++ wsX10 ++ wsX00 ++ (vx_atS RX1 27 "java/lang/IllegalArgumentException" ["java/lang/RuntimeException", "java/lang/Exception"]).filter goodWord)
def wsX1_clear : List Cond := .code yX1_clear cX1_clear 1 none :: ([.fieldLink RX1 10 "CharRows" "held" "LCharRows$Ranges;", .instanceMethod yX0_empty, .initialized RX0, .selects RX0 yX0_empty yX0_empty, .code yX0_empty cX0_empty 1 none, .fieldLink RX0 16 "CharRows$Ranges" "count" "I"] ++ wsX10 ++ wsX00)
def wsX1_foldTwo_r1 : List Cond := [Cond.fieldLink RX1 10 "CharRows" "held" "LCharRows$Ranges;", Cond.instanceMethod yX0_holds, Cond.initialized RX0, Cond.selects RX0 yX0_holds yX0_holds, Cond.code yX0_holds cX0_holds 3 (some .boolean), Cond.fieldLink RX0 16 "CharRows$Ranges" "count" "I", Cond.fieldLink RX0 9 "CharRows$Ranges" "lows" "[I", Cond.methodLink RX0 26 yX0_firstEndingFrom, Cond.instanceMethod yX0_firstEndingFrom, Cond.selects RX0 yX0_firstEndingFrom yX0_firstEndingFrom, Cond.code yX0_firstEndingFrom cX0_firstEndingFrom 5 (some .int), Cond.fieldLink RX0 13 "CharRows$Ranges" "highs" "[I", Cond.instanceMethod yX0_put, Cond.selects RX0 yX0_put yX0_put, Cond.code yX0_put cX0_put 5 none, Cond.methodLink RX0 30 yX0_insert, Cond.instanceMethod yX0_insert, Cond.selects RX0 yX0_insert yX0_insert, Cond.code yX0_insert cX0_insert 4 none, Cond.methodLink RX0 38 yX0_shift, Cond.instanceMethod yX0_shift, Cond.selects RX0 yX0_shift yX0_shift, Cond.code yX0_shift cX0_shift 3 none, Cond.methodLink RX0 20 arraycopyName]
def wsX1_foldTwo_r2 : List Cond := [Cond.native arraycopyName, Cond.static arraycopyName, Cond.initialized "java/lang/System", Cond.methodLink RX0 34 yX0_unite, Cond.instanceMethod yX0_unite, Cond.selects RX0 yX0_unite yX0_unite, Cond.code yX0_unite cX0_unite 5 none, Cond.methodLink RX0 42 Lib.Math.min.name, Cond.static Lib.Math.min.name, Cond.initialized "java/lang/Math", Cond.code Lib.Math.min.name Lib.Math.min.code 2 (some .int), Cond.methodLink RX0 48 Lib.Math.max.name, Cond.static Lib.Math.max.name, Cond.code Lib.Math.max.name Lib.Math.max.code 2 (some .int)]
def wsX1_foldTwo : List Cond := .code yX1_foldTwo cX1_foldTwo 5 none :: ((wsX1_foldTwo_r1 ++ wsX1_foldTwo_r2) ++ wsX10 ++ wsX00)
def wsX1_foldLetters_r1 : List Cond := [Cond.fieldLink RX1 104 "CharRows" "LETTERS" "[I", Cond.methodLink RX1 107 yX1_foldTwo, Cond.instanceMethod yX1_foldTwo, Cond.selects RX1 yX1_foldTwo yX1_foldTwo, Cond.initialized RX1, Cond.code yX1_foldTwo cX1_foldTwo 5 none, Cond.fieldLink RX1 10 "CharRows" "held" "LCharRows$Ranges;", Cond.instanceMethod yX0_holds, Cond.initialized RX0, Cond.selects RX0 yX0_holds yX0_holds, Cond.code yX0_holds cX0_holds 3 (some .boolean), Cond.fieldLink RX0 16 "CharRows$Ranges" "count" "I", Cond.fieldLink RX0 9 "CharRows$Ranges" "lows" "[I", Cond.methodLink RX0 26 yX0_firstEndingFrom, Cond.instanceMethod yX0_firstEndingFrom, Cond.selects RX0 yX0_firstEndingFrom yX0_firstEndingFrom, Cond.code yX0_firstEndingFrom cX0_firstEndingFrom 5 (some .int), Cond.fieldLink RX0 13 "CharRows$Ranges" "highs" "[I", Cond.instanceMethod yX0_put, Cond.selects RX0 yX0_put yX0_put, Cond.code yX0_put cX0_put 5 none, Cond.methodLink RX0 30 yX0_insert, Cond.instanceMethod yX0_insert, Cond.selects RX0 yX0_insert yX0_insert]
def wsX1_foldLetters_r2 : List Cond := [Cond.code yX0_insert cX0_insert 4 none, Cond.methodLink RX0 38 yX0_shift, Cond.instanceMethod yX0_shift, Cond.selects RX0 yX0_shift yX0_shift, Cond.code yX0_shift cX0_shift 3 none, Cond.methodLink RX0 20 arraycopyName, Cond.native arraycopyName, Cond.static arraycopyName, Cond.initialized "java/lang/System", Cond.methodLink RX0 34 yX0_unite, Cond.instanceMethod yX0_unite, Cond.selects RX0 yX0_unite yX0_unite, Cond.code yX0_unite cX0_unite 5 none, Cond.methodLink RX0 42 Lib.Math.min.name, Cond.static Lib.Math.min.name, Cond.initialized "java/lang/Math", Cond.code Lib.Math.min.name Lib.Math.min.code 2 (some .int), Cond.methodLink RX0 48 Lib.Math.max.name, Cond.static Lib.Math.max.name, Cond.code Lib.Math.max.name Lib.Math.max.code 2 (some .int)]
def wsX1_foldLetters : List Cond := .code yX1_foldLetters cX1_foldLetters 4 none :: ((wsX1_foldLetters_r1 ++ wsX1_foldLetters_r2) ++ wsX10 ++ wsX00)
def wsX1_foldPairs_r1 : List Cond := [Cond.fieldLink RX1 110 "CharRows" "PAIRS" "[I", Cond.methodLink RX1 107 yX1_foldTwo, Cond.instanceMethod yX1_foldTwo, Cond.selects RX1 yX1_foldTwo yX1_foldTwo, Cond.initialized RX1, Cond.code yX1_foldTwo cX1_foldTwo 5 none, Cond.fieldLink RX1 10 "CharRows" "held" "LCharRows$Ranges;", Cond.instanceMethod yX0_holds, Cond.initialized RX0, Cond.selects RX0 yX0_holds yX0_holds, Cond.code yX0_holds cX0_holds 3 (some .boolean), Cond.fieldLink RX0 16 "CharRows$Ranges" "count" "I", Cond.fieldLink RX0 9 "CharRows$Ranges" "lows" "[I", Cond.methodLink RX0 26 yX0_firstEndingFrom, Cond.instanceMethod yX0_firstEndingFrom, Cond.selects RX0 yX0_firstEndingFrom yX0_firstEndingFrom, Cond.code yX0_firstEndingFrom cX0_firstEndingFrom 5 (some .int), Cond.fieldLink RX0 13 "CharRows$Ranges" "highs" "[I", Cond.instanceMethod yX0_put, Cond.selects RX0 yX0_put yX0_put, Cond.code yX0_put cX0_put 5 none, Cond.methodLink RX0 30 yX0_insert, Cond.instanceMethod yX0_insert, Cond.selects RX0 yX0_insert yX0_insert]
def wsX1_foldPairs_r2 : List Cond := [Cond.code yX0_insert cX0_insert 4 none, Cond.methodLink RX0 38 yX0_shift, Cond.instanceMethod yX0_shift, Cond.selects RX0 yX0_shift yX0_shift, Cond.code yX0_shift cX0_shift 3 none, Cond.methodLink RX0 20 arraycopyName, Cond.native arraycopyName, Cond.static arraycopyName, Cond.initialized "java/lang/System", Cond.methodLink RX0 34 yX0_unite, Cond.instanceMethod yX0_unite, Cond.selects RX0 yX0_unite yX0_unite, Cond.code yX0_unite cX0_unite 5 none, Cond.methodLink RX0 42 Lib.Math.min.name, Cond.static Lib.Math.min.name, Cond.initialized "java/lang/Math", Cond.code Lib.Math.min.name Lib.Math.min.code 2 (some .int), Cond.methodLink RX0 48 Lib.Math.max.name, Cond.static Lib.Math.max.name, Cond.code Lib.Math.max.name Lib.Math.max.code 2 (some .int)]
def wsX1_foldPairs : List Cond := .code yX1_foldPairs cX1_foldPairs 2 none :: ((wsX1_foldPairs_r1 ++ wsX1_foldPairs_r2) ++ wsX10 ++ wsX00)
def wsX1_fold_r1 : List Cond := [Cond.fieldLink RX1 10 "CharRows" "held" "LCharRows$Ranges;", Cond.methodLink RX1 41 yX1_foldLetters, Cond.instanceMethod yX1_foldLetters, Cond.selects RX1 yX1_foldLetters yX1_foldLetters, Cond.initialized RX1, Cond.code yX1_foldLetters cX1_foldLetters 4 none, Cond.fieldLink RX1 104 "CharRows" "LETTERS" "[I", Cond.methodLink RX1 107 yX1_foldTwo, Cond.instanceMethod yX1_foldTwo, Cond.selects RX1 yX1_foldTwo yX1_foldTwo, Cond.code yX1_foldTwo cX1_foldTwo 5 none, Cond.instanceMethod yX0_holds, Cond.initialized RX0, Cond.selects RX0 yX0_holds yX0_holds, Cond.code yX0_holds cX0_holds 3 (some .boolean), Cond.fieldLink RX0 16 "CharRows$Ranges" "count" "I", Cond.fieldLink RX0 9 "CharRows$Ranges" "lows" "[I", Cond.methodLink RX0 26 yX0_firstEndingFrom, Cond.instanceMethod yX0_firstEndingFrom, Cond.selects RX0 yX0_firstEndingFrom yX0_firstEndingFrom, Cond.code yX0_firstEndingFrom cX0_firstEndingFrom 5 (some .int), Cond.fieldLink RX0 13 "CharRows$Ranges" "highs" "[I", Cond.instanceMethod yX0_put, Cond.selects RX0 yX0_put yX0_put]
def wsX1_fold_r2 : List Cond := [Cond.code yX0_put cX0_put 5 none, Cond.methodLink RX0 30 yX0_insert, Cond.instanceMethod yX0_insert, Cond.selects RX0 yX0_insert yX0_insert, Cond.code yX0_insert cX0_insert 4 none, Cond.methodLink RX0 38 yX0_shift, Cond.instanceMethod yX0_shift, Cond.selects RX0 yX0_shift yX0_shift, Cond.code yX0_shift cX0_shift 3 none, Cond.methodLink RX0 20 arraycopyName, Cond.native arraycopyName, Cond.static arraycopyName, Cond.initialized "java/lang/System", Cond.methodLink RX0 34 yX0_unite, Cond.instanceMethod yX0_unite, Cond.selects RX0 yX0_unite yX0_unite, Cond.code yX0_unite cX0_unite 5 none, Cond.methodLink RX0 42 Lib.Math.min.name, Cond.static Lib.Math.min.name, Cond.initialized "java/lang/Math", Cond.code Lib.Math.min.name Lib.Math.min.code 2 (some .int), Cond.methodLink RX0 48 Lib.Math.max.name, Cond.static Lib.Math.max.name, Cond.code Lib.Math.max.name Lib.Math.max.code 2 (some .int)]
def wsX1_fold_r3 : List Cond := [Cond.methodLink RX1 44 yX1_foldPairs, Cond.instanceMethod yX1_foldPairs, Cond.selects RX1 yX1_foldPairs yX1_foldPairs, Cond.code yX1_foldPairs cX1_foldPairs 2 none, Cond.fieldLink RX1 110 "CharRows" "PAIRS" "[I"]
def wsX1_fold : List Cond := .code yX1_fold cX1_fold 1 (some .int) :: ((wsX1_fold_r1 ++ (wsX1_fold_r2 ++ wsX1_fold_r3)) ++ wsX10 ++ wsX00)
def wsX1_turn_r1 : List Cond := [Cond.fieldLink RX1 10 "CharRows" "held" "LCharRows$Ranges;", Cond.fieldLink RX1 16 "CharRows" "spare" "LCharRows$Ranges;", Cond.constant RX1 22 (1114111), Cond.instanceMethod yX0_empty, Cond.initialized RX0, Cond.selects RX0 yX0_empty yX0_empty, Cond.code yX0_empty cX0_empty 1 none, Cond.fieldLink RX0 16 "CharRows$Ranges" "count" "I", Cond.methodLink RX1 30 yX1_putCharacters, Cond.static yX1_putCharacters, Cond.initialized RX1, Cond.code yX1_putCharacters cX1_putCharacters 3 none, Cond.constant RX1 94 (55295), Cond.methodLink RX1 95 Lib.Math.min.name, Cond.static Lib.Math.min.name, Cond.initialized "java/lang/Math", Cond.code Lib.Math.min.name Lib.Math.min.code 2 (some .int), Cond.constant RX1 100 (57344), Cond.methodLink RX1 101 Lib.Math.max.name, Cond.static Lib.Math.max.name, Cond.code Lib.Math.max.name Lib.Math.max.code 2 (some .int), Cond.instanceMethod yX0_put, Cond.selects RX0 yX0_put yX0_put, Cond.code yX0_put cX0_put 5 none]
def wsX1_turn_r2 : List Cond := [Cond.fieldLink RX0 9 "CharRows$Ranges" "lows" "[I", Cond.methodLink RX0 26 yX0_firstEndingFrom, Cond.instanceMethod yX0_firstEndingFrom, Cond.selects RX0 yX0_firstEndingFrom yX0_firstEndingFrom, Cond.code yX0_firstEndingFrom cX0_firstEndingFrom 5 (some .int), Cond.fieldLink RX0 13 "CharRows$Ranges" "highs" "[I", Cond.methodLink RX0 30 yX0_insert, Cond.instanceMethod yX0_insert, Cond.selects RX0 yX0_insert yX0_insert, Cond.code yX0_insert cX0_insert 4 none, Cond.methodLink RX0 38 yX0_shift, Cond.instanceMethod yX0_shift, Cond.selects RX0 yX0_shift yX0_shift, Cond.code yX0_shift cX0_shift 3 none, Cond.methodLink RX0 20 arraycopyName, Cond.native arraycopyName, Cond.static arraycopyName, Cond.initialized "java/lang/System", Cond.methodLink RX0 34 yX0_unite, Cond.instanceMethod yX0_unite, Cond.selects RX0 yX0_unite yX0_unite, Cond.code yX0_unite cX0_unite 5 none, Cond.methodLink RX0 42 Lib.Math.min.name, Cond.methodLink RX0 48 Lib.Math.max.name]
def wsX1_turn : List Cond := .code yX1_turn cX1_turn 5 (some .int) :: ((wsX1_turn_r1 ++ wsX1_turn_r2) ++ wsX10 ++ wsX00)
def wsX1_keep : List Cond := .code yX1_keep cX1_keep 1 none :: ([.fieldLink RX1 19 "CharRows" "kept" "LCharRows$Ranges;", .fieldLink RX1 10 "CharRows" "held" "LCharRows$Ranges;", .instanceMethod yX0_become, .initialized RX0, .selects RX0 yX0_become yX0_become, .code yX0_become cX0_become 2 none, .fieldLink RX0 9 "CharRows$Ranges" "lows" "[I", .fieldLink RX0 16 "CharRows$Ranges" "count" "I", .methodLink RX0 20 arraycopyName, .native arraycopyName, .static arraycopyName, .initialized "java/lang/System", .fieldLink RX0 13 "CharRows$Ranges" "highs" "[I"] ++ wsX10 ++ wsX00)
def wsX1_join_r1 : List Cond := [Cond.fieldLink RX1 19 "CharRows" "kept" "LCharRows$Ranges;", Cond.fieldLink RX1 10 "CharRows" "held" "LCharRows$Ranges;", Cond.instanceMethod yX0_put, Cond.initialized RX0, Cond.selects RX0 yX0_put yX0_put, Cond.code yX0_put cX0_put 5 none, Cond.fieldLink RX0 16 "CharRows$Ranges" "count" "I", Cond.fieldLink RX0 9 "CharRows$Ranges" "lows" "[I", Cond.methodLink RX0 26 yX0_firstEndingFrom, Cond.instanceMethod yX0_firstEndingFrom, Cond.selects RX0 yX0_firstEndingFrom yX0_firstEndingFrom, Cond.code yX0_firstEndingFrom cX0_firstEndingFrom 5 (some .int), Cond.fieldLink RX0 13 "CharRows$Ranges" "highs" "[I", Cond.methodLink RX0 30 yX0_insert, Cond.instanceMethod yX0_insert, Cond.selects RX0 yX0_insert yX0_insert, Cond.code yX0_insert cX0_insert 4 none, Cond.methodLink RX0 38 yX0_shift, Cond.instanceMethod yX0_shift, Cond.selects RX0 yX0_shift yX0_shift, Cond.code yX0_shift cX0_shift 3 none, Cond.methodLink RX0 20 arraycopyName, Cond.native arraycopyName, Cond.static arraycopyName]
def wsX1_join_r2 : List Cond := [Cond.initialized "java/lang/System", Cond.methodLink RX0 34 yX0_unite, Cond.instanceMethod yX0_unite, Cond.selects RX0 yX0_unite yX0_unite, Cond.code yX0_unite cX0_unite 5 none, Cond.methodLink RX0 42 Lib.Math.min.name, Cond.static Lib.Math.min.name, Cond.initialized "java/lang/Math", Cond.code Lib.Math.min.name Lib.Math.min.code 2 (some .int), Cond.methodLink RX0 48 Lib.Math.max.name, Cond.static Lib.Math.max.name, Cond.code Lib.Math.max.name Lib.Math.max.code 2 (some .int)]
def wsX1_join : List Cond := .code yX1_join cX1_join 2 (some .int) :: ((wsX1_join_r1 ++ wsX1_join_r2) ++ wsX10 ++ wsX00)
def wsX1_has : List Cond := .code yX1_has cX1_has 2 (some .boolean) :: ([.fieldLink RX1 10 "CharRows" "held" "LCharRows$Ranges;", .instanceMethod yX0_holds, .initialized RX0, .selects RX0 yX0_holds yX0_holds, .code yX0_holds cX0_holds 3 (some .boolean), .fieldLink RX0 16 "CharRows$Ranges" "count" "I", .fieldLink RX0 9 "CharRows$Ranges" "lows" "[I", .methodLink RX0 26 yX0_firstEndingFrom, .instanceMethod yX0_firstEndingFrom, .selects RX0 yX0_firstEndingFrom yX0_firstEndingFrom, .code yX0_firstEndingFrom cX0_firstEndingFrom 5 (some .int), .fieldLink RX0 13 "CharRows$Ranges" "highs" "[I"] ++ wsX10 ++ wsX00)
def wsX1_ranges : List Cond := .code yX1_ranges cX1_ranges 1 (some .int) :: ([.fieldLink RX1 10 "CharRows" "held" "LCharRows$Ranges;"] ++ wsX10 ++ wsX00)
def wsX1_range : List Cond := .code yX1_range cX1_range 3 (some .int) :: ([.fieldLink RX1 10 "CharRows" "held" "LCharRows$Ranges;"] ++ wsX10 ++ wsX00)
def wsX1_lastOfLength : List Cond := .code yX1_lastOfLength cX1_lastOfLength 1 (some .int) :: ([.constant RX1 119 (65535), .constant RX1 22 (1114111)])
def wsX1_byteCount : List Cond := .code yX1_byteCount cX1_byteCount 1 (some .int) :: ([.methodLink RX1 116 yX1_lastOfLength, .static yX1_lastOfLength, .initialized RX1, .code yX1_lastOfLength cX1_lastOfLength 1 (some .int), .constant RX1 119 (65535), .constant RX1 22 (1114111)])
def wsX1_lastOfRow : List Cond := .code yX1_lastOfRow cX1_lastOfRow 8 (some .int) :: ([.methodLink RX1 95 Lib.Math.min.name, .static Lib.Math.min.name, .initialized "java/lang/Math", .code Lib.Math.min.name Lib.Math.min.code 2 (some .int), .methodLink RX1 74 yX1_byteCount, .static yX1_byteCount, .initialized RX1, .code yX1_byteCount cX1_byteCount 1 (some .int), .methodLink RX1 116 yX1_lastOfLength, .static yX1_lastOfLength, .code yX1_lastOfLength cX1_lastOfLength 1 (some .int), .constant RX1 119 (65535), .constant RX1 22 (1114111)])
def wsX1_countRows : List Cond := .code yX1_countRows cX1_countRows 4 (some .int) :: ([.methodLink RX1 84 yX1_lastOfRow, .static yX1_lastOfRow, .initialized RX1, .code yX1_lastOfRow cX1_lastOfRow 8 (some .int), .methodLink RX1 95 Lib.Math.min.name, .static Lib.Math.min.name, .initialized "java/lang/Math", .code Lib.Math.min.name Lib.Math.min.code 2 (some .int), .methodLink RX1 74 yX1_byteCount, .static yX1_byteCount, .code yX1_byteCount cX1_byteCount 1 (some .int), .methodLink RX1 116 yX1_lastOfLength, .static yX1_lastOfLength, .code yX1_lastOfLength cX1_lastOfLength 1 (some .int), .constant RX1 119 (65535), .constant RX1 22 (1114111)])
def wsX1_rows : List Cond := .code yX1_rows cX1_rows 3 (some .int) :: ([.fieldLink RX1 10 "CharRows" "held" "LCharRows$Ranges;", .methodLink RX1 66 yX1_countRows, .static yX1_countRows, .initialized RX1, .code yX1_countRows cX1_countRows 4 (some .int), .methodLink RX1 84 yX1_lastOfRow, .static yX1_lastOfRow, .code yX1_lastOfRow cX1_lastOfRow 8 (some .int), .methodLink RX1 95 Lib.Math.min.name, .static Lib.Math.min.name, .initialized "java/lang/Math", .code Lib.Math.min.name Lib.Math.min.code 2 (some .int), .methodLink RX1 74 yX1_byteCount, .static yX1_byteCount, .code yX1_byteCount cX1_byteCount 1 (some .int), .methodLink RX1 116 yX1_lastOfLength, .static yX1_lastOfLength, .code yX1_lastOfLength cX1_lastOfLength 1 (some .int), .constant RX1 119 (65535), .constant RX1 22 (1114111)] ++ wsX10 ++ wsX00)
def wsX1_skipRows : List Cond := .code yX1_skipRows cX1_skipRows 5 (some .int) :: ([.methodLink RX1 84 yX1_lastOfRow, .static yX1_lastOfRow, .initialized RX1, .code yX1_lastOfRow cX1_lastOfRow 8 (some .int), .methodLink RX1 95 Lib.Math.min.name, .static Lib.Math.min.name, .initialized "java/lang/Math", .code Lib.Math.min.name Lib.Math.min.code 2 (some .int), .methodLink RX1 74 yX1_byteCount, .static yX1_byteCount, .code yX1_byteCount cX1_byteCount 1 (some .int), .methodLink RX1 116 yX1_lastOfLength, .static yX1_lastOfLength, .code yX1_lastOfLength cX1_lastOfLength 1 (some .int), .constant RX1 119 (65535), .constant RX1 22 (1114111)])
def wsX1_firstOfRow : List Cond := .code yX1_firstOfRow cX1_firstOfRow 5 (some .int) :: ([.fieldLink RX1 10 "CharRows" "held" "LCharRows$Ranges;", .methodLink RX1 66 yX1_countRows, .static yX1_countRows, .initialized RX1, .code yX1_countRows cX1_countRows 4 (some .int), .methodLink RX1 84 yX1_lastOfRow, .static yX1_lastOfRow, .code yX1_lastOfRow cX1_lastOfRow 8 (some .int), .methodLink RX1 95 Lib.Math.min.name, .static Lib.Math.min.name, .initialized "java/lang/Math", .code Lib.Math.min.name Lib.Math.min.code 2 (some .int), .methodLink RX1 74 yX1_byteCount, .static yX1_byteCount, .code yX1_byteCount cX1_byteCount 1 (some .int), .methodLink RX1 116 yX1_lastOfLength, .static yX1_lastOfLength, .code yX1_lastOfLength cX1_lastOfLength 1 (some .int), .constant RX1 119 (65535), .constant RX1 22 (1114111), .methodLink RX1 113 yX1_skipRows, .static yX1_skipRows, .code yX1_skipRows cX1_skipRows 5 (some .int)] ++ wsX10 ++ wsX00)
def wsX1_leadMark : List Cond := .code yX1_leadMark cX1_leadMark 1 (some .int) :: ([.constant RX1 123 (65280)])
def wsX1_byteOf : List Cond := .code yX1_byteOf cX1_byteOf 4 (some .int) :: ([.methodLink RX1 120 yX1_leadMark, .static yX1_leadMark, .initialized RX1, .code yX1_leadMark cX1_leadMark 1 (some .int), .constant RX1 123 (65280)])
def wsX1_row_r1 : List Cond := [Cond.fieldLink RX1 10 "CharRows" "held" "LCharRows$Ranges;", Cond.methodLink RX1 70 yX1_firstOfRow, Cond.instanceMethod yX1_firstOfRow, Cond.selects RX1 yX1_firstOfRow yX1_firstOfRow, Cond.initialized RX1, Cond.code yX1_firstOfRow cX1_firstOfRow 5 (some .int), Cond.methodLink RX1 66 yX1_countRows, Cond.static yX1_countRows, Cond.code yX1_countRows cX1_countRows 4 (some .int), Cond.methodLink RX1 84 yX1_lastOfRow, Cond.static yX1_lastOfRow, Cond.code yX1_lastOfRow cX1_lastOfRow 8 (some .int), Cond.methodLink RX1 95 Lib.Math.min.name, Cond.static Lib.Math.min.name, Cond.initialized "java/lang/Math", Cond.code Lib.Math.min.name Lib.Math.min.code 2 (some .int), Cond.methodLink RX1 74 yX1_byteCount, Cond.static yX1_byteCount, Cond.code yX1_byteCount cX1_byteCount 1 (some .int), Cond.methodLink RX1 116 yX1_lastOfLength, Cond.static yX1_lastOfLength, Cond.code yX1_lastOfLength cX1_lastOfLength 1 (some .int), Cond.constant RX1 119 (65535), Cond.constant RX1 22 (1114111)]
def wsX1_row_r2 : List Cond := [Cond.methodLink RX1 113 yX1_skipRows, Cond.static yX1_skipRows, Cond.code yX1_skipRows cX1_skipRows 5 (some .int), Cond.methodLink RX1 77 yX1_byteOf, Cond.static yX1_byteOf, Cond.code yX1_byteOf cX1_byteOf 4 (some .int), Cond.methodLink RX1 120 yX1_leadMark, Cond.static yX1_leadMark, Cond.code yX1_leadMark cX1_leadMark 1 (some .int), Cond.constant RX1 123 (65280), Cond.instanceMethod yX0_endAround, Cond.initialized RX0, Cond.selects RX0 yX0_endAround yX0_endAround, Cond.code yX0_endAround cX0_endAround 3 (some .int), Cond.fieldLink RX0 16 "CharRows$Ranges" "count" "I", Cond.fieldLink RX0 9 "CharRows$Ranges" "lows" "[I", Cond.fieldLink RX0 13 "CharRows$Ranges" "highs" "[I", Cond.methodLink RX0 26 yX0_firstEndingFrom, Cond.instanceMethod yX0_firstEndingFrom, Cond.selects RX0 yX0_firstEndingFrom yX0_firstEndingFrom, Cond.code yX0_firstEndingFrom cX0_firstEndingFrom 5 (some .int)]
def wsX1_row : List Cond := .code yX1_row cX1_row 6 (some .int) :: ((wsX1_row_r1 ++ wsX1_row_r2) ++ wsX10 ++ wsX00)
def wsX1_byteAt : List Cond := .code yX1_byteAt cX1_byteAt 2 (some .int) :: ([])
def wsX1_decode : List Cond := .code yX1_decode cX1_decode 4 (some .int) :: ([.methodLink RX1 124 yX1_byteAt, .static yX1_byteAt, .initialized RX1, .code yX1_byteAt cX1_byteAt 2 (some .int)])
def wsX1_startsWithBytesOf : List Cond := .code yX1_startsWithBytesOf cX1_startsWithBytesOf 4 (some .boolean) :: ([.methodLink RX1 77 yX1_byteOf, .static yX1_byteOf, .initialized RX1, .code yX1_byteOf cX1_byteOf 4 (some .int), .methodLink RX1 120 yX1_leadMark, .static yX1_leadMark, .code yX1_leadMark cX1_leadMark 1 (some .int), .constant RX1 123 (65280), .methodLink RX1 124 yX1_byteAt, .static yX1_byteAt, .code yX1_byteAt cX1_byteAt 2 (some .int)])
def wsX1_takes_r1 : List Cond := [Cond.fieldLink RX1 10 "CharRows" "held" "LCharRows$Ranges;", Cond.methodLink RX1 87 yX1_decode, Cond.static yX1_decode, Cond.initialized RX1, Cond.code yX1_decode cX1_decode 4 (some .int), Cond.methodLink RX1 124 yX1_byteAt, Cond.static yX1_byteAt, Cond.code yX1_byteAt cX1_byteAt 2 (some .int), Cond.instanceMethod yX0_holds, Cond.initialized RX0, Cond.selects RX0 yX0_holds yX0_holds, Cond.code yX0_holds cX0_holds 3 (some .boolean), Cond.fieldLink RX0 16 "CharRows$Ranges" "count" "I", Cond.fieldLink RX0 9 "CharRows$Ranges" "lows" "[I", Cond.methodLink RX0 26 yX0_firstEndingFrom, Cond.instanceMethod yX0_firstEndingFrom, Cond.selects RX0 yX0_firstEndingFrom yX0_firstEndingFrom, Cond.code yX0_firstEndingFrom cX0_firstEndingFrom 5 (some .int), Cond.fieldLink RX0 13 "CharRows$Ranges" "highs" "[I", Cond.methodLink RX1 74 yX1_byteCount, Cond.static yX1_byteCount, Cond.code yX1_byteCount cX1_byteCount 1 (some .int), Cond.methodLink RX1 116 yX1_lastOfLength, Cond.static yX1_lastOfLength]
def wsX1_takes_r2 : List Cond := [Cond.code yX1_lastOfLength cX1_lastOfLength 1 (some .int), Cond.constant RX1 119 (65535), Cond.constant RX1 22 (1114111), Cond.methodLink RX1 90 yX1_startsWithBytesOf, Cond.static yX1_startsWithBytesOf, Cond.code yX1_startsWithBytesOf cX1_startsWithBytesOf 4 (some .boolean), Cond.methodLink RX1 77 yX1_byteOf, Cond.static yX1_byteOf, Cond.code yX1_byteOf cX1_byteOf 4 (some .int), Cond.methodLink RX1 120 yX1_leadMark, Cond.static yX1_leadMark, Cond.code yX1_leadMark cX1_leadMark 1 (some .int), Cond.constant RX1 123 (65280)]
def wsX1_takes : List Cond := .code yX1_takes cX1_takes 4 (some .boolean) :: ((wsX1_takes_r1 ++ wsX1_takes_r2) ++ wsX10 ++ wsX00)
def wsJ9_max_7cf53 : List Cond := .code yJ9_max_7cf53 cJ9_max_7cf53 2 (some .int) :: ([])
def wsJ9_min_7cf53 : List Cond := .code yJ9_min_7cf53 cJ9_min_7cf53 2 (some .int) :: ([])
def wsL_add_r1 : List Cond := [Cond.classLink RL 13 "java/lang/IllegalArgumentException", Cond.methodLink RL 7 yX1_add, Cond.instanceMethod yX1_add, Cond.selects RX1 yX1_add yX1_add, Cond.initialized RX1, Cond.code yX1_add cX1_add 3 (some .int), Cond.classLink RX1 23 "java/lang/IllegalArgumentException", Cond.initialized "java/lang/IllegalArgumentException", Cond.constant RX1 22 (1114111), Cond.fieldLink RX1 10 "CharRows" "held" "LCharRows$Ranges;", Cond.methodLink RX1 30 yX1_putCharacters, Cond.static yX1_putCharacters, Cond.code yX1_putCharacters cX1_putCharacters 3 none, Cond.constant RX1 94 (55295), Cond.methodLink RX1 95 Lib.Math.min.name, Cond.static Lib.Math.min.name, Cond.initialized "java/lang/Math", Cond.code Lib.Math.min.name Lib.Math.min.code 2 (some .int), Cond.constant RX1 100 (57344), Cond.methodLink RX1 101 Lib.Math.max.name, Cond.static Lib.Math.max.name, Cond.code Lib.Math.max.name Lib.Math.max.code 2 (some .int), Cond.instanceMethod yX0_put, Cond.initialized RX0]
def wsL_add_r2 : List Cond := [Cond.selects RX0 yX0_put yX0_put, Cond.code yX0_put cX0_put 5 none, Cond.fieldLink RX0 16 "CharRows$Ranges" "count" "I", Cond.fieldLink RX0 9 "CharRows$Ranges" "lows" "[I", Cond.methodLink RX0 26 yX0_firstEndingFrom, Cond.instanceMethod yX0_firstEndingFrom, Cond.selects RX0 yX0_firstEndingFrom yX0_firstEndingFrom, Cond.code yX0_firstEndingFrom cX0_firstEndingFrom 5 (some .int), Cond.fieldLink RX0 13 "CharRows$Ranges" "highs" "[I", Cond.methodLink RX0 30 yX0_insert, Cond.instanceMethod yX0_insert, Cond.selects RX0 yX0_insert yX0_insert, Cond.code yX0_insert cX0_insert 4 none, Cond.methodLink RX0 38 yX0_shift, Cond.instanceMethod yX0_shift, Cond.selects RX0 yX0_shift yX0_shift, Cond.code yX0_shift cX0_shift 3 none, Cond.methodLink RX0 20 arraycopyName, Cond.native arraycopyName, Cond.static arraycopyName, Cond.initialized "java/lang/System", Cond.methodLink RX0 34 yX0_unite, Cond.instanceMethod yX0_unite, Cond.selects RX0 yX0_unite yX0_unite]
def wsL_add_r3 : List Cond := [Cond.code yX0_unite cX0_unite 5 none, Cond.methodLink RX0 42 Lib.Math.min.name, Cond.methodLink RX0 48 Lib.Math.max.name]
def wsL_add : List Cond := .codeWith yL_add cL_add 5 (some .int) [(0, 10, 13, 13)] :: ((wsL_add_r1 ++ (wsL_add_r2 ++ wsL_add_r3)) ++ wsX10 ++ wsX00 ++ (vx_atS RX1 27 "java/lang/IllegalArgumentException" ["java/lang/RuntimeException", "java/lang/Exception"]).filter goodWord)
def wsL_law0_r1 : List Cond := [Cond.classLink RL 8 RX1, Cond.instantiable RX1 3, Cond.initialized RX1, Cond.methodLink RL 15 yX1_init, Cond.instanceMethod yX1_init, Cond.code yX1_init cX1_init 1 none, Cond.methodLink RX1 1 objectInit, Cond.instanceMethod objectInit, Cond.code objectInit ⟨#[0xb1]⟩ 1 none, Cond.classLink RX1 7 RX0, Cond.instantiable RX0 3, Cond.initialized RX0, Cond.fieldLink RX1 10 "CharRows" "held" "LCharRows$Ranges;", Cond.fieldLink RX1 16 "CharRows" "spare" "LCharRows$Ranges;", Cond.fieldLink RX1 19 "CharRows" "kept" "LCharRows$Ranges;", Cond.instanceMethod yX0_init, Cond.code yX0_init cX0_init 1 none, Cond.methodLink RX0 1 objectInit, Cond.arrayClass .int, Cond.fieldLink RX0 9 "CharRows$Ranges" "lows" "[I", Cond.fieldLink RX0 13 "CharRows$Ranges" "highs" "[I", Cond.fieldLink RX0 16 "CharRows$Ranges" "count" "I", Cond.methodLink RL 19 yL_add, Cond.static yL_add]
def wsL_law0_r2 : List Cond := [Cond.initialized RL, Cond.codeWith yL_add cL_add 5 (some .int) [(0, 10, 13, 13)], Cond.classLink RL 13 "java/lang/IllegalArgumentException", Cond.methodLink RL 7 yX1_add, Cond.instanceMethod yX1_add, Cond.selects RX1 yX1_add yX1_add, Cond.code yX1_add cX1_add 3 (some .int), Cond.classLink RX1 23 "java/lang/IllegalArgumentException", Cond.initialized "java/lang/IllegalArgumentException", Cond.constant RX1 22 (1114111), Cond.methodLink RX1 30 yX1_putCharacters, Cond.static yX1_putCharacters, Cond.code yX1_putCharacters cX1_putCharacters 3 none, Cond.constant RX1 94 (55295), Cond.methodLink RX1 95 Lib.Math.min.name, Cond.static Lib.Math.min.name, Cond.initialized "java/lang/Math", Cond.code Lib.Math.min.name Lib.Math.min.code 2 (some .int), Cond.constant RX1 100 (57344), Cond.methodLink RX1 101 Lib.Math.max.name, Cond.static Lib.Math.max.name, Cond.code Lib.Math.max.name Lib.Math.max.code 2 (some .int), Cond.instanceMethod yX0_put, Cond.selects RX0 yX0_put yX0_put]
def wsL_law0_r3 : List Cond := [Cond.code yX0_put cX0_put 5 none, Cond.methodLink RX0 26 yX0_firstEndingFrom, Cond.instanceMethod yX0_firstEndingFrom, Cond.selects RX0 yX0_firstEndingFrom yX0_firstEndingFrom, Cond.code yX0_firstEndingFrom cX0_firstEndingFrom 5 (some .int), Cond.methodLink RX0 30 yX0_insert, Cond.instanceMethod yX0_insert, Cond.selects RX0 yX0_insert yX0_insert, Cond.code yX0_insert cX0_insert 4 none, Cond.methodLink RX0 38 yX0_shift, Cond.instanceMethod yX0_shift, Cond.selects RX0 yX0_shift yX0_shift, Cond.code yX0_shift cX0_shift 3 none, Cond.methodLink RX0 20 arraycopyName, Cond.native arraycopyName, Cond.static arraycopyName, Cond.initialized "java/lang/System", Cond.methodLink RX0 34 yX0_unite, Cond.instanceMethod yX0_unite, Cond.selects RX0 yX0_unite yX0_unite, Cond.code yX0_unite cX0_unite 5 none, Cond.methodLink RX0 42 Lib.Math.min.name, Cond.methodLink RX0 48 Lib.Math.max.name, Cond.methodLink RL 29 yX1_clear]
def wsL_law0_r4 : List Cond := [Cond.instanceMethod yX1_clear, Cond.selects RX1 yX1_clear yX1_clear, Cond.code yX1_clear cX1_clear 1 none, Cond.instanceMethod yX0_empty, Cond.selects RX0 yX0_empty yX0_empty, Cond.code yX0_empty cX0_empty 1 none, Cond.methodLink RL 33 yX1_fold, Cond.instanceMethod yX1_fold, Cond.selects RX1 yX1_fold yX1_fold, Cond.code yX1_fold cX1_fold 1 (some .int), Cond.methodLink RX1 41 yX1_foldLetters, Cond.instanceMethod yX1_foldLetters, Cond.selects RX1 yX1_foldLetters yX1_foldLetters, Cond.code yX1_foldLetters cX1_foldLetters 4 none, Cond.fieldLink RX1 104 "CharRows" "LETTERS" "[I", Cond.methodLink RX1 107 yX1_foldTwo, Cond.instanceMethod yX1_foldTwo, Cond.selects RX1 yX1_foldTwo yX1_foldTwo, Cond.code yX1_foldTwo cX1_foldTwo 5 none, Cond.instanceMethod yX0_holds, Cond.selects RX0 yX0_holds yX0_holds, Cond.code yX0_holds cX0_holds 3 (some .boolean), Cond.methodLink RX1 44 yX1_foldPairs, Cond.instanceMethod yX1_foldPairs]
def wsL_law0_r5 : List Cond := [Cond.selects RX1 yX1_foldPairs yX1_foldPairs, Cond.code yX1_foldPairs cX1_foldPairs 2 none, Cond.fieldLink RX1 110 "CharRows" "PAIRS" "[I", Cond.methodLink RL 37 yX1_turn, Cond.instanceMethod yX1_turn, Cond.selects RX1 yX1_turn yX1_turn, Cond.code yX1_turn cX1_turn 5 (some .int), Cond.methodLink RL 41 yX1_keep, Cond.instanceMethod yX1_keep, Cond.selects RX1 yX1_keep yX1_keep, Cond.code yX1_keep cX1_keep 1 none, Cond.instanceMethod yX0_become, Cond.selects RX0 yX0_become yX0_become, Cond.code yX0_become cX0_become 2 none, Cond.methodLink RL 45 yX1_join, Cond.instanceMethod yX1_join, Cond.selects RX1 yX1_join yX1_join, Cond.code yX1_join cX1_join 2 (some .int), Cond.methodLink RL 49 yX1_has, Cond.instanceMethod yX1_has, Cond.selects RX1 yX1_has yX1_has, Cond.code yX1_has cX1_has 2 (some .boolean), Cond.methodLink RL 54 yX1_ranges, Cond.instanceMethod yX1_ranges]
def wsL_law0_r6 : List Cond := [Cond.selects RX1 yX1_ranges yX1_ranges, Cond.code yX1_ranges cX1_ranges 1 (some .int), Cond.methodLink RL 58 yX1_range, Cond.instanceMethod yX1_range, Cond.selects RX1 yX1_range yX1_range, Cond.code yX1_range cX1_range 3 (some .int), Cond.methodLink RL 62 yX1_rows, Cond.instanceMethod yX1_rows, Cond.selects RX1 yX1_rows yX1_rows, Cond.code yX1_rows cX1_rows 3 (some .int), Cond.methodLink RX1 66 yX1_countRows, Cond.static yX1_countRows, Cond.code yX1_countRows cX1_countRows 4 (some .int), Cond.methodLink RX1 84 yX1_lastOfRow, Cond.static yX1_lastOfRow, Cond.code yX1_lastOfRow cX1_lastOfRow 8 (some .int), Cond.methodLink RX1 74 yX1_byteCount, Cond.static yX1_byteCount, Cond.code yX1_byteCount cX1_byteCount 1 (some .int), Cond.methodLink RX1 116 yX1_lastOfLength, Cond.static yX1_lastOfLength, Cond.code yX1_lastOfLength cX1_lastOfLength 1 (some .int), Cond.constant RX1 119 (65535), Cond.methodLink RL 66 yX1_row]
def wsL_law0_r7 : List Cond := [Cond.instanceMethod yX1_row, Cond.selects RX1 yX1_row yX1_row, Cond.code yX1_row cX1_row 6 (some .int), Cond.methodLink RX1 70 yX1_firstOfRow, Cond.instanceMethod yX1_firstOfRow, Cond.selects RX1 yX1_firstOfRow yX1_firstOfRow, Cond.code yX1_firstOfRow cX1_firstOfRow 5 (some .int), Cond.methodLink RX1 113 yX1_skipRows, Cond.static yX1_skipRows, Cond.code yX1_skipRows cX1_skipRows 5 (some .int), Cond.methodLink RX1 77 yX1_byteOf, Cond.static yX1_byteOf, Cond.code yX1_byteOf cX1_byteOf 4 (some .int), Cond.methodLink RX1 120 yX1_leadMark, Cond.static yX1_leadMark, Cond.code yX1_leadMark cX1_leadMark 1 (some .int), Cond.constant RX1 123 (65280), Cond.instanceMethod yX0_endAround, Cond.selects RX0 yX0_endAround yX0_endAround, Cond.code yX0_endAround cX0_endAround 3 (some .int), Cond.methodLink RL 71 yX1_takes, Cond.instanceMethod yX1_takes, Cond.selects RX1 yX1_takes yX1_takes, Cond.code yX1_takes cX1_takes 4 (some .boolean)]
def wsL_law0_r8 : List Cond := [Cond.methodLink RX1 87 yX1_decode, Cond.static yX1_decode, Cond.code yX1_decode cX1_decode 4 (some .int), Cond.methodLink RX1 124 yX1_byteAt, Cond.static yX1_byteAt, Cond.code yX1_byteAt cX1_byteAt 2 (some .int), Cond.methodLink RX1 90 yX1_startsWithBytesOf, Cond.static yX1_startsWithBytesOf, Cond.code yX1_startsWithBytesOf cX1_startsWithBytesOf 4 (some .boolean)]
def wsL_law0 : List Cond := (wsL_law0_r1 ++ (wsL_law0_r2 ++ (wsL_law0_r3 ++ (wsL_law0_r4 ++ (wsL_law0_r5 ++ (wsL_law0_r6 ++ (wsL_law0_r7 ++ wsL_law0_r8))))))) ++ wsX10 ++ wsX00 ++ ([] : List Cond)
def wsL_law : List Cond := wsL_law0 ++ (vx_atS RX1 27 "java/lang/IllegalArgumentException" ["java/lang/RuntimeException", "java/lang/Exception"]).filter goodWord
set_option maxRecDepth 20000 in
theorem wsL_law_in0 : ∀ w ∈ wsL_law0, w ∈ lw_tbl := fun w h => (goodIn_p wsL_law0 [35, 38, 43, 225, 136, 120, 123, 102, 98, 106, 110, 117, 72, 76, 80, 84, 90, 94, 127, 133, 145, 149, 153, 157, 161, 165, 169, 172, 175, 178, 181, 186, 190, 193, 196, 199, 204, 208, 211, 214, 217] (by decide +kernel) (by decide +kernel) w h).1
theorem wsL_law_x0 : ∀ w ∈ (vx_atS RX1 27 "java/lang/IllegalArgumentException" ["java/lang/RuntimeException", "java/lang/Exception"]).filter goodWord, w ∈ lw_tbl := by decide +kernel
theorem wsL_law_in : ∀ w ∈ wsL_law, w ∈ lw_tbl := fun w h => (List.mem_append.mp h).elim (fun h => wsL_law_in0 w h) (fun h => wsL_law_x0 w h)
theorem inlX0 : ∀ w ∈ wsX00, w ∈ wsL_law := fun _ h => List.mem_append_left _ (List.mem_append_left _ (List.mem_append_right _ h))
theorem inX0 : ∀ w ∈ wsX00, w ∈ lw_tbl := fun w h => wsL_law_in w (inlX0 w h)
theorem inlX1 : ∀ w ∈ wsX10, w ∈ wsL_law := fun _ h => List.mem_append_left _ (List.mem_append_left _ (List.mem_append_left _ (List.mem_append_right _ h)))
theorem inX1 : ∀ w ∈ wsX10, w ∈ lw_tbl := fun w h => wsL_law_in w (inlX1 w h)
theorem inX2 : ∀ w ∈ wsX20, w ∈ lw_tbl := by decide +kernel
theorem inJ9 : ∀ w ∈ wsJ90, w ∈ lw_tbl := by decide +kernel
theorem inJ0 : ∀ w ∈ wsJ00, w ∈ lw_tbl := by decide +kernel
theorem inJ10 : ∀ w ∈ wsJ100, w ∈ lw_tbl := by decide +kernel
theorem dX0_init_0 : decode cX0_init 0 = .ok (.aload_n 0, 1) := by decide +kernel
theorem dX0_init_1 : decode cX0_init 1 = .ok (.invokespecial 1, 3) := by decide +kernel
theorem dX0_init_4 : decode cX0_init 4 = .ok (.aload_n 0, 1) := by decide +kernel
theorem dX0_init_5 : decode cX0_init 5 = .ok (.sipush 768, 3) := by decide +kernel
theorem dX0_init_8 : decode cX0_init 8 = .ok (.newarray .int, 2) := by decide +kernel
theorem dX0_init_10 : decode cX0_init 10 = .ok (.putfield 9, 3) := by decide +kernel
theorem dX0_init_13 : decode cX0_init 13 = .ok (.aload_n 0, 1) := by decide +kernel
theorem dX0_init_14 : decode cX0_init 14 = .ok (.sipush 768, 3) := by decide +kernel
theorem dX0_init_17 : decode cX0_init 17 = .ok (.newarray .int, 2) := by decide +kernel
theorem dX0_init_19 : decode cX0_init 19 = .ok (.putfield 13, 3) := by decide +kernel
theorem dX0_init_22 : decode cX0_init 22 = .ok (.aload_n 0, 1) := by decide +kernel
theorem dX0_init_23 : decode cX0_init 23 = .ok (.iconst 0, 1) := by decide +kernel
theorem dX0_init_24 : decode cX0_init 24 = .ok (.putfield 16, 3) := by decide +kernel
theorem dX0_init_27 : decode cX0_init 27 = .ok (.return_, 1) := by decide +kernel
theorem dX0_empty_0 : decode cX0_empty 0 = .ok (.aload_n 0, 1) := by decide +kernel
theorem dX0_empty_1 : decode cX0_empty 1 = .ok (.iconst 0, 1) := by decide +kernel
theorem dX0_empty_2 : decode cX0_empty 2 = .ok (.putfield 16, 3) := by decide +kernel
theorem dX0_empty_5 : decode cX0_empty 5 = .ok (.return_, 1) := by decide +kernel
theorem dX0_become_0 : decode cX0_become 0 = .ok (.aload_n 1, 1) := by decide +kernel
theorem dX0_become_1 : decode cX0_become 1 = .ok (.getfield 9, 3) := by decide +kernel
theorem dX0_become_4 : decode cX0_become 4 = .ok (.iconst 0, 1) := by decide +kernel
theorem dX0_become_5 : decode cX0_become 5 = .ok (.aload_n 0, 1) := by decide +kernel
theorem dX0_become_6 : decode cX0_become 6 = .ok (.getfield 9, 3) := by decide +kernel
theorem dX0_become_9 : decode cX0_become 9 = .ok (.iconst 0, 1) := by decide +kernel
theorem dX0_become_10 : decode cX0_become 10 = .ok (.aload_n 1, 1) := by decide +kernel
theorem dX0_become_11 : decode cX0_become 11 = .ok (.getfield 16, 3) := by decide +kernel
theorem dX0_become_14 : decode cX0_become 14 = .ok (.invokestatic 20, 3) := by decide +kernel
theorem dX0_become_17 : decode cX0_become 17 = .ok (.aload_n 1, 1) := by decide +kernel
theorem dX0_become_18 : decode cX0_become 18 = .ok (.getfield 13, 3) := by decide +kernel
theorem dX0_become_21 : decode cX0_become 21 = .ok (.iconst 0, 1) := by decide +kernel
theorem dX0_become_22 : decode cX0_become 22 = .ok (.aload_n 0, 1) := by decide +kernel
theorem dX0_become_23 : decode cX0_become 23 = .ok (.getfield 13, 3) := by decide +kernel
theorem dX0_become_26 : decode cX0_become 26 = .ok (.iconst 0, 1) := by decide +kernel
theorem dX0_become_27 : decode cX0_become 27 = .ok (.aload_n 1, 1) := by decide +kernel
theorem dX0_become_28 : decode cX0_become 28 = .ok (.getfield 16, 3) := by decide +kernel
theorem dX0_become_31 : decode cX0_become 31 = .ok (.invokestatic 20, 3) := by decide +kernel
theorem dX0_become_34 : decode cX0_become 34 = .ok (.aload_n 0, 1) := by decide +kernel
theorem dX0_become_35 : decode cX0_become 35 = .ok (.aload_n 1, 1) := by decide +kernel
theorem dX0_become_36 : decode cX0_become 36 = .ok (.getfield 16, 3) := by decide +kernel
theorem dX0_become_39 : decode cX0_become 39 = .ok (.putfield 16, 3) := by decide +kernel
theorem dX0_become_42 : decode cX0_become 42 = .ok (.return_, 1) := by decide +kernel
set_option maxRecDepth 20000 in
theorem ggX0_holds_X0_firstEndingFrom : GoodIn wsX0_holds wsX0_firstEndingFrom := goodIn_r _ [7, 1, 8, 9, 10, 11] (by decide +kernel) (by decide +kernel)
set_option maxRecDepth 20000 in
theorem gX0_holds_X0_firstEndingFrom : GoodIn wsX0_holds (wsV RX0 26 RX0 yX0_firstEndingFrom wsX0_firstEndingFrom) := goodIn_app (goodIn_of _ (by decide +kernel)) ggX0_holds_X0_firstEndingFrom
theorem dX0_holds_0 : decode cX0_holds 0 = .ok (.aload_n 0, 1) := by decide +kernel
theorem dX0_holds_1 : decode cX0_holds 1 = .ok (.iload_n 1, 1) := by decide +kernel
theorem dX0_holds_2 : decode cX0_holds 2 = .ok (.invokevirtual 26, 3) := by decide +kernel
theorem dX0_holds_5 : decode cX0_holds 5 = .ok (.istore_n 2, 1) := by decide +kernel
theorem dX0_holds_6 : decode cX0_holds 6 = .ok (.iload_n 2, 1) := by decide +kernel
theorem dX0_holds_7 : decode cX0_holds 7 = .ok (.aload_n 0, 1) := by decide +kernel
theorem dX0_holds_8 : decode cX0_holds 8 = .ok (.getfield 16, 3) := by decide +kernel
theorem dX0_holds_11 : decode cX0_holds 11 = .ok (.if_icmp .ge 17, 3) := by decide +kernel
theorem dX0_holds_14 : decode cX0_holds 14 = .ok (.aload_n 0, 1) := by decide +kernel
theorem dX0_holds_15 : decode cX0_holds 15 = .ok (.getfield 9, 3) := by decide +kernel
theorem dX0_holds_18 : decode cX0_holds 18 = .ok (.iload_n 2, 1) := by decide +kernel
theorem dX0_holds_19 : decode cX0_holds 19 = .ok (.iaload, 1) := by decide +kernel
theorem dX0_holds_20 : decode cX0_holds 20 = .ok (.iload_n 1, 1) := by decide +kernel
theorem dX0_holds_21 : decode cX0_holds 21 = .ok (.if_icmp .gt 7, 3) := by decide +kernel
theorem dX0_holds_24 : decode cX0_holds 24 = .ok (.iconst 1, 1) := by decide +kernel
theorem dX0_holds_25 : decode cX0_holds 25 = .ok (.goto 4, 3) := by decide +kernel
theorem dX0_holds_28 : decode cX0_holds 28 = .ok (.iconst 0, 1) := by decide +kernel
theorem dX0_holds_29 : decode cX0_holds 29 = .ok (.ireturn, 1) := by decide +kernel
set_option maxRecDepth 20000 in
theorem ggX0_endAround_X0_firstEndingFrom : GoodIn wsX0_endAround wsX0_firstEndingFrom := goodIn_r _ [8, 1, 3, 9, 10, 11] (by decide +kernel) (by decide +kernel)
set_option maxRecDepth 20000 in
theorem gX0_endAround_X0_firstEndingFrom : GoodIn wsX0_endAround (wsV RX0 26 RX0 yX0_firstEndingFrom wsX0_firstEndingFrom) := goodIn_app (goodIn_of _ (by decide +kernel)) ggX0_endAround_X0_firstEndingFrom
theorem dX0_endAround_0 : decode cX0_endAround 0 = .ok (.aload_n 0, 1) := by decide +kernel
theorem dX0_endAround_1 : decode cX0_endAround 1 = .ok (.iload_n 1, 1) := by decide +kernel
theorem dX0_endAround_2 : decode cX0_endAround 2 = .ok (.invokevirtual 26, 3) := by decide +kernel
theorem dX0_endAround_5 : decode cX0_endAround 5 = .ok (.istore_n 2, 1) := by decide +kernel
theorem dX0_endAround_6 : decode cX0_endAround 6 = .ok (.iload_n 2, 1) := by decide +kernel
theorem dX0_endAround_7 : decode cX0_endAround 7 = .ok (.aload_n 0, 1) := by decide +kernel
theorem dX0_endAround_8 : decode cX0_endAround 8 = .ok (.getfield 16, 3) := by decide +kernel
theorem dX0_endAround_11 : decode cX0_endAround 11 = .ok (.if_icmp .ge 22, 3) := by decide +kernel
theorem dX0_endAround_14 : decode cX0_endAround 14 = .ok (.aload_n 0, 1) := by decide +kernel
theorem dX0_endAround_15 : decode cX0_endAround 15 = .ok (.getfield 9, 3) := by decide +kernel
theorem dX0_endAround_18 : decode cX0_endAround 18 = .ok (.iload_n 2, 1) := by decide +kernel
theorem dX0_endAround_19 : decode cX0_endAround 19 = .ok (.iaload, 1) := by decide +kernel
theorem dX0_endAround_20 : decode cX0_endAround 20 = .ok (.iload_n 1, 1) := by decide +kernel
theorem dX0_endAround_21 : decode cX0_endAround 21 = .ok (.if_icmp .gt 12, 3) := by decide +kernel
theorem dX0_endAround_24 : decode cX0_endAround 24 = .ok (.aload_n 0, 1) := by decide +kernel
theorem dX0_endAround_25 : decode cX0_endAround 25 = .ok (.getfield 13, 3) := by decide +kernel
theorem dX0_endAround_28 : decode cX0_endAround 28 = .ok (.iload_n 2, 1) := by decide +kernel
theorem dX0_endAround_29 : decode cX0_endAround 29 = .ok (.iaload, 1) := by decide +kernel
theorem dX0_endAround_30 : decode cX0_endAround 30 = .ok (.goto 4, 3) := by decide +kernel
theorem dX0_endAround_33 : decode cX0_endAround 33 = .ok (.iload_n 1, 1) := by decide +kernel
theorem dX0_endAround_34 : decode cX0_endAround 34 = .ok (.ireturn, 1) := by decide +kernel
theorem dX0_firstEndingFrom_0 : decode cX0_firstEndingFrom 0 = .ok (.iconst 0, 1) := by decide +kernel
theorem dX0_firstEndingFrom_1 : decode cX0_firstEndingFrom 1 = .ok (.istore_n 2, 1) := by decide +kernel
theorem dX0_firstEndingFrom_2 : decode cX0_firstEndingFrom 2 = .ok (.aload_n 0, 1) := by decide +kernel
theorem dX0_firstEndingFrom_3 : decode cX0_firstEndingFrom 3 = .ok (.getfield 16, 3) := by decide +kernel
theorem dX0_firstEndingFrom_6 : decode cX0_firstEndingFrom 6 = .ok (.istore_n 3, 1) := by decide +kernel
theorem dX0_firstEndingFrom_7 : decode cX0_firstEndingFrom 7 = .ok (.iload_n 2, 1) := by decide +kernel
theorem dX0_firstEndingFrom_8 : decode cX0_firstEndingFrom 8 = .ok (.iload_n 3, 1) := by decide +kernel
theorem dX0_firstEndingFrom_9 : decode cX0_firstEndingFrom 9 = .ok (.if_icmp .ge 35, 3) := by decide +kernel
theorem dX0_firstEndingFrom_12 : decode cX0_firstEndingFrom 12 = .ok (.iload_n 2, 1) := by decide +kernel
theorem dX0_firstEndingFrom_13 : decode cX0_firstEndingFrom 13 = .ok (.iload_n 3, 1) := by decide +kernel
theorem dX0_firstEndingFrom_14 : decode cX0_firstEndingFrom 14 = .ok (.iadd, 1) := by decide +kernel
theorem dX0_firstEndingFrom_15 : decode cX0_firstEndingFrom 15 = .ok (.iconst 1, 1) := by decide +kernel
theorem dX0_firstEndingFrom_16 : decode cX0_firstEndingFrom 16 = .ok (.iushr, 1) := by decide +kernel
theorem dX0_firstEndingFrom_17 : decode cX0_firstEndingFrom 17 = .ok (.istore 4, 2) := by decide +kernel
theorem dX0_firstEndingFrom_19 : decode cX0_firstEndingFrom 19 = .ok (.aload_n 0, 1) := by decide +kernel
theorem dX0_firstEndingFrom_20 : decode cX0_firstEndingFrom 20 = .ok (.getfield 13, 3) := by decide +kernel
theorem dX0_firstEndingFrom_23 : decode cX0_firstEndingFrom 23 = .ok (.iload 4, 2) := by decide +kernel
theorem dX0_firstEndingFrom_25 : decode cX0_firstEndingFrom 25 = .ok (.iaload, 1) := by decide +kernel
theorem dX0_firstEndingFrom_26 : decode cX0_firstEndingFrom 26 = .ok (.iload_n 1, 1) := by decide +kernel
theorem dX0_firstEndingFrom_27 : decode cX0_firstEndingFrom 27 = .ok (.if_icmp .ge 11, 3) := by decide +kernel
theorem dX0_firstEndingFrom_30 : decode cX0_firstEndingFrom 30 = .ok (.iload 4, 2) := by decide +kernel
theorem dX0_firstEndingFrom_32 : decode cX0_firstEndingFrom 32 = .ok (.iconst 1, 1) := by decide +kernel
theorem dX0_firstEndingFrom_33 : decode cX0_firstEndingFrom 33 = .ok (.iadd, 1) := by decide +kernel
theorem dX0_firstEndingFrom_34 : decode cX0_firstEndingFrom 34 = .ok (.istore_n 2, 1) := by decide +kernel
theorem dX0_firstEndingFrom_35 : decode cX0_firstEndingFrom 35 = .ok (.goto 6, 3) := by decide +kernel
theorem dX0_firstEndingFrom_38 : decode cX0_firstEndingFrom 38 = .ok (.iload 4, 2) := by decide +kernel
theorem dX0_firstEndingFrom_40 : decode cX0_firstEndingFrom 40 = .ok (.istore_n 3, 1) := by decide +kernel
theorem dX0_firstEndingFrom_41 : decode cX0_firstEndingFrom 41 = .ok (.goto (-34), 3) := by decide +kernel
theorem dX0_firstEndingFrom_44 : decode cX0_firstEndingFrom 44 = .ok (.iload_n 2, 1) := by decide +kernel
theorem dX0_firstEndingFrom_45 : decode cX0_firstEndingFrom 45 = .ok (.ireturn, 1) := by decide +kernel
set_option maxRecDepth 20000 in
theorem ggX0_put_X0_firstEndingFrom : GoodIn wsX0_put wsX0_firstEndingFrom := goodIn_r _ [7, 1, 8, 32, 33, 34] (by decide +kernel) (by decide +kernel)
set_option maxRecDepth 20000 in
theorem gX0_put_X0_firstEndingFrom : GoodIn wsX0_put (wsV RX0 26 RX0 yX0_firstEndingFrom wsX0_firstEndingFrom) := goodIn_app (goodIn_of _ (by decide +kernel)) ggX0_put_X0_firstEndingFrom
set_option maxRecDepth 20000 in
theorem ggX0_put_X0_insert : GoodIn wsX0_put wsX0_insert := goodIn_r _ [12, 1, 2, 8, 13, 14, 15, 6, 16, 17, 18, 19, 20, 32, 33, 34] (by decide +kernel) (by decide +kernel)
set_option maxRecDepth 20000 in
theorem gX0_put_X0_insert : GoodIn wsX0_put (wsV RX0 30 RX0 yX0_insert wsX0_insert) := goodIn_app (goodIn_of _ (by decide +kernel)) ggX0_put_X0_insert
set_option maxRecDepth 20000 in
theorem ggX0_put_X0_unite : GoodIn wsX0_put wsX0_unite := goodIn_r _ [24, 2, 25, 26, 27, 28, 8, 29, 30, 31, 13, 14, 15, 6, 16, 1, 17, 18, 19, 20, 32, 33, 34] (by decide +kernel) (by decide +kernel)
set_option maxRecDepth 20000 in
theorem gX0_put_X0_unite : GoodIn wsX0_put (wsV RX0 34 RX0 yX0_unite wsX0_unite) := goodIn_app (goodIn_of _ (by decide +kernel)) ggX0_put_X0_unite
theorem dX0_put_0 : decode cX0_put 0 = .ok (.iload_n 1, 1) := by decide +kernel
theorem dX0_put_1 : decode cX0_put 1 = .ok (.iload_n 2, 1) := by decide +kernel
theorem dX0_put_2 : decode cX0_put 2 = .ok (.if_icmp .le 4, 3) := by decide +kernel
theorem dX0_put_5 : decode cX0_put 5 = .ok (.return_, 1) := by decide +kernel
theorem dX0_put_6 : decode cX0_put 6 = .ok (.aload_n 0, 1) := by decide +kernel
theorem dX0_put_7 : decode cX0_put 7 = .ok (.iload_n 1, 1) := by decide +kernel
theorem dX0_put_8 : decode cX0_put 8 = .ok (.iconst 1, 1) := by decide +kernel
theorem dX0_put_9 : decode cX0_put 9 = .ok (.isub, 1) := by decide +kernel
theorem dX0_put_10 : decode cX0_put 10 = .ok (.invokevirtual 26, 3) := by decide +kernel
theorem dX0_put_13 : decode cX0_put 13 = .ok (.istore_n 3, 1) := by decide +kernel
theorem dX0_put_14 : decode cX0_put 14 = .ok (.iload_n 3, 1) := by decide +kernel
theorem dX0_put_15 : decode cX0_put 15 = .ok (.istore 4, 2) := by decide +kernel
theorem dX0_put_17 : decode cX0_put 17 = .ok (.iload 4, 2) := by decide +kernel
theorem dX0_put_19 : decode cX0_put 19 = .ok (.aload_n 0, 1) := by decide +kernel
theorem dX0_put_20 : decode cX0_put 20 = .ok (.getfield 16, 3) := by decide +kernel
theorem dX0_put_23 : decode cX0_put 23 = .ok (.if_icmp .ge 22, 3) := by decide +kernel
theorem dX0_put_26 : decode cX0_put 26 = .ok (.aload_n 0, 1) := by decide +kernel
theorem dX0_put_27 : decode cX0_put 27 = .ok (.getfield 9, 3) := by decide +kernel
theorem dX0_put_30 : decode cX0_put 30 = .ok (.iload 4, 2) := by decide +kernel
theorem dX0_put_32 : decode cX0_put 32 = .ok (.iaload, 1) := by decide +kernel
theorem dX0_put_33 : decode cX0_put 33 = .ok (.iload_n 2, 1) := by decide +kernel
theorem dX0_put_34 : decode cX0_put 34 = .ok (.iconst 1, 1) := by decide +kernel
theorem dX0_put_35 : decode cX0_put 35 = .ok (.iadd, 1) := by decide +kernel
theorem dX0_put_36 : decode cX0_put 36 = .ok (.if_icmp .gt 9, 3) := by decide +kernel
theorem dX0_put_39 : decode cX0_put 39 = .ok (.iinc 4 1, 3) := by decide +kernel
theorem dX0_put_42 : decode cX0_put 42 = .ok (.goto (-25), 3) := by decide +kernel
theorem dX0_put_45 : decode cX0_put 45 = .ok (.iload_n 3, 1) := by decide +kernel
theorem dX0_put_46 : decode cX0_put 46 = .ok (.iload 4, 2) := by decide +kernel
theorem dX0_put_48 : decode cX0_put 48 = .ok (.if_icmp .ne 13, 3) := by decide +kernel
theorem dX0_put_51 : decode cX0_put 51 = .ok (.aload_n 0, 1) := by decide +kernel
theorem dX0_put_52 : decode cX0_put 52 = .ok (.iload_n 3, 1) := by decide +kernel
theorem dX0_put_53 : decode cX0_put 53 = .ok (.iload_n 1, 1) := by decide +kernel
theorem dX0_put_54 : decode cX0_put 54 = .ok (.iload_n 2, 1) := by decide +kernel
theorem dX0_put_55 : decode cX0_put 55 = .ok (.invokevirtual 30, 3) := by decide +kernel
theorem dX0_put_58 : decode cX0_put 58 = .ok (.goto 12, 3) := by decide +kernel
theorem dX0_put_61 : decode cX0_put 61 = .ok (.aload_n 0, 1) := by decide +kernel
theorem dX0_put_62 : decode cX0_put 62 = .ok (.iload_n 3, 1) := by decide +kernel
theorem dX0_put_63 : decode cX0_put 63 = .ok (.iload 4, 2) := by decide +kernel
theorem dX0_put_65 : decode cX0_put 65 = .ok (.iload_n 1, 1) := by decide +kernel
theorem dX0_put_66 : decode cX0_put 66 = .ok (.iload_n 2, 1) := by decide +kernel
theorem dX0_put_67 : decode cX0_put 67 = .ok (.invokevirtual 34, 3) := by decide +kernel
theorem dX0_put_70 : decode cX0_put 70 = .ok (.return_, 1) := by decide +kernel
set_option maxRecDepth 20000 in
theorem ggX0_insert_X0_shift : GoodIn wsX0_insert wsX0_shift := goodIn_r _ [8, 2, 1, 9, 10, 11, 12, 3, 13, 14, 15] (by decide +kernel) (by decide +kernel)
set_option maxRecDepth 20000 in
theorem gX0_insert_X0_shift : GoodIn wsX0_insert (wsV RX0 38 RX0 yX0_shift wsX0_shift) := goodIn_app (goodIn_of _ (by decide +kernel)) ggX0_insert_X0_shift
theorem dX0_insert_0 : decode cX0_insert 0 = .ok (.aload_n 0, 1) := by decide +kernel
theorem dX0_insert_1 : decode cX0_insert 1 = .ok (.getfield 16, 3) := by decide +kernel
theorem dX0_insert_4 : decode cX0_insert 4 = .ok (.sipush 768, 3) := by decide +kernel
theorem dX0_insert_7 : decode cX0_insert 7 = .ok (.if_icmp .lt 4, 3) := by decide +kernel
theorem dX0_insert_10 : decode cX0_insert 10 = .ok (.return_, 1) := by decide +kernel
theorem dX0_insert_11 : decode cX0_insert 11 = .ok (.aload_n 0, 1) := by decide +kernel
theorem dX0_insert_12 : decode cX0_insert 12 = .ok (.iload_n 1, 1) := by decide +kernel
theorem dX0_insert_13 : decode cX0_insert 13 = .ok (.iload_n 1, 1) := by decide +kernel
theorem dX0_insert_14 : decode cX0_insert 14 = .ok (.iconst 1, 1) := by decide +kernel
theorem dX0_insert_15 : decode cX0_insert 15 = .ok (.iadd, 1) := by decide +kernel
theorem dX0_insert_16 : decode cX0_insert 16 = .ok (.invokevirtual 38, 3) := by decide +kernel
theorem dX0_insert_19 : decode cX0_insert 19 = .ok (.aload_n 0, 1) := by decide +kernel
theorem dX0_insert_20 : decode cX0_insert 20 = .ok (.getfield 9, 3) := by decide +kernel
theorem dX0_insert_23 : decode cX0_insert 23 = .ok (.iload_n 1, 1) := by decide +kernel
theorem dX0_insert_24 : decode cX0_insert 24 = .ok (.iload_n 2, 1) := by decide +kernel
theorem dX0_insert_25 : decode cX0_insert 25 = .ok (.iastore, 1) := by decide +kernel
theorem dX0_insert_26 : decode cX0_insert 26 = .ok (.aload_n 0, 1) := by decide +kernel
theorem dX0_insert_27 : decode cX0_insert 27 = .ok (.getfield 13, 3) := by decide +kernel
theorem dX0_insert_30 : decode cX0_insert 30 = .ok (.iload_n 1, 1) := by decide +kernel
theorem dX0_insert_31 : decode cX0_insert 31 = .ok (.iload_n 3, 1) := by decide +kernel
theorem dX0_insert_32 : decode cX0_insert 32 = .ok (.iastore, 1) := by decide +kernel
theorem dX0_insert_33 : decode cX0_insert 33 = .ok (.return_, 1) := by decide +kernel
set_option maxRecDepth 20000 in
theorem ggX0_unite_X0_shift : GoodIn wsX0_unite wsX0_shift := goodIn_r _ [14, 1, 15, 16, 17, 18, 19, 6, 20, 21, 22] (by decide +kernel) (by decide +kernel)
set_option maxRecDepth 20000 in
theorem gX0_unite_X0_shift : GoodIn wsX0_unite (wsV RX0 38 RX0 yX0_shift wsX0_shift) := goodIn_app (goodIn_of _ (by decide +kernel)) ggX0_unite_X0_shift
theorem dX0_unite_0 : decode cX0_unite 0 = .ok (.aload_n 0, 1) := by decide +kernel
theorem dX0_unite_1 : decode cX0_unite 1 = .ok (.getfield 9, 3) := by decide +kernel
theorem dX0_unite_4 : decode cX0_unite 4 = .ok (.iload_n 1, 1) := by decide +kernel
theorem dX0_unite_5 : decode cX0_unite 5 = .ok (.aload_n 0, 1) := by decide +kernel
theorem dX0_unite_6 : decode cX0_unite 6 = .ok (.getfield 9, 3) := by decide +kernel
theorem dX0_unite_9 : decode cX0_unite 9 = .ok (.iload_n 1, 1) := by decide +kernel
theorem dX0_unite_10 : decode cX0_unite 10 = .ok (.iaload, 1) := by decide +kernel
theorem dX0_unite_11 : decode cX0_unite 11 = .ok (.iload_n 3, 1) := by decide +kernel
theorem dX0_unite_12 : decode cX0_unite 12 = .ok (.invokestatic 42, 3) := by decide +kernel
theorem dX0_unite_15 : decode cX0_unite 15 = .ok (.iastore, 1) := by decide +kernel
theorem dX0_unite_16 : decode cX0_unite 16 = .ok (.aload_n 0, 1) := by decide +kernel
theorem dX0_unite_17 : decode cX0_unite 17 = .ok (.getfield 13, 3) := by decide +kernel
theorem dX0_unite_20 : decode cX0_unite 20 = .ok (.iload_n 1, 1) := by decide +kernel
theorem dX0_unite_21 : decode cX0_unite 21 = .ok (.aload_n 0, 1) := by decide +kernel
theorem dX0_unite_22 : decode cX0_unite 22 = .ok (.getfield 13, 3) := by decide +kernel
theorem dX0_unite_25 : decode cX0_unite 25 = .ok (.iload_n 2, 1) := by decide +kernel
theorem dX0_unite_26 : decode cX0_unite 26 = .ok (.iconst 1, 1) := by decide +kernel
theorem dX0_unite_27 : decode cX0_unite 27 = .ok (.isub, 1) := by decide +kernel
theorem dX0_unite_28 : decode cX0_unite 28 = .ok (.iaload, 1) := by decide +kernel
theorem dX0_unite_29 : decode cX0_unite 29 = .ok (.iload 4, 2) := by decide +kernel
theorem dX0_unite_31 : decode cX0_unite 31 = .ok (.invokestatic 48, 3) := by decide +kernel
theorem dX0_unite_34 : decode cX0_unite 34 = .ok (.iastore, 1) := by decide +kernel
theorem dX0_unite_35 : decode cX0_unite 35 = .ok (.aload_n 0, 1) := by decide +kernel
theorem dX0_unite_36 : decode cX0_unite 36 = .ok (.iload_n 2, 1) := by decide +kernel
theorem dX0_unite_37 : decode cX0_unite 37 = .ok (.iload_n 1, 1) := by decide +kernel
theorem dX0_unite_38 : decode cX0_unite 38 = .ok (.iconst 1, 1) := by decide +kernel
theorem dX0_unite_39 : decode cX0_unite 39 = .ok (.iadd, 1) := by decide +kernel
theorem dX0_unite_40 : decode cX0_unite 40 = .ok (.invokevirtual 38, 3) := by decide +kernel
theorem dX0_unite_43 : decode cX0_unite 43 = .ok (.return_, 1) := by decide +kernel
theorem dX0_shift_0 : decode cX0_shift 0 = .ok (.aload_n 0, 1) := by decide +kernel
theorem dX0_shift_1 : decode cX0_shift 1 = .ok (.getfield 9, 3) := by decide +kernel
theorem dX0_shift_4 : decode cX0_shift 4 = .ok (.iload_n 1, 1) := by decide +kernel
theorem dX0_shift_5 : decode cX0_shift 5 = .ok (.aload_n 0, 1) := by decide +kernel
theorem dX0_shift_6 : decode cX0_shift 6 = .ok (.getfield 9, 3) := by decide +kernel
theorem dX0_shift_9 : decode cX0_shift 9 = .ok (.iload_n 2, 1) := by decide +kernel
theorem dX0_shift_10 : decode cX0_shift 10 = .ok (.aload_n 0, 1) := by decide +kernel
theorem dX0_shift_11 : decode cX0_shift 11 = .ok (.getfield 16, 3) := by decide +kernel
theorem dX0_shift_14 : decode cX0_shift 14 = .ok (.iload_n 1, 1) := by decide +kernel
theorem dX0_shift_15 : decode cX0_shift 15 = .ok (.isub, 1) := by decide +kernel
theorem dX0_shift_16 : decode cX0_shift 16 = .ok (.invokestatic 20, 3) := by decide +kernel
theorem dX0_shift_19 : decode cX0_shift 19 = .ok (.aload_n 0, 1) := by decide +kernel
theorem dX0_shift_20 : decode cX0_shift 20 = .ok (.getfield 13, 3) := by decide +kernel
theorem dX0_shift_23 : decode cX0_shift 23 = .ok (.iload_n 1, 1) := by decide +kernel
theorem dX0_shift_24 : decode cX0_shift 24 = .ok (.aload_n 0, 1) := by decide +kernel
theorem dX0_shift_25 : decode cX0_shift 25 = .ok (.getfield 13, 3) := by decide +kernel
theorem dX0_shift_28 : decode cX0_shift 28 = .ok (.iload_n 2, 1) := by decide +kernel
theorem dX0_shift_29 : decode cX0_shift 29 = .ok (.aload_n 0, 1) := by decide +kernel
theorem dX0_shift_30 : decode cX0_shift 30 = .ok (.getfield 16, 3) := by decide +kernel
theorem dX0_shift_33 : decode cX0_shift 33 = .ok (.iload_n 1, 1) := by decide +kernel
theorem dX0_shift_34 : decode cX0_shift 34 = .ok (.isub, 1) := by decide +kernel
theorem dX0_shift_35 : decode cX0_shift 35 = .ok (.invokestatic 20, 3) := by decide +kernel
theorem dX0_shift_38 : decode cX0_shift 38 = .ok (.aload_n 0, 1) := by decide +kernel
theorem dX0_shift_39 : decode cX0_shift 39 = .ok (.dup, 1) := by decide +kernel
theorem dX0_shift_40 : decode cX0_shift 40 = .ok (.getfield 16, 3) := by decide +kernel
theorem dX0_shift_43 : decode cX0_shift 43 = .ok (.iload_n 2, 1) := by decide +kernel
theorem dX0_shift_44 : decode cX0_shift 44 = .ok (.iload_n 1, 1) := by decide +kernel
theorem dX0_shift_45 : decode cX0_shift 45 = .ok (.isub, 1) := by decide +kernel
theorem dX0_shift_46 : decode cX0_shift 46 = .ok (.iadd, 1) := by decide +kernel
theorem dX0_shift_47 : decode cX0_shift 47 = .ok (.putfield 16, 3) := by decide +kernel
theorem dX0_shift_50 : decode cX0_shift 50 = .ok (.return_, 1) := by decide +kernel
set_option maxRecDepth 20000 in
theorem ggX1_init_X0_init : GoodIn wsX1_init wsX0_init := goodIn_r _ [11, 12, 2, 3, 13, 14, 15, 16, 17, 18, 19] (by decide +kernel) (by decide +kernel)
set_option maxRecDepth 20000 in
theorem gX1_init_X0_init_n9 : GoodIn wsX1_init (wsX0_init) := ggX1_init_X0_init
theorem dX1_init_0 : decode cX1_init 0 = .ok (.aload_n 0, 1) := by decide +kernel
theorem dX1_init_1 : decode cX1_init 1 = .ok (.invokespecial 1, 3) := by decide +kernel
theorem dX1_init_4 : decode cX1_init 4 = .ok (.aload_n 0, 1) := by decide +kernel
theorem dX1_init_5 : decode cX1_init 5 = .ok (.new 7, 3) := by decide +kernel
theorem dX1_init_8 : decode cX1_init 8 = .ok (.dup, 1) := by decide +kernel
theorem dX1_init_9 : decode cX1_init 9 = .ok (.invokespecial 9, 3) := by decide +kernel
theorem dX1_init_12 : decode cX1_init 12 = .ok (.putfield 10, 3) := by decide +kernel
theorem dX1_init_15 : decode cX1_init 15 = .ok (.aload_n 0, 1) := by decide +kernel
theorem dX1_init_16 : decode cX1_init 16 = .ok (.new 7, 3) := by decide +kernel
theorem dX1_init_19 : decode cX1_init 19 = .ok (.dup, 1) := by decide +kernel
theorem dX1_init_20 : decode cX1_init 20 = .ok (.invokespecial 9, 3) := by decide +kernel
theorem dX1_init_23 : decode cX1_init 23 = .ok (.putfield 16, 3) := by decide +kernel
theorem dX1_init_26 : decode cX1_init 26 = .ok (.aload_n 0, 1) := by decide +kernel
theorem dX1_init_27 : decode cX1_init 27 = .ok (.new 7, 3) := by decide +kernel
theorem dX1_init_30 : decode cX1_init 30 = .ok (.dup, 1) := by decide +kernel
theorem dX1_init_31 : decode cX1_init 31 = .ok (.invokespecial 9, 3) := by decide +kernel
theorem dX1_init_34 : decode cX1_init 34 = .ok (.putfield 19, 3) := by decide +kernel
theorem dX1_init_37 : decode cX1_init 37 = .ok (.return_, 1) := by decide +kernel
set_option maxRecDepth 20000 in
theorem ggX1_add_X1_putCharacters : GoodIn wsX1_add wsX1_putCharacters := goodIn_r _ [8, 9, 10, 11, 12, 13, 14, 15, 16, 17, 18, 19, 20, 21, 22, 23, 24, 25, 26, 27, 28, 29, 30, 31, 32, 33, 34, 35, 36, 37, 38, 39, 40, 41, 42, 43, 44, 45, 46, 50, 51, 52] (by decide +kernel) (by decide +kernel)
set_option maxRecDepth 20000 in
theorem gX1_add_X1_putCharacters : GoodIn wsX1_add (va_wsS RX1 30 yX1_putCharacters wsX1_putCharacters) := goodIn_app (goodIn_of _ (by decide +kernel)) ggX1_add_X1_putCharacters
theorem dX1_add_0 : decode cX1_add 0 = .ok (.iload_n 1, 1) := by decide +kernel
theorem dX1_add_1 : decode cX1_add 1 = .ok (.ifCond .lt 14, 3) := by decide +kernel
theorem dX1_add_4 : decode cX1_add 4 = .ok (.iload_n 2, 1) := by decide +kernel
theorem dX1_add_5 : decode cX1_add 5 = .ok (.iload_n 1, 1) := by decide +kernel
theorem dX1_add_6 : decode cX1_add 6 = .ok (.if_icmp .lt 9, 3) := by decide +kernel
theorem dX1_add_9 : decode cX1_add 9 = .ok (.iload_n 2, 1) := by decide +kernel
theorem dX1_add_10 : decode cX1_add 10 = .ok (.ldc 22, 2) := by decide +kernel
theorem dX1_add_12 : decode cX1_add 12 = .ok (.if_icmp .le 13, 3) := by decide +kernel
theorem dX1_add_15 : decode cX1_add 15 = .ok (.new 23, 3) := by decide +kernel
theorem dX1_add_18 : decode cX1_add 18 = .ok (.dup, 1) := by decide +kernel
theorem dX1_add_19 : decode cX1_add 19 = .ok (.ldc 25, 2) := by decide +kernel
theorem dX1_add_21 : decode cX1_add 21 = .ok (.invokespecial 27, 3) := by decide +kernel
theorem dX1_add_24 : decode cX1_add 24 = .ok (.athrow, 1) := by decide +kernel
theorem dX1_add_25 : decode cX1_add 25 = .ok (.aload_n 0, 1) := by decide +kernel
theorem dX1_add_26 : decode cX1_add 26 = .ok (.getfield 10, 3) := by decide +kernel
theorem dX1_add_29 : decode cX1_add 29 = .ok (.iload_n 1, 1) := by decide +kernel
theorem dX1_add_30 : decode cX1_add 30 = .ok (.iload_n 2, 1) := by decide +kernel
theorem dX1_add_31 : decode cX1_add 31 = .ok (.invokestatic 30, 3) := by decide +kernel
theorem dX1_add_34 : decode cX1_add 34 = .ok (.aload_n 0, 1) := by decide +kernel
theorem dX1_add_35 : decode cX1_add 35 = .ok (.getfield 10, 3) := by decide +kernel
theorem dX1_add_38 : decode cX1_add 38 = .ok (.getfield 34, 3) := by decide +kernel
theorem dX1_add_41 : decode cX1_add 41 = .ok (.ireturn, 1) := by decide +kernel
set_option maxRecDepth 20000 in
theorem ggX1_clear_X0_empty : GoodIn wsX1_clear wsX0_empty := goodIn_r _ [5, 6, 10, 11, 12] (by decide +kernel) (by decide +kernel)
set_option maxRecDepth 20000 in
theorem gX1_clear_X0_empty_n38 : GoodIn wsX1_clear (wsX0_empty) := ggX1_clear_X0_empty
theorem dX1_clear_0 : decode cX1_clear 0 = .ok (.aload_n 0, 1) := by decide +kernel
theorem dX1_clear_1 : decode cX1_clear 1 = .ok (.getfield 10, 3) := by decide +kernel
theorem dX1_clear_4 : decode cX1_clear 4 = .ok (.invokevirtual 38, 3) := by decide +kernel
theorem dX1_clear_7 : decode cX1_clear 7 = .ok (.return_, 1) := by decide +kernel
set_option maxRecDepth 20000 in
theorem ggX1_fold_X1_foldLetters : GoodIn wsX1_fold wsX1_foldLetters := goodIn_r _ [6, 7, 8, 9, 10, 5, 11, 1, 12, 13, 14, 15, 16, 17, 18, 19, 20, 21, 22, 23, 24, 25, 26, 27, 28, 29, 30, 31, 32, 33, 34, 35, 36, 37, 38, 39, 40, 41, 42, 43, 44, 45, 46, 47, 48, 54, 55, 56, 57, 58, 59] (by decide +kernel) (by decide +kernel)
set_option maxRecDepth 20000 in
theorem gX1_fold_X1_foldLetters : GoodIn wsX1_fold (wsV RX1 41 RX1 yX1_foldLetters wsX1_foldLetters) := goodIn_app (goodIn_of _ (by decide +kernel)) ggX1_fold_X1_foldLetters
set_option maxRecDepth 20000 in
theorem ggX1_fold_X1_foldPairs : GoodIn wsX1_fold wsX1_foldPairs := goodIn_r _ [52, 53, 8, 9, 10, 5, 11, 1, 12, 13, 14, 15, 16, 17, 18, 19, 20, 21, 22, 23, 24, 25, 26, 27, 28, 29, 30, 31, 32, 33, 34, 35, 36, 37, 38, 39, 40, 41, 42, 43, 44, 45, 46, 47, 48, 54, 55, 56, 57, 58, 59] (by decide +kernel) (by decide +kernel)
set_option maxRecDepth 20000 in
theorem gX1_fold_X1_foldPairs : GoodIn wsX1_fold (wsV RX1 44 RX1 yX1_foldPairs wsX1_foldPairs) := goodIn_app (goodIn_of _ (by decide +kernel)) ggX1_fold_X1_foldPairs
theorem dX1_fold_0 : decode cX1_fold 0 = .ok (.aload_n 0, 1) := by decide +kernel
theorem dX1_fold_1 : decode cX1_fold 1 = .ok (.invokevirtual 41, 3) := by decide +kernel
theorem dX1_fold_4 : decode cX1_fold 4 = .ok (.aload_n 0, 1) := by decide +kernel
theorem dX1_fold_5 : decode cX1_fold 5 = .ok (.invokevirtual 44, 3) := by decide +kernel
theorem dX1_fold_8 : decode cX1_fold 8 = .ok (.aload_n 0, 1) := by decide +kernel
theorem dX1_fold_9 : decode cX1_fold 9 = .ok (.invokevirtual 41, 3) := by decide +kernel
theorem dX1_fold_12 : decode cX1_fold 12 = .ok (.aload_n 0, 1) := by decide +kernel
theorem dX1_fold_13 : decode cX1_fold 13 = .ok (.getfield 10, 3) := by decide +kernel
theorem dX1_fold_16 : decode cX1_fold 16 = .ok (.getfield 34, 3) := by decide +kernel
theorem dX1_fold_19 : decode cX1_fold 19 = .ok (.ireturn, 1) := by decide +kernel
set_option maxRecDepth 20000 in
theorem ggX1_turn_X0_empty : GoodIn wsX1_turn wsX0_empty := goodIn_r _ [7, 8, 52, 53, 54] (by decide +kernel) (by decide +kernel)
set_option maxRecDepth 20000 in
theorem gX1_turn_X0_empty_n38 : GoodIn wsX1_turn (wsX0_empty) := ggX1_turn_X0_empty
set_option maxRecDepth 20000 in
theorem ggX1_turn_X1_putCharacters : GoodIn wsX1_turn wsX1_putCharacters := goodIn_r _ [12, 13, 14, 15, 16, 17, 18, 19, 20, 21, 22, 5, 23, 24, 8, 25, 26, 27, 28, 29, 30, 31, 32, 33, 34, 35, 36, 37, 38, 39, 40, 41, 42, 43, 44, 45, 46, 47, 48, 52, 53, 54] (by decide +kernel) (by decide +kernel)
set_option maxRecDepth 20000 in
theorem gX1_turn_X1_putCharacters : GoodIn wsX1_turn (va_wsS RX1 30 yX1_putCharacters wsX1_putCharacters) := goodIn_app (goodIn_of _ (by decide +kernel)) ggX1_turn_X1_putCharacters
theorem dX1_turn_0 : decode cX1_turn 0 = .ok (.aload_n 0, 1) := by decide +kernel
theorem dX1_turn_1 : decode cX1_turn 1 = .ok (.getfield 10, 3) := by decide +kernel
theorem dX1_turn_4 : decode cX1_turn 4 = .ok (.astore_n 1, 1) := by decide +kernel
theorem dX1_turn_5 : decode cX1_turn 5 = .ok (.aload_n 0, 1) := by decide +kernel
theorem dX1_turn_6 : decode cX1_turn 6 = .ok (.getfield 16, 3) := by decide +kernel
theorem dX1_turn_9 : decode cX1_turn 9 = .ok (.astore_n 2, 1) := by decide +kernel
theorem dX1_turn_10 : decode cX1_turn 10 = .ok (.aload_n 2, 1) := by decide +kernel
theorem dX1_turn_11 : decode cX1_turn 11 = .ok (.invokevirtual 38, 3) := by decide +kernel
theorem dX1_turn_14 : decode cX1_turn 14 = .ok (.iconst 0, 1) := by decide +kernel
theorem dX1_turn_15 : decode cX1_turn 15 = .ok (.istore_n 3, 1) := by decide +kernel
theorem dX1_turn_16 : decode cX1_turn 16 = .ok (.iconst 0, 1) := by decide +kernel
theorem dX1_turn_17 : decode cX1_turn 17 = .ok (.istore 4, 2) := by decide +kernel
theorem dX1_turn_19 : decode cX1_turn 19 = .ok (.iload 4, 2) := by decide +kernel
theorem dX1_turn_21 : decode cX1_turn 21 = .ok (.aload_n 1, 1) := by decide +kernel
theorem dX1_turn_22 : decode cX1_turn 22 = .ok (.getfield 34, 3) := by decide +kernel
theorem dX1_turn_25 : decode cX1_turn 25 = .ok (.if_icmp .ge 33, 3) := by decide +kernel
theorem dX1_turn_28 : decode cX1_turn 28 = .ok (.aload_n 2, 1) := by decide +kernel
theorem dX1_turn_29 : decode cX1_turn 29 = .ok (.iload_n 3, 1) := by decide +kernel
theorem dX1_turn_30 : decode cX1_turn 30 = .ok (.aload_n 1, 1) := by decide +kernel
theorem dX1_turn_31 : decode cX1_turn 31 = .ok (.getfield 47, 3) := by decide +kernel
theorem dX1_turn_34 : decode cX1_turn 34 = .ok (.iload 4, 2) := by decide +kernel
theorem dX1_turn_36 : decode cX1_turn 36 = .ok (.iaload, 1) := by decide +kernel
theorem dX1_turn_37 : decode cX1_turn 37 = .ok (.iconst 1, 1) := by decide +kernel
theorem dX1_turn_38 : decode cX1_turn 38 = .ok (.isub, 1) := by decide +kernel
theorem dX1_turn_39 : decode cX1_turn 39 = .ok (.invokestatic 30, 3) := by decide +kernel
theorem dX1_turn_42 : decode cX1_turn 42 = .ok (.aload_n 1, 1) := by decide +kernel
theorem dX1_turn_43 : decode cX1_turn 43 = .ok (.getfield 51, 3) := by decide +kernel
theorem dX1_turn_46 : decode cX1_turn 46 = .ok (.iload 4, 2) := by decide +kernel
theorem dX1_turn_48 : decode cX1_turn 48 = .ok (.iaload, 1) := by decide +kernel
theorem dX1_turn_49 : decode cX1_turn 49 = .ok (.iconst 1, 1) := by decide +kernel
theorem dX1_turn_50 : decode cX1_turn 50 = .ok (.iadd, 1) := by decide +kernel
theorem dX1_turn_51 : decode cX1_turn 51 = .ok (.istore_n 3, 1) := by decide +kernel
theorem dX1_turn_52 : decode cX1_turn 52 = .ok (.iinc 4 1, 3) := by decide +kernel
theorem dX1_turn_55 : decode cX1_turn 55 = .ok (.goto (-36), 3) := by decide +kernel
theorem dX1_turn_58 : decode cX1_turn 58 = .ok (.aload_n 2, 1) := by decide +kernel
theorem dX1_turn_59 : decode cX1_turn 59 = .ok (.iload_n 3, 1) := by decide +kernel
theorem dX1_turn_60 : decode cX1_turn 60 = .ok (.ldc 22, 2) := by decide +kernel
theorem dX1_turn_62 : decode cX1_turn 62 = .ok (.invokestatic 30, 3) := by decide +kernel
theorem dX1_turn_65 : decode cX1_turn 65 = .ok (.aload_n 0, 1) := by decide +kernel
theorem dX1_turn_66 : decode cX1_turn 66 = .ok (.aload_n 2, 1) := by decide +kernel
theorem dX1_turn_67 : decode cX1_turn 67 = .ok (.putfield 10, 3) := by decide +kernel
theorem dX1_turn_70 : decode cX1_turn 70 = .ok (.aload_n 0, 1) := by decide +kernel
theorem dX1_turn_71 : decode cX1_turn 71 = .ok (.aload_n 1, 1) := by decide +kernel
theorem dX1_turn_72 : decode cX1_turn 72 = .ok (.putfield 16, 3) := by decide +kernel
theorem dX1_turn_75 : decode cX1_turn 75 = .ok (.aload_n 0, 1) := by decide +kernel
theorem dX1_turn_76 : decode cX1_turn 76 = .ok (.getfield 10, 3) := by decide +kernel
theorem dX1_turn_79 : decode cX1_turn 79 = .ok (.getfield 34, 3) := by decide +kernel
theorem dX1_turn_82 : decode cX1_turn 82 = .ok (.ireturn, 1) := by decide +kernel
set_option maxRecDepth 20000 in
theorem ggX1_keep_X0_become : GoodIn wsX1_keep wsX0_become := goodIn_r _ [6, 7, 8, 9, 10, 11, 12, 13, 17, 18, 19] (by decide +kernel) (by decide +kernel)
set_option maxRecDepth 20000 in
theorem gX1_keep_X0_become_n54 : GoodIn wsX1_keep (wsX0_become) := ggX1_keep_X0_become
theorem dX1_keep_0 : decode cX1_keep 0 = .ok (.aload_n 0, 1) := by decide +kernel
theorem dX1_keep_1 : decode cX1_keep 1 = .ok (.getfield 19, 3) := by decide +kernel
theorem dX1_keep_4 : decode cX1_keep 4 = .ok (.aload_n 0, 1) := by decide +kernel
theorem dX1_keep_5 : decode cX1_keep 5 = .ok (.getfield 10, 3) := by decide +kernel
theorem dX1_keep_8 : decode cX1_keep 8 = .ok (.invokevirtual 54, 3) := by decide +kernel
theorem dX1_keep_11 : decode cX1_keep 11 = .ok (.return_, 1) := by decide +kernel
set_option maxRecDepth 20000 in
theorem ggX1_join_X0_put : GoodIn wsX1_join wsX0_put := goodIn_r _ [6, 7, 8, 9, 10, 11, 4, 12, 13, 14, 15, 16, 17, 18, 19, 20, 21, 22, 23, 24, 25, 26, 27, 28, 29, 30, 31, 32, 33, 34, 35, 36, 40, 41, 42] (by decide +kernel) (by decide +kernel)
set_option maxRecDepth 20000 in
theorem gX1_join_X0_put_n58 : GoodIn wsX1_join (wsX0_put) := ggX1_join_X0_put
theorem dX1_join_0 : decode cX1_join 0 = .ok (.iconst 0, 1) := by decide +kernel
theorem dX1_join_1 : decode cX1_join 1 = .ok (.istore_n 1, 1) := by decide +kernel
theorem dX1_join_2 : decode cX1_join 2 = .ok (.iload_n 1, 1) := by decide +kernel
theorem dX1_join_3 : decode cX1_join 3 = .ok (.aload_n 0, 1) := by decide +kernel
theorem dX1_join_4 : decode cX1_join 4 = .ok (.getfield 19, 3) := by decide +kernel
theorem dX1_join_7 : decode cX1_join 7 = .ok (.getfield 34, 3) := by decide +kernel
theorem dX1_join_10 : decode cX1_join 10 = .ok (.if_icmp .ge 34, 3) := by decide +kernel
theorem dX1_join_13 : decode cX1_join 13 = .ok (.aload_n 0, 1) := by decide +kernel
theorem dX1_join_14 : decode cX1_join 14 = .ok (.getfield 10, 3) := by decide +kernel
theorem dX1_join_17 : decode cX1_join 17 = .ok (.aload_n 0, 1) := by decide +kernel
theorem dX1_join_18 : decode cX1_join 18 = .ok (.getfield 19, 3) := by decide +kernel
theorem dX1_join_21 : decode cX1_join 21 = .ok (.getfield 47, 3) := by decide +kernel
theorem dX1_join_24 : decode cX1_join 24 = .ok (.iload_n 1, 1) := by decide +kernel
theorem dX1_join_25 : decode cX1_join 25 = .ok (.iaload, 1) := by decide +kernel
theorem dX1_join_26 : decode cX1_join 26 = .ok (.aload_n 0, 1) := by decide +kernel
theorem dX1_join_27 : decode cX1_join 27 = .ok (.getfield 19, 3) := by decide +kernel
theorem dX1_join_30 : decode cX1_join 30 = .ok (.getfield 51, 3) := by decide +kernel
theorem dX1_join_33 : decode cX1_join 33 = .ok (.iload_n 1, 1) := by decide +kernel
theorem dX1_join_34 : decode cX1_join 34 = .ok (.iaload, 1) := by decide +kernel
theorem dX1_join_35 : decode cX1_join 35 = .ok (.invokevirtual 58, 3) := by decide +kernel
theorem dX1_join_38 : decode cX1_join 38 = .ok (.iinc 1 1, 3) := by decide +kernel
theorem dX1_join_41 : decode cX1_join 41 = .ok (.goto (-39), 3) := by decide +kernel
theorem dX1_join_44 : decode cX1_join 44 = .ok (.aload_n 0, 1) := by decide +kernel
theorem dX1_join_45 : decode cX1_join 45 = .ok (.getfield 10, 3) := by decide +kernel
theorem dX1_join_48 : decode cX1_join 48 = .ok (.getfield 34, 3) := by decide +kernel
theorem dX1_join_51 : decode cX1_join 51 = .ok (.ireturn, 1) := by decide +kernel
set_option maxRecDepth 20000 in
theorem ggX1_has_X0_holds : GoodIn wsX1_has wsX0_holds := goodIn_r _ [5, 6, 7, 8, 9, 10, 3, 11, 12, 16, 17, 18] (by decide +kernel) (by decide +kernel)
set_option maxRecDepth 20000 in
theorem gX1_has_X0_holds_n62 : GoodIn wsX1_has (wsX0_holds) := ggX1_has_X0_holds
theorem dX1_has_0 : decode cX1_has 0 = .ok (.aload_n 0, 1) := by decide +kernel
theorem dX1_has_1 : decode cX1_has 1 = .ok (.getfield 10, 3) := by decide +kernel
theorem dX1_has_4 : decode cX1_has 4 = .ok (.iload_n 1, 1) := by decide +kernel
theorem dX1_has_5 : decode cX1_has 5 = .ok (.invokevirtual 62, 3) := by decide +kernel
theorem dX1_has_8 : decode cX1_has 8 = .ok (.ireturn, 1) := by decide +kernel
theorem dX1_ranges_0 : decode cX1_ranges 0 = .ok (.aload_n 0, 1) := by decide +kernel
theorem dX1_ranges_1 : decode cX1_ranges 1 = .ok (.getfield 10, 3) := by decide +kernel
theorem dX1_ranges_4 : decode cX1_ranges 4 = .ok (.getfield 34, 3) := by decide +kernel
theorem dX1_ranges_7 : decode cX1_ranges 7 = .ok (.ireturn, 1) := by decide +kernel
theorem dX1_range_0 : decode cX1_range 0 = .ok (.iload_n 1, 1) := by decide +kernel
theorem dX1_range_1 : decode cX1_range 1 = .ok (.ifCond .lt 14, 3) := by decide +kernel
theorem dX1_range_4 : decode cX1_range 4 = .ok (.iload_n 1, 1) := by decide +kernel
theorem dX1_range_5 : decode cX1_range 5 = .ok (.aload_n 0, 1) := by decide +kernel
theorem dX1_range_6 : decode cX1_range 6 = .ok (.getfield 10, 3) := by decide +kernel
theorem dX1_range_9 : decode cX1_range 9 = .ok (.getfield 34, 3) := by decide +kernel
theorem dX1_range_12 : decode cX1_range 12 = .ok (.if_icmp .lt 5, 3) := by decide +kernel
theorem dX1_range_15 : decode cX1_range 15 = .ok (.iconst (-1), 1) := by decide +kernel
theorem dX1_range_16 : decode cX1_range 16 = .ok (.ireturn, 1) := by decide +kernel
theorem dX1_range_17 : decode cX1_range 17 = .ok (.iload_n 2, 1) := by decide +kernel
theorem dX1_range_18 : decode cX1_range 18 = .ok (.ifCond .ne 13, 3) := by decide +kernel
theorem dX1_range_21 : decode cX1_range 21 = .ok (.aload_n 0, 1) := by decide +kernel
theorem dX1_range_22 : decode cX1_range 22 = .ok (.getfield 10, 3) := by decide +kernel
theorem dX1_range_25 : decode cX1_range 25 = .ok (.getfield 47, 3) := by decide +kernel
theorem dX1_range_28 : decode cX1_range 28 = .ok (.iload_n 1, 1) := by decide +kernel
theorem dX1_range_29 : decode cX1_range 29 = .ok (.iaload, 1) := by decide +kernel
theorem dX1_range_30 : decode cX1_range 30 = .ok (.ireturn, 1) := by decide +kernel
theorem dX1_range_31 : decode cX1_range 31 = .ok (.iload_n 2, 1) := by decide +kernel
theorem dX1_range_32 : decode cX1_range 32 = .ok (.iconst 1, 1) := by decide +kernel
theorem dX1_range_33 : decode cX1_range 33 = .ok (.if_icmp .ne 15, 3) := by decide +kernel
theorem dX1_range_36 : decode cX1_range 36 = .ok (.aload_n 0, 1) := by decide +kernel
theorem dX1_range_37 : decode cX1_range 37 = .ok (.getfield 10, 3) := by decide +kernel
theorem dX1_range_40 : decode cX1_range 40 = .ok (.getfield 51, 3) := by decide +kernel
theorem dX1_range_43 : decode cX1_range 43 = .ok (.iload_n 1, 1) := by decide +kernel
theorem dX1_range_44 : decode cX1_range 44 = .ok (.iaload, 1) := by decide +kernel
theorem dX1_range_45 : decode cX1_range 45 = .ok (.goto 4, 3) := by decide +kernel
theorem dX1_range_48 : decode cX1_range 48 = .ok (.iconst (-1), 1) := by decide +kernel
theorem dX1_range_49 : decode cX1_range 49 = .ok (.ireturn, 1) := by decide +kernel
set_option maxRecDepth 20000 in
theorem ggX1_rows_X1_countRows : GoodIn wsX1_rows wsX1_countRows := goodIn_r _ [5, 6, 7, 4, 8, 9, 10, 11, 12, 13, 14, 15, 16, 17, 18, 19, 20] (by decide +kernel) (by decide +kernel)
set_option maxRecDepth 20000 in
theorem gX1_rows_X1_countRows : GoodIn wsX1_rows (va_wsS RX1 66 yX1_countRows wsX1_countRows) := goodIn_app (goodIn_of _ (by decide +kernel)) ggX1_rows_X1_countRows
theorem dX1_rows_0 : decode cX1_rows 0 = .ok (.iconst 0, 1) := by decide +kernel
theorem dX1_rows_1 : decode cX1_rows 1 = .ok (.istore_n 1, 1) := by decide +kernel
theorem dX1_rows_2 : decode cX1_rows 2 = .ok (.iconst 0, 1) := by decide +kernel
theorem dX1_rows_3 : decode cX1_rows 3 = .ok (.istore_n 2, 1) := by decide +kernel
theorem dX1_rows_4 : decode cX1_rows 4 = .ok (.iload_n 2, 1) := by decide +kernel
theorem dX1_rows_5 : decode cX1_rows 5 = .ok (.aload_n 0, 1) := by decide +kernel
theorem dX1_rows_6 : decode cX1_rows 6 = .ok (.getfield 10, 3) := by decide +kernel
theorem dX1_rows_9 : decode cX1_rows 9 = .ok (.getfield 34, 3) := by decide +kernel
theorem dX1_rows_12 : decode cX1_rows 12 = .ok (.if_icmp .ge 33, 3) := by decide +kernel
theorem dX1_rows_15 : decode cX1_rows 15 = .ok (.iload_n 1, 1) := by decide +kernel
theorem dX1_rows_16 : decode cX1_rows 16 = .ok (.aload_n 0, 1) := by decide +kernel
theorem dX1_rows_17 : decode cX1_rows 17 = .ok (.getfield 10, 3) := by decide +kernel
theorem dX1_rows_20 : decode cX1_rows 20 = .ok (.getfield 47, 3) := by decide +kernel
theorem dX1_rows_23 : decode cX1_rows 23 = .ok (.iload_n 2, 1) := by decide +kernel
theorem dX1_rows_24 : decode cX1_rows 24 = .ok (.iaload, 1) := by decide +kernel
theorem dX1_rows_25 : decode cX1_rows 25 = .ok (.aload_n 0, 1) := by decide +kernel
theorem dX1_rows_26 : decode cX1_rows 26 = .ok (.getfield 10, 3) := by decide +kernel
theorem dX1_rows_29 : decode cX1_rows 29 = .ok (.getfield 51, 3) := by decide +kernel
theorem dX1_rows_32 : decode cX1_rows 32 = .ok (.iload_n 2, 1) := by decide +kernel
theorem dX1_rows_33 : decode cX1_rows 33 = .ok (.iaload, 1) := by decide +kernel
theorem dX1_rows_34 : decode cX1_rows 34 = .ok (.invokestatic 66, 3) := by decide +kernel
theorem dX1_rows_37 : decode cX1_rows 37 = .ok (.iadd, 1) := by decide +kernel
theorem dX1_rows_38 : decode cX1_rows 38 = .ok (.istore_n 1, 1) := by decide +kernel
theorem dX1_rows_39 : decode cX1_rows 39 = .ok (.iinc 2 1, 3) := by decide +kernel
theorem dX1_rows_42 : decode cX1_rows 42 = .ok (.goto (-38), 3) := by decide +kernel
theorem dX1_rows_45 : decode cX1_rows 45 = .ok (.iload_n 1, 1) := by decide +kernel
theorem dX1_rows_46 : decode cX1_rows 46 = .ok (.ireturn, 1) := by decide +kernel
set_option maxRecDepth 20000 in
theorem ggX1_row_X1_firstOfRow : GoodIn wsX1_row wsX1_firstOfRow := goodIn_r _ [6, 1, 7, 8, 5, 9, 10, 11, 12, 13, 14, 15, 16, 17, 18, 19, 20, 21, 22, 23, 24, 25, 26, 27, 46, 47, 48, 49, 50, 51] (by decide +kernel) (by decide +kernel)
set_option maxRecDepth 20000 in
theorem gX1_row_X1_firstOfRow : GoodIn wsX1_row (wsV RX1 70 RX1 yX1_firstOfRow wsX1_firstOfRow) := goodIn_app (goodIn_of _ (by decide +kernel)) ggX1_row_X1_firstOfRow
set_option maxRecDepth 20000 in
theorem ggX1_row_X1_byteCount : GoodIn wsX1_row wsX1_byteCount := goodIn_r _ [19, 20, 21, 5, 22, 23, 24] (by decide +kernel) (by decide +kernel)
set_option maxRecDepth 20000 in
theorem gX1_row_X1_byteCount : GoodIn wsX1_row (va_wsS RX1 74 yX1_byteCount wsX1_byteCount) := goodIn_app (goodIn_of _ (by decide +kernel)) ggX1_row_X1_byteCount
set_option maxRecDepth 20000 in
theorem ggX1_row_X1_byteOf : GoodIn wsX1_row wsX1_byteOf := goodIn_r _ [30, 31, 32, 5, 33, 34] (by decide +kernel) (by decide +kernel)
set_option maxRecDepth 20000 in
theorem gX1_row_X1_byteOf : GoodIn wsX1_row (va_wsS RX1 77 yX1_byteOf wsX1_byteOf) := goodIn_app (goodIn_of _ (by decide +kernel)) ggX1_row_X1_byteOf
set_option maxRecDepth 20000 in
theorem ggX1_row_X0_endAround : GoodIn wsX1_row wsX0_endAround := goodIn_r _ [38, 39, 40, 41, 42, 43, 44, 36, 45, 49, 50, 51] (by decide +kernel) (by decide +kernel)
set_option maxRecDepth 20000 in
theorem gX1_row_X0_endAround_n81 : GoodIn wsX1_row (wsX0_endAround) := ggX1_row_X0_endAround
set_option maxRecDepth 20000 in
theorem ggX1_row_X1_lastOfRow : GoodIn wsX1_row wsX1_lastOfRow := goodIn_r _ [12, 13, 14, 15, 16, 17, 18, 5, 19, 20, 21, 22, 23, 24] (by decide +kernel) (by decide +kernel)
set_option maxRecDepth 20000 in
theorem gX1_row_X1_lastOfRow : GoodIn wsX1_row (va_wsS RX1 84 yX1_lastOfRow wsX1_lastOfRow) := goodIn_app (goodIn_of _ (by decide +kernel)) ggX1_row_X1_lastOfRow
theorem dX1_row_0 : decode cX1_row 0 = .ok (.aload_n 0, 1) := by decide +kernel
theorem dX1_row_1 : decode cX1_row 1 = .ok (.iload_n 1, 1) := by decide +kernel
theorem dX1_row_2 : decode cX1_row 2 = .ok (.invokevirtual 70, 3) := by decide +kernel
theorem dX1_row_5 : decode cX1_row 5 = .ok (.istore 4, 2) := by decide +kernel
theorem dX1_row_7 : decode cX1_row 7 = .ok (.iload 4, 2) := by decide +kernel
theorem dX1_row_9 : decode cX1_row 9 = .ok (.iconst (-1), 1) := by decide +kernel
theorem dX1_row_10 : decode cX1_row 10 = .ok (.if_icmp .ne 5, 3) := by decide +kernel
theorem dX1_row_13 : decode cX1_row 13 = .ok (.iconst (-1), 1) := by decide +kernel
theorem dX1_row_14 : decode cX1_row 14 = .ok (.ireturn, 1) := by decide +kernel
theorem dX1_row_15 : decode cX1_row 15 = .ok (.iload 4, 2) := by decide +kernel
theorem dX1_row_17 : decode cX1_row 17 = .ok (.invokestatic 74, 3) := by decide +kernel
theorem dX1_row_20 : decode cX1_row 20 = .ok (.istore 5, 2) := by decide +kernel
theorem dX1_row_22 : decode cX1_row 22 = .ok (.iload_n 2, 1) := by decide +kernel
theorem dX1_row_23 : decode cX1_row 23 = .ok (.ifCond .ne 6, 3) := by decide +kernel
theorem dX1_row_26 : decode cX1_row 26 = .ok (.iload 5, 2) := by decide +kernel
theorem dX1_row_28 : decode cX1_row 28 = .ok (.ireturn, 1) := by decide +kernel
theorem dX1_row_29 : decode cX1_row 29 = .ok (.iload_n 2, 1) := by decide +kernel
theorem dX1_row_30 : decode cX1_row 30 = .ok (.ifCond .lt 9, 3) := by decide +kernel
theorem dX1_row_33 : decode cX1_row 33 = .ok (.iload_n 2, 1) := by decide +kernel
theorem dX1_row_34 : decode cX1_row 34 = .ok (.iload 5, 2) := by decide +kernel
theorem dX1_row_36 : decode cX1_row 36 = .ok (.if_icmp .le 5, 3) := by decide +kernel
theorem dX1_row_39 : decode cX1_row 39 = .ok (.iconst (-1), 1) := by decide +kernel
theorem dX1_row_40 : decode cX1_row 40 = .ok (.ireturn, 1) := by decide +kernel
theorem dX1_row_41 : decode cX1_row 41 = .ok (.iload_n 3, 1) := by decide +kernel
theorem dX1_row_42 : decode cX1_row 42 = .ok (.ifCond .ne 12, 3) := by decide +kernel
theorem dX1_row_45 : decode cX1_row 45 = .ok (.iload 4, 2) := by decide +kernel
theorem dX1_row_47 : decode cX1_row 47 = .ok (.iload 5, 2) := by decide +kernel
theorem dX1_row_49 : decode cX1_row 49 = .ok (.iload_n 2, 1) := by decide +kernel
theorem dX1_row_50 : decode cX1_row 50 = .ok (.invokestatic 77, 3) := by decide +kernel
theorem dX1_row_53 : decode cX1_row 53 = .ok (.ireturn, 1) := by decide +kernel
theorem dX1_row_54 : decode cX1_row 54 = .ok (.iload_n 3, 1) := by decide +kernel
theorem dX1_row_55 : decode cX1_row 55 = .ok (.iconst 1, 1) := by decide +kernel
theorem dX1_row_56 : decode cX1_row 56 = .ok (.if_icmp .ne 26, 3) := by decide +kernel
theorem dX1_row_59 : decode cX1_row 59 = .ok (.iload 4, 2) := by decide +kernel
theorem dX1_row_61 : decode cX1_row 61 = .ok (.aload_n 0, 1) := by decide +kernel
theorem dX1_row_62 : decode cX1_row 62 = .ok (.getfield 10, 3) := by decide +kernel
theorem dX1_row_65 : decode cX1_row 65 = .ok (.iload 4, 2) := by decide +kernel
theorem dX1_row_67 : decode cX1_row 67 = .ok (.invokevirtual 81, 3) := by decide +kernel
theorem dX1_row_70 : decode cX1_row 70 = .ok (.invokestatic 84, 3) := by decide +kernel
theorem dX1_row_73 : decode cX1_row 73 = .ok (.iload 5, 2) := by decide +kernel
theorem dX1_row_75 : decode cX1_row 75 = .ok (.iload_n 2, 1) := by decide +kernel
theorem dX1_row_76 : decode cX1_row 76 = .ok (.invokestatic 77, 3) := by decide +kernel
theorem dX1_row_79 : decode cX1_row 79 = .ok (.goto 4, 3) := by decide +kernel
theorem dX1_row_82 : decode cX1_row 82 = .ok (.iconst (-1), 1) := by decide +kernel
theorem dX1_row_83 : decode cX1_row 83 = .ok (.ireturn, 1) := by decide +kernel
set_option maxRecDepth 20000 in
theorem ggX1_takes_X1_decode : GoodIn wsX1_takes wsX1_decode := goodIn_r _ [5, 6, 7, 4, 8] (by decide +kernel) (by decide +kernel)
set_option maxRecDepth 20000 in
theorem gX1_takes_X1_decode : GoodIn wsX1_takes (va_wsS RX1 87 yX1_decode wsX1_decode) := goodIn_app (goodIn_of _ (by decide +kernel)) ggX1_takes_X1_decode
set_option maxRecDepth 20000 in
theorem ggX1_takes_X0_holds : GoodIn wsX1_takes wsX0_holds := goodIn_r _ [12, 13, 14, 15, 16, 17, 10, 18, 19, 41, 42, 43] (by decide +kernel) (by decide +kernel)
set_option maxRecDepth 20000 in
theorem gX1_takes_X0_holds_n62 : GoodIn wsX1_takes (wsX0_holds) := ggX1_takes_X0_holds
set_option maxRecDepth 20000 in
theorem ggX1_takes_X1_byteCount : GoodIn wsX1_takes wsX1_byteCount := goodIn_r _ [22, 23, 24, 4, 25, 26, 27] (by decide +kernel) (by decide +kernel)
set_option maxRecDepth 20000 in
theorem gX1_takes_X1_byteCount : GoodIn wsX1_takes (va_wsS RX1 74 yX1_byteCount wsX1_byteCount) := goodIn_app (goodIn_of _ (by decide +kernel)) ggX1_takes_X1_byteCount
set_option maxRecDepth 20000 in
theorem ggX1_takes_X1_startsWithBytesOf : GoodIn wsX1_takes wsX1_startsWithBytesOf := goodIn_r _ [30, 31, 32, 4, 33, 34, 35, 36, 37, 6, 7, 8] (by decide +kernel) (by decide +kernel)
set_option maxRecDepth 20000 in
theorem gX1_takes_X1_startsWithBytesOf : GoodIn wsX1_takes (va_wsS RX1 90 yX1_startsWithBytesOf wsX1_startsWithBytesOf) := goodIn_app (goodIn_of _ (by decide +kernel)) ggX1_takes_X1_startsWithBytesOf
theorem dX1_takes_0 : decode cX1_takes 0 = .ok (.iload_n 2, 1) := by decide +kernel
theorem dX1_takes_1 : decode cX1_takes 1 = .ok (.iconst 1, 1) := by decide +kernel
theorem dX1_takes_2 : decode cX1_takes 2 = .ok (.if_icmp .lt 8, 3) := by decide +kernel
theorem dX1_takes_5 : decode cX1_takes 5 = .ok (.iload_n 2, 1) := by decide +kernel
theorem dX1_takes_6 : decode cX1_takes 6 = .ok (.iconst 4, 1) := by decide +kernel
theorem dX1_takes_7 : decode cX1_takes 7 = .ok (.if_icmp .le 5, 3) := by decide +kernel
theorem dX1_takes_10 : decode cX1_takes 10 = .ok (.iconst 0, 1) := by decide +kernel
theorem dX1_takes_11 : decode cX1_takes 11 = .ok (.ireturn, 1) := by decide +kernel
theorem dX1_takes_12 : decode cX1_takes 12 = .ok (.iload_n 1, 1) := by decide +kernel
theorem dX1_takes_13 : decode cX1_takes 13 = .ok (.iload_n 2, 1) := by decide +kernel
theorem dX1_takes_14 : decode cX1_takes 14 = .ok (.invokestatic 87, 3) := by decide +kernel
theorem dX1_takes_17 : decode cX1_takes 17 = .ok (.istore_n 3, 1) := by decide +kernel
theorem dX1_takes_18 : decode cX1_takes 18 = .ok (.aload_n 0, 1) := by decide +kernel
theorem dX1_takes_19 : decode cX1_takes 19 = .ok (.getfield 10, 3) := by decide +kernel
theorem dX1_takes_22 : decode cX1_takes 22 = .ok (.iload_n 3, 1) := by decide +kernel
theorem dX1_takes_23 : decode cX1_takes 23 = .ok (.invokevirtual 62, 3) := by decide +kernel
theorem dX1_takes_26 : decode cX1_takes 26 = .ok (.ifCond .eq 24, 3) := by decide +kernel
theorem dX1_takes_29 : decode cX1_takes 29 = .ok (.iload_n 3, 1) := by decide +kernel
theorem dX1_takes_30 : decode cX1_takes 30 = .ok (.invokestatic 74, 3) := by decide +kernel
theorem dX1_takes_33 : decode cX1_takes 33 = .ok (.iload_n 2, 1) := by decide +kernel
theorem dX1_takes_34 : decode cX1_takes 34 = .ok (.if_icmp .ne 16, 3) := by decide +kernel
theorem dX1_takes_37 : decode cX1_takes 37 = .ok (.iload_n 3, 1) := by decide +kernel
theorem dX1_takes_38 : decode cX1_takes 38 = .ok (.iload_n 1, 1) := by decide +kernel
theorem dX1_takes_39 : decode cX1_takes 39 = .ok (.iload_n 2, 1) := by decide +kernel
theorem dX1_takes_40 : decode cX1_takes 40 = .ok (.invokestatic 90, 3) := by decide +kernel
theorem dX1_takes_43 : decode cX1_takes 43 = .ok (.ifCond .eq 7, 3) := by decide +kernel
theorem dX1_takes_46 : decode cX1_takes 46 = .ok (.iconst 1, 1) := by decide +kernel
theorem dX1_takes_47 : decode cX1_takes 47 = .ok (.goto 4, 3) := by decide +kernel
theorem dX1_takes_50 : decode cX1_takes 50 = .ok (.iconst 0, 1) := by decide +kernel
theorem dX1_takes_51 : decode cX1_takes 51 = .ok (.ireturn, 1) := by decide +kernel
set_option maxRecDepth 20000 in
theorem ggX1_putCharacters_X0_put : GoodIn wsX1_putCharacters wsX0_put := goodIn_r _ [13, 14, 15, 16, 17, 18, 11, 19, 20, 21, 22, 23, 24, 25, 26, 27, 28, 29, 30, 31, 32, 33, 34, 35, 36, 37, 3, 4, 5, 38, 8, 9, 39, 40, 41] (by decide +kernel) (by decide +kernel)
set_option maxRecDepth 20000 in
theorem gX1_putCharacters_X0_put_n58 : GoodIn wsX1_putCharacters (wsX0_put) := ggX1_putCharacters_X0_put
theorem dX1_putCharacters_0 : decode cX1_putCharacters 0 = .ok (.aload_n 0, 1) := by decide +kernel
theorem dX1_putCharacters_1 : decode cX1_putCharacters 1 = .ok (.iload_n 1, 1) := by decide +kernel
theorem dX1_putCharacters_2 : decode cX1_putCharacters 2 = .ok (.iload_n 2, 1) := by decide +kernel
theorem dX1_putCharacters_3 : decode cX1_putCharacters 3 = .ok (.ldc 94, 2) := by decide +kernel
theorem dX1_putCharacters_5 : decode cX1_putCharacters 5 = .ok (.invokestatic 95, 3) := by decide +kernel
theorem dX1_putCharacters_8 : decode cX1_putCharacters 8 = .ok (.invokevirtual 58, 3) := by decide +kernel
theorem dX1_putCharacters_11 : decode cX1_putCharacters 11 = .ok (.aload_n 0, 1) := by decide +kernel
theorem dX1_putCharacters_12 : decode cX1_putCharacters 12 = .ok (.iload_n 1, 1) := by decide +kernel
theorem dX1_putCharacters_13 : decode cX1_putCharacters 13 = .ok (.ldc 100, 2) := by decide +kernel
theorem dX1_putCharacters_15 : decode cX1_putCharacters 15 = .ok (.invokestatic 101, 3) := by decide +kernel
theorem dX1_putCharacters_18 : decode cX1_putCharacters 18 = .ok (.iload_n 2, 1) := by decide +kernel
theorem dX1_putCharacters_19 : decode cX1_putCharacters 19 = .ok (.invokevirtual 58, 3) := by decide +kernel
theorem dX1_putCharacters_22 : decode cX1_putCharacters 22 = .ok (.return_, 1) := by decide +kernel
set_option maxRecDepth 20000 in
theorem ggX1_foldLetters_X1_foldTwo : GoodIn wsX1_foldLetters wsX1_foldTwo := goodIn_r _ [6, 7, 8, 9, 10, 11, 12, 13, 14, 15, 16, 17, 18, 19, 20, 21, 22, 23, 24, 25, 26, 27, 28, 29, 30, 31, 32, 33, 34, 35, 36, 37, 38, 39, 40, 41, 42, 43, 44, 45, 46, 47, 48, 49, 50] (by decide +kernel) (by decide +kernel)
set_option maxRecDepth 20000 in
theorem gX1_foldLetters_X1_foldTwo : GoodIn wsX1_foldLetters (wsV RX1 107 RX1 yX1_foldTwo wsX1_foldTwo) := goodIn_app (goodIn_of _ (by decide +kernel)) ggX1_foldLetters_X1_foldTwo
theorem dX1_foldLetters_0 : decode cX1_foldLetters 0 = .ok (.iconst 0, 1) := by decide +kernel
theorem dX1_foldLetters_1 : decode cX1_foldLetters 1 = .ok (.istore_n 1, 1) := by decide +kernel
theorem dX1_foldLetters_2 : decode cX1_foldLetters 2 = .ok (.iload_n 1, 1) := by decide +kernel
theorem dX1_foldLetters_3 : decode cX1_foldLetters 3 = .ok (.iconst 2, 1) := by decide +kernel
theorem dX1_foldLetters_4 : decode cX1_foldLetters 4 = .ok (.iadd, 1) := by decide +kernel
theorem dX1_foldLetters_5 : decode cX1_foldLetters 5 = .ok (.getstatic 104, 3) := by decide +kernel
theorem dX1_foldLetters_8 : decode cX1_foldLetters 8 = .ok (.arraylength, 1) := by decide +kernel
theorem dX1_foldLetters_9 : decode cX1_foldLetters 9 = .ok (.if_icmp .ge 48, 3) := by decide +kernel
theorem dX1_foldLetters_12 : decode cX1_foldLetters 12 = .ok (.getstatic 104, 3) := by decide +kernel
theorem dX1_foldLetters_15 : decode cX1_foldLetters 15 = .ok (.iload_n 1, 1) := by decide +kernel
theorem dX1_foldLetters_16 : decode cX1_foldLetters 16 = .ok (.iconst 2, 1) := by decide +kernel
theorem dX1_foldLetters_17 : decode cX1_foldLetters 17 = .ok (.iadd, 1) := by decide +kernel
theorem dX1_foldLetters_18 : decode cX1_foldLetters 18 = .ok (.iaload, 1) := by decide +kernel
theorem dX1_foldLetters_19 : decode cX1_foldLetters 19 = .ok (.istore_n 2, 1) := by decide +kernel
theorem dX1_foldLetters_20 : decode cX1_foldLetters 20 = .ok (.getstatic 104, 3) := by decide +kernel
theorem dX1_foldLetters_23 : decode cX1_foldLetters 23 = .ok (.iload_n 1, 1) := by decide +kernel
theorem dX1_foldLetters_24 : decode cX1_foldLetters 24 = .ok (.iaload, 1) := by decide +kernel
theorem dX1_foldLetters_25 : decode cX1_foldLetters 25 = .ok (.istore_n 3, 1) := by decide +kernel
theorem dX1_foldLetters_26 : decode cX1_foldLetters 26 = .ok (.iload_n 3, 1) := by decide +kernel
theorem dX1_foldLetters_27 : decode cX1_foldLetters 27 = .ok (.getstatic 104, 3) := by decide +kernel
theorem dX1_foldLetters_30 : decode cX1_foldLetters 30 = .ok (.iload_n 1, 1) := by decide +kernel
theorem dX1_foldLetters_31 : decode cX1_foldLetters 31 = .ok (.iconst 1, 1) := by decide +kernel
theorem dX1_foldLetters_32 : decode cX1_foldLetters 32 = .ok (.iadd, 1) := by decide +kernel
theorem dX1_foldLetters_33 : decode cX1_foldLetters 33 = .ok (.iaload, 1) := by decide +kernel
theorem dX1_foldLetters_34 : decode cX1_foldLetters 34 = .ok (.if_icmp .gt 17, 3) := by decide +kernel
theorem dX1_foldLetters_37 : decode cX1_foldLetters 37 = .ok (.aload_n 0, 1) := by decide +kernel
theorem dX1_foldLetters_38 : decode cX1_foldLetters 38 = .ok (.iload_n 3, 1) := by decide +kernel
theorem dX1_foldLetters_39 : decode cX1_foldLetters 39 = .ok (.iload_n 3, 1) := by decide +kernel
theorem dX1_foldLetters_40 : decode cX1_foldLetters 40 = .ok (.iload_n 2, 1) := by decide +kernel
theorem dX1_foldLetters_41 : decode cX1_foldLetters 41 = .ok (.isub, 1) := by decide +kernel
theorem dX1_foldLetters_42 : decode cX1_foldLetters 42 = .ok (.invokevirtual 107, 3) := by decide +kernel
theorem dX1_foldLetters_45 : decode cX1_foldLetters 45 = .ok (.iinc 3 1, 3) := by decide +kernel
theorem dX1_foldLetters_48 : decode cX1_foldLetters 48 = .ok (.goto (-22), 3) := by decide +kernel
theorem dX1_foldLetters_51 : decode cX1_foldLetters 51 = .ok (.iinc 1 3, 3) := by decide +kernel
theorem dX1_foldLetters_54 : decode cX1_foldLetters 54 = .ok (.goto (-52), 3) := by decide +kernel
theorem dX1_foldLetters_57 : decode cX1_foldLetters 57 = .ok (.return_, 1) := by decide +kernel
set_option maxRecDepth 20000 in
theorem ggX1_foldPairs_X1_foldTwo : GoodIn wsX1_foldPairs wsX1_foldTwo := goodIn_r _ [6, 7, 8, 9, 10, 11, 12, 13, 14, 15, 16, 17, 18, 19, 20, 21, 22, 23, 24, 25, 26, 27, 28, 29, 30, 31, 32, 33, 34, 35, 36, 37, 38, 39, 40, 41, 42, 43, 44, 45, 46, 47, 48, 49, 50] (by decide +kernel) (by decide +kernel)
set_option maxRecDepth 20000 in
theorem gX1_foldPairs_X1_foldTwo : GoodIn wsX1_foldPairs (wsV RX1 107 RX1 yX1_foldTwo wsX1_foldTwo) := goodIn_app (goodIn_of _ (by decide +kernel)) ggX1_foldPairs_X1_foldTwo
theorem dX1_foldPairs_0 : decode cX1_foldPairs 0 = .ok (.iconst 0, 1) := by decide +kernel
theorem dX1_foldPairs_1 : decode cX1_foldPairs 1 = .ok (.istore_n 1, 1) := by decide +kernel
theorem dX1_foldPairs_2 : decode cX1_foldPairs 2 = .ok (.iload_n 1, 1) := by decide +kernel
theorem dX1_foldPairs_3 : decode cX1_foldPairs 3 = .ok (.iconst 1, 1) := by decide +kernel
theorem dX1_foldPairs_4 : decode cX1_foldPairs 4 = .ok (.iadd, 1) := by decide +kernel
theorem dX1_foldPairs_5 : decode cX1_foldPairs 5 = .ok (.getstatic 110, 3) := by decide +kernel
theorem dX1_foldPairs_8 : decode cX1_foldPairs 8 = .ok (.arraylength, 1) := by decide +kernel
theorem dX1_foldPairs_9 : decode cX1_foldPairs 9 = .ok (.if_icmp .ge 25, 3) := by decide +kernel
theorem dX1_foldPairs_12 : decode cX1_foldPairs 12 = .ok (.aload_n 0, 1) := by decide +kernel
theorem dX1_foldPairs_13 : decode cX1_foldPairs 13 = .ok (.getstatic 110, 3) := by decide +kernel
theorem dX1_foldPairs_16 : decode cX1_foldPairs 16 = .ok (.iload_n 1, 1) := by decide +kernel
theorem dX1_foldPairs_17 : decode cX1_foldPairs 17 = .ok (.iaload, 1) := by decide +kernel
theorem dX1_foldPairs_18 : decode cX1_foldPairs 18 = .ok (.getstatic 110, 3) := by decide +kernel
theorem dX1_foldPairs_21 : decode cX1_foldPairs 21 = .ok (.iload_n 1, 1) := by decide +kernel
theorem dX1_foldPairs_22 : decode cX1_foldPairs 22 = .ok (.iconst 1, 1) := by decide +kernel
theorem dX1_foldPairs_23 : decode cX1_foldPairs 23 = .ok (.iadd, 1) := by decide +kernel
theorem dX1_foldPairs_24 : decode cX1_foldPairs 24 = .ok (.iaload, 1) := by decide +kernel
theorem dX1_foldPairs_25 : decode cX1_foldPairs 25 = .ok (.invokevirtual 107, 3) := by decide +kernel
theorem dX1_foldPairs_28 : decode cX1_foldPairs 28 = .ok (.iinc 1 2, 3) := by decide +kernel
theorem dX1_foldPairs_31 : decode cX1_foldPairs 31 = .ok (.goto (-29), 3) := by decide +kernel
theorem dX1_foldPairs_34 : decode cX1_foldPairs 34 = .ok (.return_, 1) := by decide +kernel
set_option maxRecDepth 20000 in
theorem ggX1_foldTwo_X0_holds : GoodIn wsX1_foldTwo wsX0_holds := goodIn_r _ [5, 6, 7, 8, 9, 10, 3, 11, 12, 42, 43, 44] (by decide +kernel) (by decide +kernel)
set_option maxRecDepth 20000 in
theorem gX1_foldTwo_X0_holds_n62 : GoodIn wsX1_foldTwo (wsX0_holds) := ggX1_foldTwo_X0_holds
set_option maxRecDepth 20000 in
theorem ggX1_foldTwo_X0_put : GoodIn wsX1_foldTwo wsX0_put := goodIn_r _ [15, 6, 7, 8, 9, 10, 3, 11, 12, 16, 17, 18, 19, 20, 21, 22, 23, 24, 25, 26, 27, 28, 29, 30, 31, 32, 33, 34, 35, 36, 37, 38, 42, 43, 44] (by decide +kernel) (by decide +kernel)
set_option maxRecDepth 20000 in
theorem gX1_foldTwo_X0_put_n58 : GoodIn wsX1_foldTwo (wsX0_put) := ggX1_foldTwo_X0_put
theorem dX1_foldTwo_0 : decode cX1_foldTwo 0 = .ok (.aload_n 0, 1) := by decide +kernel
theorem dX1_foldTwo_1 : decode cX1_foldTwo 1 = .ok (.getfield 10, 3) := by decide +kernel
theorem dX1_foldTwo_4 : decode cX1_foldTwo 4 = .ok (.iload_n 1, 1) := by decide +kernel
theorem dX1_foldTwo_5 : decode cX1_foldTwo 5 = .ok (.invokevirtual 62, 3) := by decide +kernel
theorem dX1_foldTwo_8 : decode cX1_foldTwo 8 = .ok (.istore_n 3, 1) := by decide +kernel
theorem dX1_foldTwo_9 : decode cX1_foldTwo 9 = .ok (.iload_n 3, 1) := by decide +kernel
theorem dX1_foldTwo_10 : decode cX1_foldTwo 10 = .ok (.aload_n 0, 1) := by decide +kernel
theorem dX1_foldTwo_11 : decode cX1_foldTwo 11 = .ok (.getfield 10, 3) := by decide +kernel
theorem dX1_foldTwo_14 : decode cX1_foldTwo 14 = .ok (.iload_n 2, 1) := by decide +kernel
theorem dX1_foldTwo_15 : decode cX1_foldTwo 15 = .ok (.invokevirtual 62, 3) := by decide +kernel
theorem dX1_foldTwo_18 : decode cX1_foldTwo 18 = .ok (.if_icmp .eq 25, 3) := by decide +kernel
theorem dX1_foldTwo_21 : decode cX1_foldTwo 21 = .ok (.iload_n 3, 1) := by decide +kernel
theorem dX1_foldTwo_22 : decode cX1_foldTwo 22 = .ok (.ifCond .eq 7, 3) := by decide +kernel
theorem dX1_foldTwo_25 : decode cX1_foldTwo 25 = .ok (.iload_n 2, 1) := by decide +kernel
theorem dX1_foldTwo_26 : decode cX1_foldTwo 26 = .ok (.goto 4, 3) := by decide +kernel
theorem dX1_foldTwo_29 : decode cX1_foldTwo 29 = .ok (.iload_n 1, 1) := by decide +kernel
theorem dX1_foldTwo_30 : decode cX1_foldTwo 30 = .ok (.istore 4, 2) := by decide +kernel
theorem dX1_foldTwo_32 : decode cX1_foldTwo 32 = .ok (.aload_n 0, 1) := by decide +kernel
theorem dX1_foldTwo_33 : decode cX1_foldTwo 33 = .ok (.getfield 10, 3) := by decide +kernel
theorem dX1_foldTwo_36 : decode cX1_foldTwo 36 = .ok (.iload 4, 2) := by decide +kernel
theorem dX1_foldTwo_38 : decode cX1_foldTwo 38 = .ok (.iload 4, 2) := by decide +kernel
theorem dX1_foldTwo_40 : decode cX1_foldTwo 40 = .ok (.invokevirtual 58, 3) := by decide +kernel
theorem dX1_foldTwo_43 : decode cX1_foldTwo 43 = .ok (.return_, 1) := by decide +kernel
set_option maxRecDepth 20000 in
theorem ggX1_countRows_X1_lastOfRow : GoodIn wsX1_countRows wsX1_lastOfRow := goodIn_r _ [4, 5, 6, 7, 8, 9, 10, 3, 11, 12, 13, 14, 15, 16] (by decide +kernel) (by decide +kernel)
set_option maxRecDepth 20000 in
theorem gX1_countRows_X1_lastOfRow : GoodIn wsX1_countRows (va_wsS RX1 84 yX1_lastOfRow wsX1_lastOfRow) := goodIn_app (goodIn_of _ (by decide +kernel)) ggX1_countRows_X1_lastOfRow
theorem dX1_countRows_0 : decode cX1_countRows 0 = .ok (.iload_n 0, 1) := by decide +kernel
theorem dX1_countRows_1 : decode cX1_countRows 1 = .ok (.istore_n 2, 1) := by decide +kernel
theorem dX1_countRows_2 : decode cX1_countRows 2 = .ok (.iconst 0, 1) := by decide +kernel
theorem dX1_countRows_3 : decode cX1_countRows 3 = .ok (.istore_n 3, 1) := by decide +kernel
theorem dX1_countRows_4 : decode cX1_countRows 4 = .ok (.iload_n 3, 1) := by decide +kernel
theorem dX1_countRows_5 : decode cX1_countRows 5 = .ok (.bipush 16, 2) := by decide +kernel
theorem dX1_countRows_7 : decode cX1_countRows 7 = .ok (.if_icmp .ge 22, 3) := by decide +kernel
theorem dX1_countRows_10 : decode cX1_countRows 10 = .ok (.iload_n 2, 1) := by decide +kernel
theorem dX1_countRows_11 : decode cX1_countRows 11 = .ok (.iload_n 1, 1) := by decide +kernel
theorem dX1_countRows_12 : decode cX1_countRows 12 = .ok (.if_icmp .gt 17, 3) := by decide +kernel
theorem dX1_countRows_15 : decode cX1_countRows 15 = .ok (.iload_n 2, 1) := by decide +kernel
theorem dX1_countRows_16 : decode cX1_countRows 16 = .ok (.iload_n 1, 1) := by decide +kernel
theorem dX1_countRows_17 : decode cX1_countRows 17 = .ok (.invokestatic 84, 3) := by decide +kernel
theorem dX1_countRows_20 : decode cX1_countRows 20 = .ok (.iconst 1, 1) := by decide +kernel
theorem dX1_countRows_21 : decode cX1_countRows 21 = .ok (.iadd, 1) := by decide +kernel
theorem dX1_countRows_22 : decode cX1_countRows 22 = .ok (.istore_n 2, 1) := by decide +kernel
theorem dX1_countRows_23 : decode cX1_countRows 23 = .ok (.iinc 3 1, 3) := by decide +kernel
theorem dX1_countRows_26 : decode cX1_countRows 26 = .ok (.goto (-22), 3) := by decide +kernel
theorem dX1_countRows_29 : decode cX1_countRows 29 = .ok (.iload_n 3, 1) := by decide +kernel
theorem dX1_countRows_30 : decode cX1_countRows 30 = .ok (.ireturn, 1) := by decide +kernel
set_option maxRecDepth 20000 in
theorem ggX1_firstOfRow_X1_countRows : GoodIn wsX1_firstOfRow wsX1_countRows := goodIn_r _ [5, 6, 7, 4, 8, 9, 10, 11, 12, 13, 14, 15, 16, 17, 18, 19, 20] (by decide +kernel) (by decide +kernel)
set_option maxRecDepth 20000 in
theorem gX1_firstOfRow_X1_countRows : GoodIn wsX1_firstOfRow (va_wsS RX1 66 yX1_countRows wsX1_countRows) := goodIn_app (goodIn_of _ (by decide +kernel)) ggX1_firstOfRow_X1_countRows
set_option maxRecDepth 20000 in
theorem ggX1_firstOfRow_X1_skipRows : GoodIn wsX1_firstOfRow wsX1_skipRows := goodIn_r _ [23, 6, 7, 4, 8, 9, 10, 11, 12, 13, 14, 15, 16, 17, 18, 19, 20] (by decide +kernel) (by decide +kernel)
set_option maxRecDepth 20000 in
theorem gX1_firstOfRow_X1_skipRows : GoodIn wsX1_firstOfRow (va_wsS RX1 113 yX1_skipRows wsX1_skipRows) := goodIn_app (goodIn_of _ (by decide +kernel)) ggX1_firstOfRow_X1_skipRows
theorem dX1_firstOfRow_0 : decode cX1_firstOfRow 0 = .ok (.iload_n 1, 1) := by decide +kernel
theorem dX1_firstOfRow_1 : decode cX1_firstOfRow 1 = .ok (.ifCond .ge 5, 3) := by decide +kernel
theorem dX1_firstOfRow_4 : decode cX1_firstOfRow 4 = .ok (.iconst (-1), 1) := by decide +kernel
theorem dX1_firstOfRow_5 : decode cX1_firstOfRow 5 = .ok (.ireturn, 1) := by decide +kernel
theorem dX1_firstOfRow_6 : decode cX1_firstOfRow 6 = .ok (.iload_n 1, 1) := by decide +kernel
theorem dX1_firstOfRow_7 : decode cX1_firstOfRow 7 = .ok (.istore_n 2, 1) := by decide +kernel
theorem dX1_firstOfRow_8 : decode cX1_firstOfRow 8 = .ok (.iconst 0, 1) := by decide +kernel
theorem dX1_firstOfRow_9 : decode cX1_firstOfRow 9 = .ok (.istore_n 3, 1) := by decide +kernel
theorem dX1_firstOfRow_10 : decode cX1_firstOfRow 10 = .ok (.iload_n 3, 1) := by decide +kernel
theorem dX1_firstOfRow_11 : decode cX1_firstOfRow 11 = .ok (.aload_n 0, 1) := by decide +kernel
theorem dX1_firstOfRow_12 : decode cX1_firstOfRow 12 = .ok (.getfield 10, 3) := by decide +kernel
theorem dX1_firstOfRow_15 : decode cX1_firstOfRow 15 = .ok (.getfield 34, 3) := by decide +kernel
theorem dX1_firstOfRow_18 : decode cX1_firstOfRow 18 = .ok (.if_icmp .ge 66, 3) := by decide +kernel
theorem dX1_firstOfRow_21 : decode cX1_firstOfRow 21 = .ok (.aload_n 0, 1) := by decide +kernel
theorem dX1_firstOfRow_22 : decode cX1_firstOfRow 22 = .ok (.getfield 10, 3) := by decide +kernel
theorem dX1_firstOfRow_25 : decode cX1_firstOfRow 25 = .ok (.getfield 47, 3) := by decide +kernel
theorem dX1_firstOfRow_28 : decode cX1_firstOfRow 28 = .ok (.iload_n 3, 1) := by decide +kernel
theorem dX1_firstOfRow_29 : decode cX1_firstOfRow 29 = .ok (.iaload, 1) := by decide +kernel
theorem dX1_firstOfRow_30 : decode cX1_firstOfRow 30 = .ok (.aload_n 0, 1) := by decide +kernel
theorem dX1_firstOfRow_31 : decode cX1_firstOfRow 31 = .ok (.getfield 10, 3) := by decide +kernel
theorem dX1_firstOfRow_34 : decode cX1_firstOfRow 34 = .ok (.getfield 51, 3) := by decide +kernel
theorem dX1_firstOfRow_37 : decode cX1_firstOfRow 37 = .ok (.iload_n 3, 1) := by decide +kernel
theorem dX1_firstOfRow_38 : decode cX1_firstOfRow 38 = .ok (.iaload, 1) := by decide +kernel
theorem dX1_firstOfRow_39 : decode cX1_firstOfRow 39 = .ok (.invokestatic 66, 3) := by decide +kernel
theorem dX1_firstOfRow_42 : decode cX1_firstOfRow 42 = .ok (.istore 4, 2) := by decide +kernel
theorem dX1_firstOfRow_44 : decode cX1_firstOfRow 44 = .ok (.iload_n 2, 1) := by decide +kernel
theorem dX1_firstOfRow_45 : decode cX1_firstOfRow 45 = .ok (.iload 4, 2) := by decide +kernel
theorem dX1_firstOfRow_47 : decode cX1_firstOfRow 47 = .ok (.if_icmp .ge 26, 3) := by decide +kernel
theorem dX1_firstOfRow_50 : decode cX1_firstOfRow 50 = .ok (.aload_n 0, 1) := by decide +kernel
theorem dX1_firstOfRow_51 : decode cX1_firstOfRow 51 = .ok (.getfield 10, 3) := by decide +kernel
theorem dX1_firstOfRow_54 : decode cX1_firstOfRow 54 = .ok (.getfield 47, 3) := by decide +kernel
theorem dX1_firstOfRow_57 : decode cX1_firstOfRow 57 = .ok (.iload_n 3, 1) := by decide +kernel
theorem dX1_firstOfRow_58 : decode cX1_firstOfRow 58 = .ok (.iaload, 1) := by decide +kernel
theorem dX1_firstOfRow_59 : decode cX1_firstOfRow 59 = .ok (.aload_n 0, 1) := by decide +kernel
theorem dX1_firstOfRow_60 : decode cX1_firstOfRow 60 = .ok (.getfield 10, 3) := by decide +kernel
theorem dX1_firstOfRow_63 : decode cX1_firstOfRow 63 = .ok (.getfield 51, 3) := by decide +kernel
theorem dX1_firstOfRow_66 : decode cX1_firstOfRow 66 = .ok (.iload_n 3, 1) := by decide +kernel
theorem dX1_firstOfRow_67 : decode cX1_firstOfRow 67 = .ok (.iaload, 1) := by decide +kernel
theorem dX1_firstOfRow_68 : decode cX1_firstOfRow 68 = .ok (.iload_n 2, 1) := by decide +kernel
theorem dX1_firstOfRow_69 : decode cX1_firstOfRow 69 = .ok (.invokestatic 113, 3) := by decide +kernel
theorem dX1_firstOfRow_72 : decode cX1_firstOfRow 72 = .ok (.ireturn, 1) := by decide +kernel
theorem dX1_firstOfRow_73 : decode cX1_firstOfRow 73 = .ok (.iload_n 2, 1) := by decide +kernel
theorem dX1_firstOfRow_74 : decode cX1_firstOfRow 74 = .ok (.iload 4, 2) := by decide +kernel
theorem dX1_firstOfRow_76 : decode cX1_firstOfRow 76 = .ok (.isub, 1) := by decide +kernel
theorem dX1_firstOfRow_77 : decode cX1_firstOfRow 77 = .ok (.istore_n 2, 1) := by decide +kernel
theorem dX1_firstOfRow_78 : decode cX1_firstOfRow 78 = .ok (.iinc 3 1, 3) := by decide +kernel
theorem dX1_firstOfRow_81 : decode cX1_firstOfRow 81 = .ok (.goto (-71), 3) := by decide +kernel
theorem dX1_firstOfRow_84 : decode cX1_firstOfRow 84 = .ok (.iconst (-1), 1) := by decide +kernel
theorem dX1_firstOfRow_85 : decode cX1_firstOfRow 85 = .ok (.ireturn, 1) := by decide +kernel
set_option maxRecDepth 20000 in
theorem ggX1_skipRows_X1_lastOfRow : GoodIn wsX1_skipRows wsX1_lastOfRow := goodIn_r _ [4, 5, 6, 7, 8, 9, 10, 3, 11, 12, 13, 14, 15, 16] (by decide +kernel) (by decide +kernel)
set_option maxRecDepth 20000 in
theorem gX1_skipRows_X1_lastOfRow : GoodIn wsX1_skipRows (va_wsS RX1 84 yX1_lastOfRow wsX1_lastOfRow) := goodIn_app (goodIn_of _ (by decide +kernel)) ggX1_skipRows_X1_lastOfRow
theorem dX1_skipRows_0 : decode cX1_skipRows 0 = .ok (.iload_n 0, 1) := by decide +kernel
theorem dX1_skipRows_1 : decode cX1_skipRows 1 = .ok (.istore_n 3, 1) := by decide +kernel
theorem dX1_skipRows_2 : decode cX1_skipRows 2 = .ok (.iconst 0, 1) := by decide +kernel
theorem dX1_skipRows_3 : decode cX1_skipRows 3 = .ok (.istore 4, 2) := by decide +kernel
theorem dX1_skipRows_5 : decode cX1_skipRows 5 = .ok (.iload 4, 2) := by decide +kernel
theorem dX1_skipRows_7 : decode cX1_skipRows 7 = .ok (.iload_n 2, 1) := by decide +kernel
theorem dX1_skipRows_8 : decode cX1_skipRows 8 = .ok (.if_icmp .ge 17, 3) := by decide +kernel
theorem dX1_skipRows_11 : decode cX1_skipRows 11 = .ok (.iload_n 3, 1) := by decide +kernel
theorem dX1_skipRows_12 : decode cX1_skipRows 12 = .ok (.iload_n 1, 1) := by decide +kernel
theorem dX1_skipRows_13 : decode cX1_skipRows 13 = .ok (.invokestatic 84, 3) := by decide +kernel
theorem dX1_skipRows_16 : decode cX1_skipRows 16 = .ok (.iconst 1, 1) := by decide +kernel
theorem dX1_skipRows_17 : decode cX1_skipRows 17 = .ok (.iadd, 1) := by decide +kernel
theorem dX1_skipRows_18 : decode cX1_skipRows 18 = .ok (.istore_n 3, 1) := by decide +kernel
theorem dX1_skipRows_19 : decode cX1_skipRows 19 = .ok (.iinc 4 1, 3) := by decide +kernel
theorem dX1_skipRows_22 : decode cX1_skipRows 22 = .ok (.goto (-17), 3) := by decide +kernel
theorem dX1_skipRows_25 : decode cX1_skipRows 25 = .ok (.iload_n 3, 1) := by decide +kernel
theorem dX1_skipRows_26 : decode cX1_skipRows 26 = .ok (.ireturn, 1) := by decide +kernel
set_option maxRecDepth 20000 in
theorem ggX1_lastOfRow_X1_byteCount : GoodIn wsX1_lastOfRow wsX1_byteCount := goodIn_r _ [8, 9, 10, 7, 11, 12, 13] (by decide +kernel) (by decide +kernel)
set_option maxRecDepth 20000 in
theorem gX1_lastOfRow_X1_byteCount : GoodIn wsX1_lastOfRow (va_wsS RX1 74 yX1_byteCount wsX1_byteCount) := goodIn_app (goodIn_of _ (by decide +kernel)) ggX1_lastOfRow_X1_byteCount
set_option maxRecDepth 20000 in
theorem ggX1_lastOfRow_X1_lastOfLength : GoodIn wsX1_lastOfRow wsX1_lastOfLength := goodIn_r _ [11, 12, 13] (by decide +kernel) (by decide +kernel)
set_option maxRecDepth 20000 in
theorem gX1_lastOfRow_X1_lastOfLength : GoodIn wsX1_lastOfRow (va_wsS RX1 116 yX1_lastOfLength wsX1_lastOfLength) := goodIn_app (goodIn_of _ (by decide +kernel)) ggX1_lastOfRow_X1_lastOfLength
theorem dX1_lastOfRow_0 : decode cX1_lastOfRow 0 = .ok (.iload_n 0, 1) := by decide +kernel
theorem dX1_lastOfRow_1 : decode cX1_lastOfRow 1 = .ok (.invokestatic 74, 3) := by decide +kernel
theorem dX1_lastOfRow_4 : decode cX1_lastOfRow 4 = .ok (.istore_n 2, 1) := by decide +kernel
theorem dX1_lastOfRow_5 : decode cX1_lastOfRow 5 = .ok (.iload_n 1, 1) := by decide +kernel
theorem dX1_lastOfRow_6 : decode cX1_lastOfRow 6 = .ok (.iload_n 2, 1) := by decide +kernel
theorem dX1_lastOfRow_7 : decode cX1_lastOfRow 7 = .ok (.invokestatic 116, 3) := by decide +kernel
theorem dX1_lastOfRow_10 : decode cX1_lastOfRow 10 = .ok (.invokestatic 95, 3) := by decide +kernel
theorem dX1_lastOfRow_13 : decode cX1_lastOfRow 13 = .ok (.istore_n 3, 1) := by decide +kernel
theorem dX1_lastOfRow_14 : decode cX1_lastOfRow 14 = .ok (.iload_n 2, 1) := by decide +kernel
theorem dX1_lastOfRow_15 : decode cX1_lastOfRow 15 = .ok (.iconst 1, 1) := by decide +kernel
theorem dX1_lastOfRow_16 : decode cX1_lastOfRow 16 = .ok (.if_icmp .ne 5, 3) := by decide +kernel
theorem dX1_lastOfRow_19 : decode cX1_lastOfRow 19 = .ok (.iload_n 3, 1) := by decide +kernel
theorem dX1_lastOfRow_20 : decode cX1_lastOfRow 20 = .ok (.ireturn, 1) := by decide +kernel
theorem dX1_lastOfRow_21 : decode cX1_lastOfRow 21 = .ok (.iconst 1, 1) := by decide +kernel
theorem dX1_lastOfRow_22 : decode cX1_lastOfRow 22 = .ok (.istore 4, 2) := by decide +kernel
theorem dX1_lastOfRow_24 : decode cX1_lastOfRow 24 = .ok (.iload 4, 2) := by decide +kernel
theorem dX1_lastOfRow_26 : decode cX1_lastOfRow 26 = .ok (.iload_n 2, 1) := by decide +kernel
theorem dX1_lastOfRow_27 : decode cX1_lastOfRow 27 = .ok (.if_icmp .ge 65, 3) := by decide +kernel
theorem dX1_lastOfRow_30 : decode cX1_lastOfRow 30 = .ok (.iconst 1, 1) := by decide +kernel
theorem dX1_lastOfRow_31 : decode cX1_lastOfRow 31 = .ok (.bipush 6, 2) := by decide +kernel
theorem dX1_lastOfRow_33 : decode cX1_lastOfRow 33 = .ok (.iload_n 2, 1) := by decide +kernel
theorem dX1_lastOfRow_34 : decode cX1_lastOfRow 34 = .ok (.iload 4, 2) := by decide +kernel
theorem dX1_lastOfRow_36 : decode cX1_lastOfRow 36 = .ok (.isub, 1) := by decide +kernel
theorem dX1_lastOfRow_37 : decode cX1_lastOfRow 37 = .ok (.imul, 1) := by decide +kernel
theorem dX1_lastOfRow_38 : decode cX1_lastOfRow 38 = .ok (.ishl, 1) := by decide +kernel
theorem dX1_lastOfRow_39 : decode cX1_lastOfRow 39 = .ok (.istore 5, 2) := by decide +kernel
theorem dX1_lastOfRow_41 : decode cX1_lastOfRow 41 = .ok (.iload_n 3, 1) := by decide +kernel
theorem dX1_lastOfRow_42 : decode cX1_lastOfRow 42 = .ok (.iload_n 0, 1) := by decide +kernel
theorem dX1_lastOfRow_43 : decode cX1_lastOfRow 43 = .ok (.bipush 64, 2) := by decide +kernel
theorem dX1_lastOfRow_45 : decode cX1_lastOfRow 45 = .ok (.iload 5, 2) := by decide +kernel
theorem dX1_lastOfRow_47 : decode cX1_lastOfRow 47 = .ok (.imul, 1) := by decide +kernel
theorem dX1_lastOfRow_48 : decode cX1_lastOfRow 48 = .ok (.iconst 1, 1) := by decide +kernel
theorem dX1_lastOfRow_49 : decode cX1_lastOfRow 49 = .ok (.isub, 1) := by decide +kernel
theorem dX1_lastOfRow_50 : decode cX1_lastOfRow 50 = .ok (.ior, 1) := by decide +kernel
theorem dX1_lastOfRow_51 : decode cX1_lastOfRow 51 = .ok (.invokestatic 95, 3) := by decide +kernel
theorem dX1_lastOfRow_54 : decode cX1_lastOfRow 54 = .ok (.istore 6, 2) := by decide +kernel
theorem dX1_lastOfRow_56 : decode cX1_lastOfRow 56 = .ok (.iload 6, 2) := by decide +kernel
theorem dX1_lastOfRow_58 : decode cX1_lastOfRow 58 = .ok (.iconst 1, 1) := by decide +kernel
theorem dX1_lastOfRow_59 : decode cX1_lastOfRow 59 = .ok (.iadd, 1) := by decide +kernel
theorem dX1_lastOfRow_60 : decode cX1_lastOfRow 60 = .ok (.iload 5, 2) := by decide +kernel
theorem dX1_lastOfRow_62 : decode cX1_lastOfRow 62 = .ok (.ineg, 1) := by decide +kernel
theorem dX1_lastOfRow_63 : decode cX1_lastOfRow 63 = .ok (.iand, 1) := by decide +kernel
theorem dX1_lastOfRow_64 : decode cX1_lastOfRow 64 = .ok (.iconst 1, 1) := by decide +kernel
theorem dX1_lastOfRow_65 : decode cX1_lastOfRow 65 = .ok (.isub, 1) := by decide +kernel
theorem dX1_lastOfRow_66 : decode cX1_lastOfRow 66 = .ok (.istore 7, 2) := by decide +kernel
theorem dX1_lastOfRow_68 : decode cX1_lastOfRow 68 = .ok (.iload_n 0, 1) := by decide +kernel
theorem dX1_lastOfRow_69 : decode cX1_lastOfRow 69 = .ok (.iload 5, 2) := by decide +kernel
theorem dX1_lastOfRow_71 : decode cX1_lastOfRow 71 = .ok (.iconst 1, 1) := by decide +kernel
theorem dX1_lastOfRow_72 : decode cX1_lastOfRow 72 = .ok (.isub, 1) := by decide +kernel
theorem dX1_lastOfRow_73 : decode cX1_lastOfRow 73 = .ok (.iand, 1) := by decide +kernel
theorem dX1_lastOfRow_74 : decode cX1_lastOfRow 74 = .ok (.ifCond .ne 12, 3) := by decide +kernel
theorem dX1_lastOfRow_77 : decode cX1_lastOfRow 77 = .ok (.iload 7, 2) := by decide +kernel
theorem dX1_lastOfRow_79 : decode cX1_lastOfRow 79 = .ok (.iload_n 0, 1) := by decide +kernel
theorem dX1_lastOfRow_80 : decode cX1_lastOfRow 80 = .ok (.if_icmp .lt 6, 3) := by decide +kernel
theorem dX1_lastOfRow_83 : decode cX1_lastOfRow 83 = .ok (.iload 7, 2) := by decide +kernel
theorem dX1_lastOfRow_85 : decode cX1_lastOfRow 85 = .ok (.ireturn, 1) := by decide +kernel
theorem dX1_lastOfRow_86 : decode cX1_lastOfRow 86 = .ok (.iinc 4 1, 3) := by decide +kernel
theorem dX1_lastOfRow_89 : decode cX1_lastOfRow 89 = .ok (.goto (-65), 3) := by decide +kernel
theorem dX1_lastOfRow_92 : decode cX1_lastOfRow 92 = .ok (.iload_n 3, 1) := by decide +kernel
theorem dX1_lastOfRow_93 : decode cX1_lastOfRow 93 = .ok (.iload_n 0, 1) := by decide +kernel
theorem dX1_lastOfRow_94 : decode cX1_lastOfRow 94 = .ok (.bipush 63, 2) := by decide +kernel
theorem dX1_lastOfRow_96 : decode cX1_lastOfRow 96 = .ok (.ior, 1) := by decide +kernel
theorem dX1_lastOfRow_97 : decode cX1_lastOfRow 97 = .ok (.invokestatic 95, 3) := by decide +kernel
theorem dX1_lastOfRow_100 : decode cX1_lastOfRow 100 = .ok (.ireturn, 1) := by decide +kernel
set_option maxRecDepth 20000 in
theorem ggX1_byteCount_X1_lastOfLength : GoodIn wsX1_byteCount wsX1_lastOfLength := goodIn_r _ [4, 5, 6] (by decide +kernel) (by decide +kernel)
set_option maxRecDepth 20000 in
theorem gX1_byteCount_X1_lastOfLength : GoodIn wsX1_byteCount (va_wsS RX1 116 yX1_lastOfLength wsX1_lastOfLength) := goodIn_app (goodIn_of _ (by decide +kernel)) ggX1_byteCount_X1_lastOfLength
theorem dX1_byteCount_0 : decode cX1_byteCount 0 = .ok (.iload_n 0, 1) := by decide +kernel
theorem dX1_byteCount_1 : decode cX1_byteCount 1 = .ok (.iconst 1, 1) := by decide +kernel
theorem dX1_byteCount_2 : decode cX1_byteCount 2 = .ok (.invokestatic 116, 3) := by decide +kernel
theorem dX1_byteCount_5 : decode cX1_byteCount 5 = .ok (.if_icmp .gt 5, 3) := by decide +kernel
theorem dX1_byteCount_8 : decode cX1_byteCount 8 = .ok (.iconst 1, 1) := by decide +kernel
theorem dX1_byteCount_9 : decode cX1_byteCount 9 = .ok (.ireturn, 1) := by decide +kernel
theorem dX1_byteCount_10 : decode cX1_byteCount 10 = .ok (.iload_n 0, 1) := by decide +kernel
theorem dX1_byteCount_11 : decode cX1_byteCount 11 = .ok (.iconst 2, 1) := by decide +kernel
theorem dX1_byteCount_12 : decode cX1_byteCount 12 = .ok (.invokestatic 116, 3) := by decide +kernel
theorem dX1_byteCount_15 : decode cX1_byteCount 15 = .ok (.if_icmp .gt 5, 3) := by decide +kernel
theorem dX1_byteCount_18 : decode cX1_byteCount 18 = .ok (.iconst 2, 1) := by decide +kernel
theorem dX1_byteCount_19 : decode cX1_byteCount 19 = .ok (.ireturn, 1) := by decide +kernel
theorem dX1_byteCount_20 : decode cX1_byteCount 20 = .ok (.iload_n 0, 1) := by decide +kernel
theorem dX1_byteCount_21 : decode cX1_byteCount 21 = .ok (.iconst 3, 1) := by decide +kernel
theorem dX1_byteCount_22 : decode cX1_byteCount 22 = .ok (.invokestatic 116, 3) := by decide +kernel
theorem dX1_byteCount_25 : decode cX1_byteCount 25 = .ok (.if_icmp .gt 7, 3) := by decide +kernel
theorem dX1_byteCount_28 : decode cX1_byteCount 28 = .ok (.iconst 3, 1) := by decide +kernel
theorem dX1_byteCount_29 : decode cX1_byteCount 29 = .ok (.goto 4, 3) := by decide +kernel
theorem dX1_byteCount_32 : decode cX1_byteCount 32 = .ok (.iconst 4, 1) := by decide +kernel
theorem dX1_byteCount_33 : decode cX1_byteCount 33 = .ok (.ireturn, 1) := by decide +kernel
theorem dX1_lastOfLength_0 : decode cX1_lastOfLength 0 = .ok (.iload_n 0, 1) := by decide +kernel
theorem dX1_lastOfLength_1 : decode cX1_lastOfLength 1 = .ok (.tableswitch 37 1 3 #[27, 30, 34], 27) := by decide +kernel
theorem dX1_lastOfLength_28 : decode cX1_lastOfLength 28 = .ok (.bipush 127, 2) := by decide +kernel
theorem dX1_lastOfLength_30 : decode cX1_lastOfLength 30 = .ok (.ireturn, 1) := by decide +kernel
theorem dX1_lastOfLength_31 : decode cX1_lastOfLength 31 = .ok (.sipush 2047, 3) := by decide +kernel
theorem dX1_lastOfLength_34 : decode cX1_lastOfLength 34 = .ok (.ireturn, 1) := by decide +kernel
theorem dX1_lastOfLength_35 : decode cX1_lastOfLength 35 = .ok (.ldc 119, 2) := by decide +kernel
theorem dX1_lastOfLength_37 : decode cX1_lastOfLength 37 = .ok (.ireturn, 1) := by decide +kernel
theorem dX1_lastOfLength_38 : decode cX1_lastOfLength 38 = .ok (.ldc 22, 2) := by decide +kernel
theorem dX1_lastOfLength_40 : decode cX1_lastOfLength 40 = .ok (.ireturn, 1) := by decide +kernel
set_option maxRecDepth 20000 in
theorem ggX1_byteOf_X1_leadMark : GoodIn wsX1_byteOf wsX1_leadMark := goodIn_r _ [4, 5] (by decide +kernel) (by decide +kernel)
set_option maxRecDepth 20000 in
theorem gX1_byteOf_X1_leadMark : GoodIn wsX1_byteOf (va_wsS RX1 120 yX1_leadMark wsX1_leadMark) := goodIn_app (goodIn_of _ (by decide +kernel)) ggX1_byteOf_X1_leadMark
theorem dX1_byteOf_0 : decode cX1_byteOf 0 = .ok (.iload_n 0, 1) := by decide +kernel
theorem dX1_byteOf_1 : decode cX1_byteOf 1 = .ok (.bipush 6, 2) := by decide +kernel
theorem dX1_byteOf_3 : decode cX1_byteOf 3 = .ok (.iload_n 1, 1) := by decide +kernel
theorem dX1_byteOf_4 : decode cX1_byteOf 4 = .ok (.iload_n 2, 1) := by decide +kernel
theorem dX1_byteOf_5 : decode cX1_byteOf 5 = .ok (.isub, 1) := by decide +kernel
theorem dX1_byteOf_6 : decode cX1_byteOf 6 = .ok (.imul, 1) := by decide +kernel
theorem dX1_byteOf_7 : decode cX1_byteOf 7 = .ok (.ishr, 1) := by decide +kernel
theorem dX1_byteOf_8 : decode cX1_byteOf 8 = .ok (.istore_n 3, 1) := by decide +kernel
theorem dX1_byteOf_9 : decode cX1_byteOf 9 = .ok (.iload_n 2, 1) := by decide +kernel
theorem dX1_byteOf_10 : decode cX1_byteOf 10 = .ok (.iconst 1, 1) := by decide +kernel
theorem dX1_byteOf_11 : decode cX1_byteOf 11 = .ok (.if_icmp .le 12, 3) := by decide +kernel
theorem dX1_byteOf_14 : decode cX1_byteOf 14 = .ok (.sipush 128, 3) := by decide +kernel
theorem dX1_byteOf_17 : decode cX1_byteOf 17 = .ok (.iload_n 3, 1) := by decide +kernel
theorem dX1_byteOf_18 : decode cX1_byteOf 18 = .ok (.bipush 63, 2) := by decide +kernel
theorem dX1_byteOf_20 : decode cX1_byteOf 20 = .ok (.iand, 1) := by decide +kernel
theorem dX1_byteOf_21 : decode cX1_byteOf 21 = .ok (.ior, 1) := by decide +kernel
theorem dX1_byteOf_22 : decode cX1_byteOf 22 = .ok (.ireturn, 1) := by decide +kernel
theorem dX1_byteOf_23 : decode cX1_byteOf 23 = .ok (.iload_n 1, 1) := by decide +kernel
theorem dX1_byteOf_24 : decode cX1_byteOf 24 = .ok (.iconst 1, 1) := by decide +kernel
theorem dX1_byteOf_25 : decode cX1_byteOf 25 = .ok (.if_icmp .ne 7, 3) := by decide +kernel
theorem dX1_byteOf_28 : decode cX1_byteOf 28 = .ok (.iload_n 3, 1) := by decide +kernel
theorem dX1_byteOf_29 : decode cX1_byteOf 29 = .ok (.goto 9, 3) := by decide +kernel
theorem dX1_byteOf_32 : decode cX1_byteOf 32 = .ok (.iload_n 1, 1) := by decide +kernel
theorem dX1_byteOf_33 : decode cX1_byteOf 33 = .ok (.invokestatic 120, 3) := by decide +kernel
theorem dX1_byteOf_36 : decode cX1_byteOf 36 = .ok (.iload_n 3, 1) := by decide +kernel
theorem dX1_byteOf_37 : decode cX1_byteOf 37 = .ok (.ior, 1) := by decide +kernel
theorem dX1_byteOf_38 : decode cX1_byteOf 38 = .ok (.ireturn, 1) := by decide +kernel
theorem dX1_leadMark_0 : decode cX1_leadMark 0 = .ok (.ldc 123, 2) := by decide +kernel
theorem dX1_leadMark_2 : decode cX1_leadMark 2 = .ok (.iload_n 0, 1) := by decide +kernel
theorem dX1_leadMark_3 : decode cX1_leadMark 3 = .ok (.ishr, 1) := by decide +kernel
theorem dX1_leadMark_4 : decode cX1_leadMark 4 = .ok (.sipush 255, 3) := by decide +kernel
theorem dX1_leadMark_7 : decode cX1_leadMark 7 = .ok (.iand, 1) := by decide +kernel
theorem dX1_leadMark_8 : decode cX1_leadMark 8 = .ok (.ireturn, 1) := by decide +kernel
theorem dX1_byteAt_0 : decode cX1_byteAt 0 = .ok (.iload_n 0, 1) := by decide +kernel
theorem dX1_byteAt_1 : decode cX1_byteAt 1 = .ok (.bipush 32, 2) := by decide +kernel
theorem dX1_byteAt_3 : decode cX1_byteAt 3 = .ok (.bipush 8, 2) := by decide +kernel
theorem dX1_byteAt_5 : decode cX1_byteAt 5 = .ok (.iload_n 1, 1) := by decide +kernel
theorem dX1_byteAt_6 : decode cX1_byteAt 6 = .ok (.imul, 1) := by decide +kernel
theorem dX1_byteAt_7 : decode cX1_byteAt 7 = .ok (.isub, 1) := by decide +kernel
theorem dX1_byteAt_8 : decode cX1_byteAt 8 = .ok (.iushr, 1) := by decide +kernel
theorem dX1_byteAt_9 : decode cX1_byteAt 9 = .ok (.sipush 255, 3) := by decide +kernel
theorem dX1_byteAt_12 : decode cX1_byteAt 12 = .ok (.iand, 1) := by decide +kernel
theorem dX1_byteAt_13 : decode cX1_byteAt 13 = .ok (.ireturn, 1) := by decide +kernel
set_option maxRecDepth 20000 in
theorem ggX1_decode_X1_byteAt : GoodIn wsX1_decode wsX1_byteAt := goodIn_r _ [4] (by decide +kernel) (by decide +kernel)
set_option maxRecDepth 20000 in
theorem gX1_decode_X1_byteAt : GoodIn wsX1_decode (va_wsS RX1 124 yX1_byteAt wsX1_byteAt) := goodIn_app (goodIn_of _ (by decide +kernel)) ggX1_decode_X1_byteAt
theorem dX1_decode_0 : decode cX1_decode 0 = .ok (.iload_n 0, 1) := by decide +kernel
theorem dX1_decode_1 : decode cX1_decode 1 = .ok (.iconst 1, 1) := by decide +kernel
theorem dX1_decode_2 : decode cX1_decode 2 = .ok (.invokestatic 124, 3) := by decide +kernel
theorem dX1_decode_5 : decode cX1_decode 5 = .ok (.istore_n 2, 1) := by decide +kernel
theorem dX1_decode_6 : decode cX1_decode 6 = .ok (.iload_n 1, 1) := by decide +kernel
theorem dX1_decode_7 : decode cX1_decode 7 = .ok (.iconst 1, 1) := by decide +kernel
theorem dX1_decode_8 : decode cX1_decode 8 = .ok (.if_icmp .le 13, 3) := by decide +kernel
theorem dX1_decode_11 : decode cX1_decode 11 = .ok (.iload_n 2, 1) := by decide +kernel
theorem dX1_decode_12 : decode cX1_decode 12 = .ok (.sipush 255, 3) := by decide +kernel
theorem dX1_decode_15 : decode cX1_decode 15 = .ok (.iload_n 1, 1) := by decide +kernel
theorem dX1_decode_16 : decode cX1_decode 16 = .ok (.iconst 1, 1) := by decide +kernel
theorem dX1_decode_17 : decode cX1_decode 17 = .ok (.iadd, 1) := by decide +kernel
theorem dX1_decode_18 : decode cX1_decode 18 = .ok (.ishr, 1) := by decide +kernel
theorem dX1_decode_19 : decode cX1_decode 19 = .ok (.iand, 1) := by decide +kernel
theorem dX1_decode_20 : decode cX1_decode 20 = .ok (.istore_n 2, 1) := by decide +kernel
theorem dX1_decode_21 : decode cX1_decode 21 = .ok (.iconst 2, 1) := by decide +kernel
theorem dX1_decode_22 : decode cX1_decode 22 = .ok (.istore_n 3, 1) := by decide +kernel
theorem dX1_decode_23 : decode cX1_decode 23 = .ok (.iload_n 3, 1) := by decide +kernel
theorem dX1_decode_24 : decode cX1_decode 24 = .ok (.iload_n 1, 1) := by decide +kernel
theorem dX1_decode_25 : decode cX1_decode 25 = .ok (.if_icmp .gt 23, 3) := by decide +kernel
theorem dX1_decode_28 : decode cX1_decode 28 = .ok (.iload_n 2, 1) := by decide +kernel
theorem dX1_decode_29 : decode cX1_decode 29 = .ok (.bipush 6, 2) := by decide +kernel
theorem dX1_decode_31 : decode cX1_decode 31 = .ok (.ishl, 1) := by decide +kernel
theorem dX1_decode_32 : decode cX1_decode 32 = .ok (.iload_n 0, 1) := by decide +kernel
theorem dX1_decode_33 : decode cX1_decode 33 = .ok (.iload_n 3, 1) := by decide +kernel
theorem dX1_decode_34 : decode cX1_decode 34 = .ok (.invokestatic 124, 3) := by decide +kernel
theorem dX1_decode_37 : decode cX1_decode 37 = .ok (.bipush 63, 2) := by decide +kernel
theorem dX1_decode_39 : decode cX1_decode 39 = .ok (.iand, 1) := by decide +kernel
theorem dX1_decode_40 : decode cX1_decode 40 = .ok (.ior, 1) := by decide +kernel
theorem dX1_decode_41 : decode cX1_decode 41 = .ok (.istore_n 2, 1) := by decide +kernel
theorem dX1_decode_42 : decode cX1_decode 42 = .ok (.iinc 3 1, 3) := by decide +kernel
theorem dX1_decode_45 : decode cX1_decode 45 = .ok (.goto (-22), 3) := by decide +kernel
theorem dX1_decode_48 : decode cX1_decode 48 = .ok (.iload_n 2, 1) := by decide +kernel
theorem dX1_decode_49 : decode cX1_decode 49 = .ok (.ireturn, 1) := by decide +kernel
set_option maxRecDepth 20000 in
theorem ggX1_startsWithBytesOf_X1_byteOf : GoodIn wsX1_startsWithBytesOf wsX1_byteOf := goodIn_r _ [4, 5, 6, 3, 7, 8] (by decide +kernel) (by decide +kernel)
set_option maxRecDepth 20000 in
theorem gX1_startsWithBytesOf_X1_byteOf : GoodIn wsX1_startsWithBytesOf (va_wsS RX1 77 yX1_byteOf wsX1_byteOf) := goodIn_app (goodIn_of _ (by decide +kernel)) ggX1_startsWithBytesOf_X1_byteOf
set_option maxRecDepth 20000 in
theorem ggX1_startsWithBytesOf_X1_byteAt : GoodIn wsX1_startsWithBytesOf wsX1_byteAt := goodIn_r _ [11] (by decide +kernel) (by decide +kernel)
set_option maxRecDepth 20000 in
theorem gX1_startsWithBytesOf_X1_byteAt : GoodIn wsX1_startsWithBytesOf (va_wsS RX1 124 yX1_byteAt wsX1_byteAt) := goodIn_app (goodIn_of _ (by decide +kernel)) ggX1_startsWithBytesOf_X1_byteAt
theorem dX1_startsWithBytesOf_0 : decode cX1_startsWithBytesOf 0 = .ok (.iconst 1, 1) := by decide +kernel
theorem dX1_startsWithBytesOf_1 : decode cX1_startsWithBytesOf 1 = .ok (.istore_n 3, 1) := by decide +kernel
theorem dX1_startsWithBytesOf_2 : decode cX1_startsWithBytesOf 2 = .ok (.iload_n 3, 1) := by decide +kernel
theorem dX1_startsWithBytesOf_3 : decode cX1_startsWithBytesOf 3 = .ok (.iload_n 2, 1) := by decide +kernel
theorem dX1_startsWithBytesOf_4 : decode cX1_startsWithBytesOf 4 = .ok (.if_icmp .gt 25, 3) := by decide +kernel
theorem dX1_startsWithBytesOf_7 : decode cX1_startsWithBytesOf 7 = .ok (.iload_n 0, 1) := by decide +kernel
theorem dX1_startsWithBytesOf_8 : decode cX1_startsWithBytesOf 8 = .ok (.iload_n 2, 1) := by decide +kernel
theorem dX1_startsWithBytesOf_9 : decode cX1_startsWithBytesOf 9 = .ok (.iload_n 3, 1) := by decide +kernel
theorem dX1_startsWithBytesOf_10 : decode cX1_startsWithBytesOf 10 = .ok (.invokestatic 77, 3) := by decide +kernel
theorem dX1_startsWithBytesOf_13 : decode cX1_startsWithBytesOf 13 = .ok (.iload_n 1, 1) := by decide +kernel
theorem dX1_startsWithBytesOf_14 : decode cX1_startsWithBytesOf 14 = .ok (.iload_n 3, 1) := by decide +kernel
theorem dX1_startsWithBytesOf_15 : decode cX1_startsWithBytesOf 15 = .ok (.invokestatic 124, 3) := by decide +kernel
theorem dX1_startsWithBytesOf_18 : decode cX1_startsWithBytesOf 18 = .ok (.if_icmp .eq 5, 3) := by decide +kernel
theorem dX1_startsWithBytesOf_21 : decode cX1_startsWithBytesOf 21 = .ok (.iconst 0, 1) := by decide +kernel
theorem dX1_startsWithBytesOf_22 : decode cX1_startsWithBytesOf 22 = .ok (.ireturn, 1) := by decide +kernel
theorem dX1_startsWithBytesOf_23 : decode cX1_startsWithBytesOf 23 = .ok (.iinc 3 1, 3) := by decide +kernel
theorem dX1_startsWithBytesOf_26 : decode cX1_startsWithBytesOf 26 = .ok (.goto (-24), 3) := by decide +kernel
theorem dX1_startsWithBytesOf_29 : decode cX1_startsWithBytesOf 29 = .ok (.iconst 1, 1) := by decide +kernel
theorem dX1_startsWithBytesOf_30 : decode cX1_startsWithBytesOf 30 = .ok (.ireturn, 1) := by decide +kernel
theorem dJ9_max_7cf53_0 : decode cJ9_max_7cf53 0 = .ok (.iload_n 0, 1) := by decide +kernel
theorem dJ9_max_7cf53_1 : decode cJ9_max_7cf53 1 = .ok (.iload_n 1, 1) := by decide +kernel
theorem dJ9_max_7cf53_2 : decode cJ9_max_7cf53 2 = .ok (.if_icmp .lt 7, 3) := by decide +kernel
theorem dJ9_max_7cf53_5 : decode cJ9_max_7cf53 5 = .ok (.iload_n 0, 1) := by decide +kernel
theorem dJ9_max_7cf53_6 : decode cJ9_max_7cf53 6 = .ok (.goto 4, 3) := by decide +kernel
theorem dJ9_max_7cf53_9 : decode cJ9_max_7cf53 9 = .ok (.iload_n 1, 1) := by decide +kernel
theorem dJ9_max_7cf53_10 : decode cJ9_max_7cf53 10 = .ok (.ireturn, 1) := by decide +kernel
theorem dJ9_min_7cf53_0 : decode cJ9_min_7cf53 0 = .ok (.iload_n 0, 1) := by decide +kernel
theorem dJ9_min_7cf53_1 : decode cJ9_min_7cf53 1 = .ok (.iload_n 1, 1) := by decide +kernel
theorem dJ9_min_7cf53_2 : decode cJ9_min_7cf53 2 = .ok (.if_icmp .gt 7, 3) := by decide +kernel
theorem dJ9_min_7cf53_5 : decode cJ9_min_7cf53 5 = .ok (.iload_n 0, 1) := by decide +kernel
theorem dJ9_min_7cf53_6 : decode cJ9_min_7cf53 6 = .ok (.goto 4, 3) := by decide +kernel
theorem dJ9_min_7cf53_9 : decode cJ9_min_7cf53 9 = .ok (.iload_n 1, 1) := by decide +kernel
theorem dJ9_min_7cf53_10 : decode cJ9_min_7cf53 10 = .ok (.ireturn, 1) := by decide +kernel
set_option maxRecDepth 20000 in
theorem ggL_add_X1_add : GoodIn wsL_add wsX1_add := goodIn_ca (goodIn_r _ [6, 7, 8, 9, 10, 11, 12, 5, 13, 14, 15, 16, 17, 18, 19, 20, 21, 22, 23, 24, 25, 26, 27, 28, 29, 30, 31, 32, 33, 34, 35, 36, 37, 38, 39, 40, 41, 42, 43, 44, 45, 46, 47, 48, 49, 50, 51, 52, 53, 54, 55, 56, 57] (by decide +kernel) (by decide +kernel)) (goodIn_sub (fun _ h => List.mem_cons_of_mem _ (List.mem_append_right _ h)) (by decide +kernel))
set_option maxRecDepth 20000 in
theorem gL_add_X1_add : GoodIn wsL_add (wsV RL 7 RX1 yX1_add wsX1_add) := goodIn_app (goodIn_of _ (by decide +kernel)) ggL_add_X1_add
theorem dL_add_0 : decode cL_add 0 = .ok (.aload_n 3, 1) := by decide +kernel
theorem dL_add_1 : decode cL_add 1 = .ok (.iconst 0, 1) := by decide +kernel
theorem dL_add_2 : decode cL_add 2 = .ok (.aload_n 0, 1) := by decide +kernel
theorem dL_add_3 : decode cL_add 3 = .ok (.iload_n 1, 1) := by decide +kernel
theorem dL_add_4 : decode cL_add 4 = .ok (.iload_n 2, 1) := by decide +kernel
theorem dL_add_5 : decode cL_add 5 = .ok (.invokevirtual 7, 3) := by decide +kernel
theorem dL_add_8 : decode cL_add 8 = .ok (.i2l, 1) := by decide +kernel
theorem dL_add_9 : decode cL_add 9 = .ok (.lastore, 1) := by decide +kernel
theorem dL_add_10 : decode cL_add 10 = .ok (.goto 7, 3) := by decide +kernel
theorem dL_add_13 : decode cL_add 13 = .ok (.astore 4, 2) := by decide +kernel
theorem dL_add_15 : decode cL_add 15 = .ok (.iconst 1, 1) := by decide +kernel
theorem dL_add_16 : decode cL_add 16 = .ok (.ireturn, 1) := by decide +kernel
theorem dL_add_17 : decode cL_add 17 = .ok (.iconst 0, 1) := by decide +kernel
theorem dL_add_18 : decode cL_add 18 = .ok (.ireturn, 1) := by decide +kernel
set_option maxRecDepth 20000 in
theorem ggL_law_X1_init : GoodIn wsL_law wsX1_init := goodIn_r _ [5, 6, 7, 8, 9, 10, 11, 12, 13, 14, 15, 16, 17, 18, 19, 20, 21, 180, 181, 182, 177, 178, 179] (by decide +kernel) (by decide +kernel)
set_option maxRecDepth 20000 in
theorem gL_law_X1_init : GoodIn wsL_law (wsX1_init) := ggL_law_X1_init
set_option maxRecDepth 20000 in
theorem ggL_law_L_add : GoodIn wsL_law wsL_add := goodIn_ca (goodIn_r _ [25, 26, 27, 28, 29, 2, 30, 31, 32, 33, 12, 34, 35, 36, 37, 38, 39, 40, 41, 42, 43, 44, 45, 46, 11, 47, 48, 21, 19, 49, 50, 51, 52, 20, 53, 54, 55, 56, 57, 58, 59, 60, 61, 62, 63, 64, 65, 66, 67, 68, 69, 70, 177, 178, 179, 180, 181, 182] (by decide +kernel) (by decide +kernel)) (goodIn_sub (fun _ h => List.mem_append_right _ h) (by decide +kernel))
set_option maxRecDepth 20000 in
theorem gL_law_L_add : GoodIn wsL_law (va_wsS RL 19 yL_add wsL_add) := goodIn_app (goodIn_of _ (by decide +kernel)) ggL_law_L_add
set_option maxRecDepth 20000 in
theorem ggL_law_X1_clear : GoodIn wsL_law wsX1_clear := goodIn_r _ [74, 12, 75, 11, 76, 77, 21, 177, 178, 179, 180, 181, 182] (by decide +kernel) (by decide +kernel)
set_option maxRecDepth 20000 in
theorem gL_law_X1_clear : GoodIn wsL_law (wsV RL 29 RX1 yX1_clear wsX1_clear) := goodIn_app (goodIn_of _ (by decide +kernel)) ggL_law_X1_clear
set_option maxRecDepth 20000 in
theorem ggL_law_X1_fold : GoodIn wsL_law wsX1_fold := goodIn_r _ [81, 12, 82, 83, 84, 2, 85, 86, 87, 88, 89, 90, 91, 11, 92, 93, 21, 19, 49, 50, 51, 52, 20, 46, 47, 48, 53, 54, 55, 56, 57, 58, 59, 60, 61, 62, 63, 64, 65, 66, 67, 68, 69, 39, 40, 41, 70, 44, 45, 94, 95, 96, 97, 98, 177, 178, 179, 180, 181, 182] (by decide +kernel) (by decide +kernel)
set_option maxRecDepth 20000 in
theorem gL_law_X1_fold : GoodIn wsL_law (wsV RL 33 RX1 yX1_fold wsX1_fold) := goodIn_app (goodIn_of _ (by decide +kernel)) ggL_law_X1_fold
set_option maxRecDepth 20000 in
theorem ggL_law_X1_turn : GoodIn wsL_law wsX1_turn := goodIn_r _ [102, 12, 13, 33, 75, 11, 76, 77, 21, 34, 35, 2, 36, 37, 38, 39, 40, 41, 42, 43, 44, 45, 46, 47, 48, 19, 49, 50, 51, 52, 20, 53, 54, 55, 56, 57, 58, 59, 60, 61, 62, 63, 64, 65, 66, 67, 68, 69, 70, 177, 178, 179, 180, 181, 182] (by decide +kernel) (by decide +kernel)
set_option maxRecDepth 20000 in
theorem gL_law_X1_turn : GoodIn wsL_law (wsV RL 37 RX1 yX1_turn wsX1_turn) := goodIn_app (goodIn_of _ (by decide +kernel)) ggL_law_X1_turn
set_option maxRecDepth 20000 in
theorem ggL_law_X1_keep : GoodIn wsL_law wsX1_keep := goodIn_r _ [106, 14, 12, 107, 11, 108, 109, 19, 21, 61, 62, 63, 64, 20, 177, 178, 179, 180, 181, 182] (by decide +kernel) (by decide +kernel)
set_option maxRecDepth 20000 in
theorem gL_law_X1_keep : GoodIn wsL_law (wsV RL 41 RX1 yX1_keep wsX1_keep) := goodIn_app (goodIn_of _ (by decide +kernel)) ggL_law_X1_keep
set_option maxRecDepth 20000 in
theorem ggL_law_X1_join : GoodIn wsL_law wsX1_join := goodIn_r _ [113, 14, 12, 46, 11, 47, 48, 21, 19, 49, 50, 51, 52, 20, 53, 54, 55, 56, 57, 58, 59, 60, 61, 62, 63, 64, 65, 66, 67, 68, 69, 39, 40, 41, 70, 44, 45, 177, 178, 179, 180, 181, 182] (by decide +kernel) (by decide +kernel)
set_option maxRecDepth 20000 in
theorem gL_law_X1_join : GoodIn wsL_law (wsV RL 45 RX1 yX1_join wsX1_join) := goodIn_app (goodIn_of _ (by decide +kernel)) ggL_law_X1_join
set_option maxRecDepth 20000 in
theorem ggL_law_X1_has : GoodIn wsL_law wsX1_has := goodIn_r _ [117, 12, 91, 11, 92, 93, 21, 19, 49, 50, 51, 52, 20, 177, 178, 179, 180, 181, 182] (by decide +kernel) (by decide +kernel)
set_option maxRecDepth 20000 in
theorem gL_law_X1_has : GoodIn wsL_law (wsV RL 49 RX1 yX1_has wsX1_has) := goodIn_app (goodIn_of _ (by decide +kernel)) ggL_law_X1_has
set_option maxRecDepth 20000 in
theorem ggL_law_X1_ranges : GoodIn wsL_law wsX1_ranges := goodIn_r _ [121, 12, 177, 178, 179, 180, 181, 182] (by decide +kernel) (by decide +kernel)
set_option maxRecDepth 20000 in
theorem gL_law_X1_ranges : GoodIn wsL_law (wsV RL 54 RX1 yX1_ranges wsX1_ranges) := goodIn_app (goodIn_of _ (by decide +kernel)) ggL_law_X1_ranges
set_option maxRecDepth 20000 in
theorem ggL_law_X1_range : GoodIn wsL_law wsX1_range := goodIn_r _ [125, 12, 177, 178, 179, 180, 181, 182] (by decide +kernel) (by decide +kernel)
set_option maxRecDepth 20000 in
theorem gL_law_X1_range : GoodIn wsL_law (wsV RL 58 RX1 yX1_range wsX1_range) := goodIn_app (goodIn_of _ (by decide +kernel)) ggL_law_X1_range
set_option maxRecDepth 20000 in
theorem ggL_law_X1_rows : GoodIn wsL_law wsX1_rows := goodIn_r _ [129, 12, 130, 131, 2, 132, 133, 134, 135, 38, 39, 40, 41, 136, 137, 138, 139, 140, 141, 142, 33, 177, 178, 179, 180, 181, 182] (by decide +kernel) (by decide +kernel)
set_option maxRecDepth 20000 in
theorem gL_law_X1_rows : GoodIn wsL_law (wsV RL 62 RX1 yX1_rows wsX1_rows) := goodIn_app (goodIn_of _ (by decide +kernel)) ggL_law_X1_rows
set_option maxRecDepth 20000 in
theorem ggL_law_X1_row : GoodIn wsL_law wsX1_row := goodIn_r _ [146, 12, 147, 148, 149, 2, 150, 130, 131, 132, 133, 134, 135, 38, 39, 40, 41, 136, 137, 138, 139, 140, 141, 142, 33, 151, 152, 153, 154, 155, 156, 157, 158, 159, 160, 161, 11, 162, 163, 21, 19, 20, 49, 50, 51, 52, 177, 178, 179, 180, 181, 182] (by decide +kernel) (by decide +kernel)
set_option maxRecDepth 20000 in
theorem gL_law_X1_row : GoodIn wsL_law (wsV RL 66 RX1 yX1_row wsX1_row) := goodIn_app (goodIn_of _ (by decide +kernel)) ggL_law_X1_row
set_option maxRecDepth 20000 in
theorem ggL_law_X1_takes : GoodIn wsL_law wsX1_takes := goodIn_r _ [167, 12, 168, 169, 2, 170, 171, 172, 173, 91, 11, 92, 93, 21, 19, 49, 50, 51, 52, 20, 136, 137, 138, 139, 140, 141, 142, 33, 174, 175, 176, 154, 155, 156, 157, 158, 159, 160, 177, 178, 179, 180, 181, 182] (by decide +kernel) (by decide +kernel)
set_option maxRecDepth 20000 in
theorem gL_law_X1_takes : GoodIn wsL_law (wsV RL 71 RX1 yX1_takes wsX1_takes) := goodIn_app (goodIn_of _ (by decide +kernel)) ggL_law_X1_takes
theorem dL_law_0 : decode cL_law 0 = .ok (.new 8, 3) := by decide +kernel
theorem dL_law_3 : decode cL_law 3 = .ok (.dup, 1) := by decide +kernel
theorem dL_law_4 : decode cL_law 4 = .ok (.invokespecial 15, 3) := by decide +kernel
theorem dL_law_7 : decode cL_law 7 = .ok (.astore_n 1, 1) := by decide +kernel
theorem dL_law_8 : decode cL_law 8 = .ok (.new 16, 3) := by decide +kernel
theorem dL_law_11 : decode cL_law 11 = .ok (.dup, 1) := by decide +kernel
theorem dL_law_12 : decode cL_law 12 = .ok (.invokespecial 18, 3) := by decide +kernel
theorem dL_law_15 : decode cL_law 15 = .ok (.astore_n 2, 1) := by decide +kernel
theorem dL_law_16 : decode cL_law 16 = .ok (.iconst 1, 1) := by decide +kernel
theorem dL_law_17 : decode cL_law 17 = .ok (.newarray .long, 2) := by decide +kernel
theorem dL_law_19 : decode cL_law 19 = .ok (.astore_n 3, 1) := by decide +kernel
theorem dL_law_20 : decode cL_law 20 = .ok (.iconst 0, 1) := by decide +kernel
theorem dL_law_21 : decode cL_law 21 = .ok (.istore 4, 2) := by decide +kernel
theorem dL_law_23 : decode cL_law 23 = .ok (.iload 4, 2) := by decide +kernel
theorem dL_law_25 : decode cL_law 25 = .ok (.aload_n 0, 1) := by decide +kernel
theorem dL_law_26 : decode cL_law 26 = .ok (.arraylength, 1) := by decide +kernel
theorem dL_law_27 : decode cL_law 27 = .ok (.iconst 4, 1) := by decide +kernel
theorem dL_law_28 : decode cL_law 28 = .ok (.isub, 1) := by decide +kernel
theorem dL_law_29 : decode cL_law 29 = .ok (.if_icmp .gt 380, 3) := by decide +kernel
theorem dL_law_32 : decode cL_law 32 = .ok (.aload_n 0, 1) := by decide +kernel
theorem dL_law_33 : decode cL_law 33 = .ok (.iload 4, 2) := by decide +kernel
theorem dL_law_35 : decode cL_law 35 = .ok (.iaload, 1) := by decide +kernel
theorem dL_law_36 : decode cL_law 36 = .ok (.bipush 15, 2) := by decide +kernel
theorem dL_law_38 : decode cL_law 38 = .ok (.iand, 1) := by decide +kernel
theorem dL_law_39 : decode cL_law 39 = .ok (.tableswitch 364 0 11 #[61, 129, 140, 153, 166, 177, 190, 215, 228, 265, 278, 327], 61) := by decide +kernel
theorem dL_law_100 : decode cL_law 100 = .ok (.aload_n 1, 1) := by decide +kernel
theorem dL_law_101 : decode cL_law 101 = .ok (.aload_n 0, 1) := by decide +kernel
theorem dL_law_102 : decode cL_law 102 = .ok (.iload 4, 2) := by decide +kernel
theorem dL_law_104 : decode cL_law 104 = .ok (.iconst 1, 1) := by decide +kernel
theorem dL_law_105 : decode cL_law 105 = .ok (.iadd, 1) := by decide +kernel
theorem dL_law_106 : decode cL_law 106 = .ok (.iaload, 1) := by decide +kernel
theorem dL_law_107 : decode cL_law 107 = .ok (.aload_n 0, 1) := by decide +kernel
theorem dL_law_108 : decode cL_law 108 = .ok (.iload 4, 2) := by decide +kernel
theorem dL_law_110 : decode cL_law 110 = .ok (.iconst 2, 1) := by decide +kernel
theorem dL_law_111 : decode cL_law 111 = .ok (.iadd, 1) := by decide +kernel
theorem dL_law_112 : decode cL_law 112 = .ok (.iaload, 1) := by decide +kernel
theorem dL_law_113 : decode cL_law 113 = .ok (.aload_n 3, 1) := by decide +kernel
theorem dL_law_114 : decode cL_law 114 = .ok (.invokestatic 19, 3) := by decide +kernel
theorem dL_law_117 : decode cL_law 117 = .ok (.istore 5, 2) := by decide +kernel
theorem dL_law_119 : decode cL_law 119 = .ok (.aload_n 2, 1) := by decide +kernel
theorem dL_law_120 : decode cL_law 120 = .ok (.aload_n 0, 1) := by decide +kernel
theorem dL_law_121 : decode cL_law 121 = .ok (.iload 4, 2) := by decide +kernel
theorem dL_law_123 : decode cL_law 123 = .ok (.iconst 1, 1) := by decide +kernel
theorem dL_law_124 : decode cL_law 124 = .ok (.iadd, 1) := by decide +kernel
theorem dL_law_125 : decode cL_law 125 = .ok (.iaload, 1) := by decide +kernel
theorem dL_law_126 : decode cL_law 126 = .ok (.aload_n 0, 1) := by decide +kernel
theorem dL_law_127 : decode cL_law 127 = .ok (.iload 4, 2) := by decide +kernel
theorem dL_law_129 : decode cL_law 129 = .ok (.iconst 2, 1) := by decide +kernel
theorem dL_law_130 : decode cL_law 130 = .ok (.iadd, 1) := by decide +kernel
theorem dL_law_131 : decode cL_law 131 = .ok (.iaload, 1) := by decide +kernel
theorem dL_law_132 : decode cL_law 132 = .ok (.invokevirtual 24, 3) := by decide +kernel
theorem dL_law_135 : decode cL_law 135 = .ok (.istore 6, 2) := by decide +kernel
theorem dL_law_137 : decode cL_law 137 = .ok (.aload_n 2, 1) := by decide +kernel
theorem dL_law_138 : decode cL_law 138 = .ok (.invokevirtual 25, 3) := by decide +kernel
theorem dL_law_141 : decode cL_law 141 = .ok (.iload 5, 2) := by decide +kernel
theorem dL_law_143 : decode cL_law 143 = .ok (.if_icmp .eq 5, 3) := by decide +kernel
theorem dL_law_146 : decode cL_law 146 = .ok (.iconst 0, 1) := by decide +kernel
theorem dL_law_147 : decode cL_law 147 = .ok (.ireturn, 1) := by decide +kernel
theorem dL_law_148 : decode cL_law 148 = .ok (.iload 5, 2) := by decide +kernel
theorem dL_law_150 : decode cL_law 150 = .ok (.ifCond .ne 15, 3) := by decide +kernel
theorem dL_law_153 : decode cL_law 153 = .ok (.aload_n 3, 1) := by decide +kernel
theorem dL_law_154 : decode cL_law 154 = .ok (.iconst 0, 1) := by decide +kernel
theorem dL_law_155 : decode cL_law 155 = .ok (.laload, 1) := by decide +kernel
theorem dL_law_156 : decode cL_law 156 = .ok (.iload 6, 2) := by decide +kernel
theorem dL_law_158 : decode cL_law 158 = .ok (.i2l, 1) := by decide +kernel
theorem dL_law_159 : decode cL_law 159 = .ok (.lcmp, 1) := by decide +kernel
theorem dL_law_160 : decode cL_law 160 = .ok (.ifCond .eq 5, 3) := by decide +kernel
theorem dL_law_163 : decode cL_law 163 = .ok (.iconst 0, 1) := by decide +kernel
theorem dL_law_164 : decode cL_law 164 = .ok (.ireturn, 1) := by decide +kernel
theorem dL_law_165 : decode cL_law 165 = .ok (.goto 238, 3) := by decide +kernel
theorem dL_law_168 : decode cL_law 168 = .ok (.aload_n 1, 1) := by decide +kernel
theorem dL_law_169 : decode cL_law 169 = .ok (.invokevirtual 29, 3) := by decide +kernel
theorem dL_law_172 : decode cL_law 172 = .ok (.aload_n 2, 1) := by decide +kernel
theorem dL_law_173 : decode cL_law 173 = .ok (.invokevirtual 32, 3) := by decide +kernel
theorem dL_law_176 : decode cL_law 176 = .ok (.goto 227, 3) := by decide +kernel
theorem dL_law_179 : decode cL_law 179 = .ok (.aload_n 1, 1) := by decide +kernel
theorem dL_law_180 : decode cL_law 180 = .ok (.invokevirtual 33, 3) := by decide +kernel
theorem dL_law_183 : decode cL_law 183 = .ok (.aload_n 2, 1) := by decide +kernel
theorem dL_law_184 : decode cL_law 184 = .ok (.invokevirtual 36, 3) := by decide +kernel
theorem dL_law_187 : decode cL_law 187 = .ok (.if_icmp .eq 216, 3) := by decide +kernel
theorem dL_law_190 : decode cL_law 190 = .ok (.iconst 0, 1) := by decide +kernel
theorem dL_law_191 : decode cL_law 191 = .ok (.ireturn, 1) := by decide +kernel
theorem dL_law_192 : decode cL_law 192 = .ok (.aload_n 1, 1) := by decide +kernel
theorem dL_law_193 : decode cL_law 193 = .ok (.invokevirtual 37, 3) := by decide +kernel
theorem dL_law_196 : decode cL_law 196 = .ok (.aload_n 2, 1) := by decide +kernel
theorem dL_law_197 : decode cL_law 197 = .ok (.invokevirtual 40, 3) := by decide +kernel
theorem dL_law_200 : decode cL_law 200 = .ok (.if_icmp .eq 203, 3) := by decide +kernel
theorem dL_law_203 : decode cL_law 203 = .ok (.iconst 0, 1) := by decide +kernel
theorem dL_law_204 : decode cL_law 204 = .ok (.ireturn, 1) := by decide +kernel
theorem dL_law_205 : decode cL_law 205 = .ok (.aload_n 1, 1) := by decide +kernel
theorem dL_law_206 : decode cL_law 206 = .ok (.invokevirtual 41, 3) := by decide +kernel
theorem dL_law_209 : decode cL_law 209 = .ok (.aload_n 2, 1) := by decide +kernel
theorem dL_law_210 : decode cL_law 210 = .ok (.invokevirtual 44, 3) := by decide +kernel
theorem dL_law_213 : decode cL_law 213 = .ok (.goto 190, 3) := by decide +kernel
theorem dL_law_216 : decode cL_law 216 = .ok (.aload_n 1, 1) := by decide +kernel
theorem dL_law_217 : decode cL_law 217 = .ok (.invokevirtual 45, 3) := by decide +kernel
theorem dL_law_220 : decode cL_law 220 = .ok (.aload_n 2, 1) := by decide +kernel
theorem dL_law_221 : decode cL_law 221 = .ok (.invokevirtual 48, 3) := by decide +kernel
theorem dL_law_224 : decode cL_law 224 = .ok (.if_icmp .eq 179, 3) := by decide +kernel
theorem dL_law_227 : decode cL_law 227 = .ok (.iconst 0, 1) := by decide +kernel
theorem dL_law_228 : decode cL_law 228 = .ok (.ireturn, 1) := by decide +kernel
theorem dL_law_229 : decode cL_law 229 = .ok (.aload_n 1, 1) := by decide +kernel
theorem dL_law_230 : decode cL_law 230 = .ok (.aload_n 0, 1) := by decide +kernel
theorem dL_law_231 : decode cL_law 231 = .ok (.iload 4, 2) := by decide +kernel
theorem dL_law_233 : decode cL_law 233 = .ok (.iconst 1, 1) := by decide +kernel
theorem dL_law_234 : decode cL_law 234 = .ok (.iadd, 1) := by decide +kernel
theorem dL_law_235 : decode cL_law 235 = .ok (.iaload, 1) := by decide +kernel
theorem dL_law_236 : decode cL_law 236 = .ok (.invokevirtual 49, 3) := by decide +kernel
theorem dL_law_239 : decode cL_law 239 = .ok (.aload_n 2, 1) := by decide +kernel
theorem dL_law_240 : decode cL_law 240 = .ok (.aload_n 0, 1) := by decide +kernel
theorem dL_law_241 : decode cL_law 241 = .ok (.iload 4, 2) := by decide +kernel
theorem dL_law_243 : decode cL_law 243 = .ok (.iconst 1, 1) := by decide +kernel
theorem dL_law_244 : decode cL_law 244 = .ok (.iadd, 1) := by decide +kernel
theorem dL_law_245 : decode cL_law 245 = .ok (.iaload, 1) := by decide +kernel
theorem dL_law_246 : decode cL_law 246 = .ok (.invokevirtual 53, 3) := by decide +kernel
theorem dL_law_249 : decode cL_law 249 = .ok (.if_icmp .eq 154, 3) := by decide +kernel
theorem dL_law_252 : decode cL_law 252 = .ok (.iconst 0, 1) := by decide +kernel
theorem dL_law_253 : decode cL_law 253 = .ok (.ireturn, 1) := by decide +kernel
theorem dL_law_254 : decode cL_law 254 = .ok (.aload_n 1, 1) := by decide +kernel
theorem dL_law_255 : decode cL_law 255 = .ok (.invokevirtual 54, 3) := by decide +kernel
theorem dL_law_258 : decode cL_law 258 = .ok (.aload_n 2, 1) := by decide +kernel
theorem dL_law_259 : decode cL_law 259 = .ok (.invokevirtual 57, 3) := by decide +kernel
theorem dL_law_262 : decode cL_law 262 = .ok (.if_icmp .eq 141, 3) := by decide +kernel
theorem dL_law_265 : decode cL_law 265 = .ok (.iconst 0, 1) := by decide +kernel
theorem dL_law_266 : decode cL_law 266 = .ok (.ireturn, 1) := by decide +kernel
theorem dL_law_267 : decode cL_law 267 = .ok (.aload_n 1, 1) := by decide +kernel
theorem dL_law_268 : decode cL_law 268 = .ok (.aload_n 0, 1) := by decide +kernel
theorem dL_law_269 : decode cL_law 269 = .ok (.iload 4, 2) := by decide +kernel
theorem dL_law_271 : decode cL_law 271 = .ok (.iconst 1, 1) := by decide +kernel
theorem dL_law_272 : decode cL_law 272 = .ok (.iadd, 1) := by decide +kernel
theorem dL_law_273 : decode cL_law 273 = .ok (.iaload, 1) := by decide +kernel
theorem dL_law_274 : decode cL_law 274 = .ok (.aload_n 0, 1) := by decide +kernel
theorem dL_law_275 : decode cL_law 275 = .ok (.iload 4, 2) := by decide +kernel
theorem dL_law_277 : decode cL_law 277 = .ok (.iconst 2, 1) := by decide +kernel
theorem dL_law_278 : decode cL_law 278 = .ok (.iadd, 1) := by decide +kernel
theorem dL_law_279 : decode cL_law 279 = .ok (.iaload, 1) := by decide +kernel
theorem dL_law_280 : decode cL_law 280 = .ok (.invokevirtual 58, 3) := by decide +kernel
theorem dL_law_283 : decode cL_law 283 = .ok (.aload_n 2, 1) := by decide +kernel
theorem dL_law_284 : decode cL_law 284 = .ok (.aload_n 0, 1) := by decide +kernel
theorem dL_law_285 : decode cL_law 285 = .ok (.iload 4, 2) := by decide +kernel
theorem dL_law_287 : decode cL_law 287 = .ok (.iconst 1, 1) := by decide +kernel
theorem dL_law_288 : decode cL_law 288 = .ok (.iadd, 1) := by decide +kernel
theorem dL_law_289 : decode cL_law 289 = .ok (.iaload, 1) := by decide +kernel
theorem dL_law_290 : decode cL_law 290 = .ok (.aload_n 0, 1) := by decide +kernel
theorem dL_law_291 : decode cL_law 291 = .ok (.iload 4, 2) := by decide +kernel
theorem dL_law_293 : decode cL_law 293 = .ok (.iconst 2, 1) := by decide +kernel
theorem dL_law_294 : decode cL_law 294 = .ok (.iadd, 1) := by decide +kernel
theorem dL_law_295 : decode cL_law 295 = .ok (.iaload, 1) := by decide +kernel
theorem dL_law_296 : decode cL_law 296 = .ok (.invokevirtual 61, 3) := by decide +kernel
theorem dL_law_299 : decode cL_law 299 = .ok (.if_icmp .eq 104, 3) := by decide +kernel
theorem dL_law_302 : decode cL_law 302 = .ok (.iconst 0, 1) := by decide +kernel
theorem dL_law_303 : decode cL_law 303 = .ok (.ireturn, 1) := by decide +kernel
theorem dL_law_304 : decode cL_law 304 = .ok (.aload_n 1, 1) := by decide +kernel
theorem dL_law_305 : decode cL_law 305 = .ok (.invokevirtual 62, 3) := by decide +kernel
theorem dL_law_308 : decode cL_law 308 = .ok (.aload_n 2, 1) := by decide +kernel
theorem dL_law_309 : decode cL_law 309 = .ok (.invokevirtual 65, 3) := by decide +kernel
theorem dL_law_312 : decode cL_law 312 = .ok (.if_icmp .eq 91, 3) := by decide +kernel
theorem dL_law_315 : decode cL_law 315 = .ok (.iconst 0, 1) := by decide +kernel
theorem dL_law_316 : decode cL_law 316 = .ok (.ireturn, 1) := by decide +kernel
theorem dL_law_317 : decode cL_law 317 = .ok (.aload_n 1, 1) := by decide +kernel
theorem dL_law_318 : decode cL_law 318 = .ok (.aload_n 0, 1) := by decide +kernel
theorem dL_law_319 : decode cL_law 319 = .ok (.iload 4, 2) := by decide +kernel
theorem dL_law_321 : decode cL_law 321 = .ok (.iconst 1, 1) := by decide +kernel
theorem dL_law_322 : decode cL_law 322 = .ok (.iadd, 1) := by decide +kernel
theorem dL_law_323 : decode cL_law 323 = .ok (.iaload, 1) := by decide +kernel
theorem dL_law_324 : decode cL_law 324 = .ok (.aload_n 0, 1) := by decide +kernel
theorem dL_law_325 : decode cL_law 325 = .ok (.iload 4, 2) := by decide +kernel
theorem dL_law_327 : decode cL_law 327 = .ok (.iconst 2, 1) := by decide +kernel
theorem dL_law_328 : decode cL_law 328 = .ok (.iadd, 1) := by decide +kernel
theorem dL_law_329 : decode cL_law 329 = .ok (.iaload, 1) := by decide +kernel
theorem dL_law_330 : decode cL_law 330 = .ok (.aload_n 0, 1) := by decide +kernel
theorem dL_law_331 : decode cL_law 331 = .ok (.iload 4, 2) := by decide +kernel
theorem dL_law_333 : decode cL_law 333 = .ok (.iconst 3, 1) := by decide +kernel
theorem dL_law_334 : decode cL_law 334 = .ok (.iadd, 1) := by decide +kernel
theorem dL_law_335 : decode cL_law 335 = .ok (.iaload, 1) := by decide +kernel
theorem dL_law_336 : decode cL_law 336 = .ok (.invokevirtual 66, 3) := by decide +kernel
theorem dL_law_339 : decode cL_law 339 = .ok (.aload_n 2, 1) := by decide +kernel
theorem dL_law_340 : decode cL_law 340 = .ok (.aload_n 0, 1) := by decide +kernel
theorem dL_law_341 : decode cL_law 341 = .ok (.iload 4, 2) := by decide +kernel
theorem dL_law_343 : decode cL_law 343 = .ok (.iconst 1, 1) := by decide +kernel
theorem dL_law_344 : decode cL_law 344 = .ok (.iadd, 1) := by decide +kernel
theorem dL_law_345 : decode cL_law 345 = .ok (.iaload, 1) := by decide +kernel
theorem dL_law_346 : decode cL_law 346 = .ok (.aload_n 0, 1) := by decide +kernel
theorem dL_law_347 : decode cL_law 347 = .ok (.iload 4, 2) := by decide +kernel
theorem dL_law_349 : decode cL_law 349 = .ok (.iconst 2, 1) := by decide +kernel
theorem dL_law_350 : decode cL_law 350 = .ok (.iadd, 1) := by decide +kernel
theorem dL_law_351 : decode cL_law 351 = .ok (.iaload, 1) := by decide +kernel
theorem dL_law_352 : decode cL_law 352 = .ok (.aload_n 0, 1) := by decide +kernel
theorem dL_law_353 : decode cL_law 353 = .ok (.iload 4, 2) := by decide +kernel
theorem dL_law_355 : decode cL_law 355 = .ok (.iconst 3, 1) := by decide +kernel
theorem dL_law_356 : decode cL_law 356 = .ok (.iadd, 1) := by decide +kernel
theorem dL_law_357 : decode cL_law 357 = .ok (.iaload, 1) := by decide +kernel
theorem dL_law_358 : decode cL_law 358 = .ok (.invokevirtual 70, 3) := by decide +kernel
theorem dL_law_361 : decode cL_law 361 = .ok (.if_icmp .eq 42, 3) := by decide +kernel
theorem dL_law_364 : decode cL_law 364 = .ok (.iconst 0, 1) := by decide +kernel
theorem dL_law_365 : decode cL_law 365 = .ok (.ireturn, 1) := by decide +kernel
theorem dL_law_366 : decode cL_law 366 = .ok (.aload_n 1, 1) := by decide +kernel
theorem dL_law_367 : decode cL_law 367 = .ok (.aload_n 0, 1) := by decide +kernel
theorem dL_law_368 : decode cL_law 368 = .ok (.iload 4, 2) := by decide +kernel
theorem dL_law_370 : decode cL_law 370 = .ok (.iconst 1, 1) := by decide +kernel
theorem dL_law_371 : decode cL_law 371 = .ok (.iadd, 1) := by decide +kernel
theorem dL_law_372 : decode cL_law 372 = .ok (.iaload, 1) := by decide +kernel
theorem dL_law_373 : decode cL_law 373 = .ok (.aload_n 0, 1) := by decide +kernel
theorem dL_law_374 : decode cL_law 374 = .ok (.iload 4, 2) := by decide +kernel
theorem dL_law_376 : decode cL_law 376 = .ok (.iconst 2, 1) := by decide +kernel
theorem dL_law_377 : decode cL_law 377 = .ok (.iadd, 1) := by decide +kernel
theorem dL_law_378 : decode cL_law 378 = .ok (.iaload, 1) := by decide +kernel
theorem dL_law_379 : decode cL_law 379 = .ok (.invokevirtual 71, 3) := by decide +kernel
theorem dL_law_382 : decode cL_law 382 = .ok (.aload_n 2, 1) := by decide +kernel
theorem dL_law_383 : decode cL_law 383 = .ok (.aload_n 0, 1) := by decide +kernel
theorem dL_law_384 : decode cL_law 384 = .ok (.iload 4, 2) := by decide +kernel
theorem dL_law_386 : decode cL_law 386 = .ok (.iconst 1, 1) := by decide +kernel
theorem dL_law_387 : decode cL_law 387 = .ok (.iadd, 1) := by decide +kernel
theorem dL_law_388 : decode cL_law 388 = .ok (.iaload, 1) := by decide +kernel
theorem dL_law_389 : decode cL_law 389 = .ok (.aload_n 0, 1) := by decide +kernel
theorem dL_law_390 : decode cL_law 390 = .ok (.iload 4, 2) := by decide +kernel
theorem dL_law_392 : decode cL_law 392 = .ok (.iconst 2, 1) := by decide +kernel
theorem dL_law_393 : decode cL_law 393 = .ok (.iadd, 1) := by decide +kernel
theorem dL_law_394 : decode cL_law 394 = .ok (.iaload, 1) := by decide +kernel
theorem dL_law_395 : decode cL_law 395 = .ok (.invokevirtual 75, 3) := by decide +kernel
theorem dL_law_398 : decode cL_law 398 = .ok (.if_icmp .eq 5, 3) := by decide +kernel
theorem dL_law_401 : decode cL_law 401 = .ok (.iconst 0, 1) := by decide +kernel
theorem dL_law_402 : decode cL_law 402 = .ok (.ireturn, 1) := by decide +kernel
theorem dL_law_403 : decode cL_law 403 = .ok (.iinc 4 4, 3) := by decide +kernel
theorem dL_law_406 : decode cL_law 406 = .ok (.goto (-383), 3) := by decide +kernel
theorem dL_law_409 : decode cL_law 409 = .ok (.iconst 1, 1) := by decide +kernel
theorem dL_law_410 : decode cL_law 410 = .ok (.ireturn, 1) := by decide +kernel
abbrev vwCl : List vw_C := [(RX0, TX0, 3), (RX1, TX1, 3)]
end
section
/-! NAMES of the reference's class (printed by my own program) -/
def TM : u_T := fun k => match k with
  | 0 => ("CharRowsModel", "thrown", "I", false)
  | 1 => ("CharRowsModel", "low", "[I", true)
  | 2 => ("CharRowsModel", "high", "[I", true)
  | 3 => ("CharRowsModel", "size", "I", false)
  | 4 => ("CharRowsModel", "keptLow", "[I", true)
  | 5 => ("CharRowsModel", "keptHigh", "[I", true)
  | 6 => ("CharRowsModel", "kept", "I", false)
  | 7 => ("CharRowsModel", "newLow", "[I", true)
  | 8 => ("CharRowsModel", "newHigh", "[I", true)
  | 9 => ("CharRowsModel", "many", "I", false)
  | 10 => ("CharRowsModel", "met", "[Z", true)
  | 11 => ("CharRowsModel", "from", "[I", true)
  | 12 => ("CharRowsModel", "to", "[I", true)
  | 13 => ("CharRowsModel", "bytes", "I", false)
  | _ => ("CharRowsModel", "found", "I", false)
def tyM : Nat → FieldType := fun k => match k with
  | 0 => .int
  | 1 => (.array .int)
  | 2 => (.array .int)
  | 3 => .int
  | 4 => (.array .int)
  | 5 => (.array .int)
  | 6 => .int
  | 7 => (.array .int)
  | 8 => (.array .int)
  | 9 => .int
  | 10 => (.array .boolean)
  | 11 => (.array .int)
  | 12 => (.array .int)
  | 13 => .int
  | _ => .int
abbrev wsM00 : List Cond := u_ws RX2 TM 15
theorem nmM : ∀ a, a < 15 → ∀ b, b < 15 → a ≠ b → (TM a).2.1 ≠ (TM b).2.1 := by decide +kernel
theorem tyM_ok : ∀ k, k < 15 → parseFieldDescriptor (TM k).2.2.1 = some (tyM k) := by decide +kernel
abbrev cM_init : ByteArray := prog_4_method_1_code
def yM_init : MethodName := ⟨RX2, "<init>", "()V"⟩
abbrev cM_thrown : ByteArray := prog_4_method_2_code
def yM_thrown : MethodName := ⟨RX2, "thrown", "()I"⟩
abbrev cM_add : ByteArray := prog_4_method_6_code
def yM_add : MethodName := ⟨RX2, "add", "(II)I"⟩
abbrev cM_putsSet : ByteArray := prog_4_method_5_code
def yM_putsSet : MethodName := ⟨RX2, "putsSet", "()V"⟩
abbrev cM_puts : ByteArray := prog_4_method_3_code
def yM_puts : MethodName := ⟨RX2, "puts", "(II)V"⟩
abbrev cM_gathers : ByteArray := prog_4_method_4_code
def yM_gathers : MethodName := ⟨RX2, "gathers", "()I"⟩
abbrev cM_clear : ByteArray := prog_4_method_7_code
def yM_clear : MethodName := ⟨RX2, "clear", "()V"⟩
abbrev cM_turn : ByteArray := prog_4_method_8_code
def yM_turn : MethodName := ⟨RX2, "turn", "()I"⟩
abbrev cM_keep : ByteArray := prog_4_method_9_code
def yM_keep : MethodName := ⟨RX2, "keep", "()V"⟩
abbrev cM_join : ByteArray := prog_4_method_10_code
def yM_join : MethodName := ⟨RX2, "join", "()I"⟩
abbrev cM_fold : ByteArray := prog_4_method_13_code
def yM_fold : MethodName := ⟨RX2, "fold", "()I"⟩
abbrev cM_standsFor : ByteArray := prog_4_method_11_code
def yM_standsFor : MethodName := ⟨RX2, "standsFor", "(I)I"⟩
abbrev cM_isIn : ByteArray := prog_4_method_12_code
def yM_isIn : MethodName := ⟨RX2, "isIn", "(I)Z"⟩
abbrev cM_has : ByteArray := prog_4_method_14_code
def yM_has : MethodName := ⟨RX2, "has", "(I)Z"⟩
abbrev cM_ranges : ByteArray := prog_4_method_15_code
def yM_ranges : MethodName := ⟨RX2, "ranges", "()I"⟩
abbrev cM_range : ByteArray := prog_4_method_16_code
def yM_range : MethodName := ⟨RX2, "range", "(II)I"⟩
abbrev cM_rows : ByteArray := prog_4_method_22_code
def yM_rows : MethodName := ⟨RX2, "rows", "()I"⟩
abbrev cM_finds : ByteArray := prog_4_method_21_code
def yM_finds : MethodName := ⟨RX2, "finds", "(I)Z"⟩
abbrev cM_runs : ByteArray := prog_4_method_20_code
def yM_runs : MethodName := ⟨RX2, "runs", "(II)I"⟩
abbrev cM_isRow : ByteArray := prog_4_method_19_code
def yM_isRow : MethodName := ⟨RX2, "isRow", "(II)Z"⟩
abbrev cM_length : ByteArray := prog_4_method_17_code
def yM_length : MethodName := ⟨RX2, "length", "(I)I"⟩
abbrev cM_byteOf : ByteArray := prog_4_method_18_code
def yM_byteOf : MethodName := ⟨RX2, "byteOf", "(II)I"⟩
abbrev cM_row : ByteArray := prog_4_method_23_code
def yM_row : MethodName := ⟨RX2, "row", "(III)I"⟩
abbrev cM_takes : ByteArray := prog_4_method_24_code
def yM_takes : MethodName := ⟨RX2, "takes", "(II)Z"⟩
def wsM_r0 : List Cond := [.initialized RX2, .instanceMethod yM_init, .code yM_init cM_init 1 none, .methodLink RX2 1 objectInit, .fieldLink RX2 38 "CharRowsModel" "thrown" "I", .fieldLink RX2 7 "CharRowsModel" "low" "[I", .fieldLink RX2 13 "CharRowsModel" "high" "[I", .fieldLink RX2 45 "CharRowsModel" "size" "I", .fieldLink RX2 16 "CharRowsModel" "keptLow" "[I", .fieldLink RX2 19 "CharRowsModel" "keptHigh" "[I", .fieldLink RX2 63 "CharRowsModel" "kept" "I", .fieldLink RX2 22 "CharRowsModel" "newLow" "[I", .fieldLink RX2 25 "CharRowsModel" "newHigh" "[I", .fieldLink RX2 42 "CharRowsModel" "many" "I", .fieldLink RX2 28 "CharRowsModel" "met" "[Z", .fieldLink RX2 32 "CharRowsModel" "from" "[I", .fieldLink RX2 35 "CharRowsModel" "to" "[I", .fieldLink RX2 78 "CharRowsModel" "bytes" "I", .fieldLink RX2 90 "CharRowsModel" "found" "I", .instanceMethod yM_thrown, .selects RX2 yM_thrown yM_thrown, .code yM_thrown cM_thrown 1 (some .int), .instanceMethod yM_add, .selects RX2 yM_add yM_add]
def wsM_r1 : List Cond := [.code yM_add cM_add 3 (some .int), .constant RX2 52 (1114111), .methodLink RX2 53 yM_putsSet, .instanceMethod yM_putsSet, .code yM_putsSet cM_putsSet 2 none, .methodLink RX2 48 yM_puts, .instanceMethod yM_puts, .code yM_puts cM_puts 3 none, .constant RX2 56 (55296), .constant RX2 57 (55295), .constant RX2 58 (57344), .methodLink RX2 59 yM_gathers, .instanceMethod yM_gathers, .code yM_gathers cM_gathers 6 (some .int), .instanceMethod yM_clear, .selects RX2 yM_clear yM_clear, .code yM_clear cM_clear 1 none, .instanceMethod yM_turn, .selects RX2 yM_turn yM_turn, .code yM_turn cM_turn 3 (some .int), .instanceMethod yM_keep, .selects RX2 yM_keep yM_keep, .code yM_keep cM_keep 2 none, .instanceMethod yM_join]
def wsM_r2 : List Cond := [.selects RX2 yM_join yM_join, .code yM_join cM_join 2 (some .int), .instanceMethod yM_fold, .selects RX2 yM_fold yM_fold, .code yM_fold cM_fold 2 (some .int), .methodLink RX2 66 yM_standsFor, .static yM_standsFor, .code yM_standsFor cM_standsFor 2 (some .int), .methodLink RX2 70 yM_isIn, .instanceMethod yM_isIn, .code yM_isIn cM_isIn 4 (some .boolean), .instanceMethod yM_has, .selects RX2 yM_has yM_has, .code yM_has cM_has 2 (some .boolean), .instanceMethod yM_ranges, .selects RX2 yM_ranges yM_ranges, .code yM_ranges cM_ranges 1 (some .int), .instanceMethod yM_range, .selects RX2 yM_range yM_range, .code yM_range cM_range 3 (some .int), .instanceMethod yM_rows, .selects RX2 yM_rows yM_rows, .code yM_rows cM_rows 1 (some .int), .methodLink RX2 96 yM_finds]
def wsM_r3 : List Cond := [.instanceMethod yM_finds, .code yM_finds cM_finds 5 (some .boolean), .methodLink RX2 93 yM_runs, .instanceMethod yM_runs, .code yM_runs cM_runs 7 (some .int), .methodLink RX2 85 yM_isRow, .instanceMethod yM_isRow, .code yM_isRow cM_isRow 6 (some .boolean), .methodLink RX2 75 yM_length, .static yM_length, .code yM_length cM_length 1 (some .int), .constant RX2 74 (65536), .methodLink RX2 81 yM_byteOf, .static yM_byteOf, .code yM_byteOf cM_byteOf 4 (some .int), .constant RX2 89 (65535), .instanceMethod yM_row, .selects RX2 yM_row yM_row, .code yM_row cM_row 4 (some .int), .instanceMethod yM_takes, .selects RX2 yM_takes yM_takes, .code yM_takes cM_takes 8 (some .boolean), .selects RX2 yM_putsSet yM_putsSet, .selects RX2 yM_puts yM_puts]
def wsM_r4 : List Cond := [.selects RX2 yM_gathers yM_gathers, .selects RX2 yM_isIn yM_isIn, .selects RX2 yM_finds yM_finds, .selects RX2 yM_runs yM_runs, .selects RX2 yM_isRow yM_isRow, .instanceMethod objectInit, .code objectInit ⟨#[0xb1]⟩ 1 none, .arrayClass .int, .arrayClass .boolean]
def wsM : List Cond := wsM00 ++ wsM_r0 ++ wsM_r1 ++ wsM_r2 ++ wsM_r3 ++ wsM_r4
def wsM_init : List Cond := .code yM_init cM_init 1 none :: wsM
def wsM_thrown : List Cond := .code yM_thrown cM_thrown 1 (some .int) :: wsM
def wsM_add : List Cond := .code yM_add cM_add 3 (some .int) :: wsM
def wsM_putsSet : List Cond := .code yM_putsSet cM_putsSet 2 none :: wsM
def wsM_puts : List Cond := .code yM_puts cM_puts 3 none :: wsM
def wsM_gathers : List Cond := .code yM_gathers cM_gathers 6 (some .int) :: wsM
def wsM_clear : List Cond := .code yM_clear cM_clear 1 none :: wsM
def wsM_turn : List Cond := .code yM_turn cM_turn 3 (some .int) :: wsM
def wsM_keep : List Cond := .code yM_keep cM_keep 2 none :: wsM
def wsM_join : List Cond := .code yM_join cM_join 2 (some .int) :: wsM
def wsM_fold : List Cond := .code yM_fold cM_fold 2 (some .int) :: wsM
def wsM_standsFor : List Cond := .code yM_standsFor cM_standsFor 2 (some .int) :: wsM
def wsM_isIn : List Cond := .code yM_isIn cM_isIn 4 (some .boolean) :: wsM
def wsM_has : List Cond := .code yM_has cM_has 2 (some .boolean) :: wsM
def wsM_ranges : List Cond := .code yM_ranges cM_ranges 1 (some .int) :: wsM
def wsM_range : List Cond := .code yM_range cM_range 3 (some .int) :: wsM
def wsM_rows : List Cond := .code yM_rows cM_rows 1 (some .int) :: wsM
def wsM_finds : List Cond := .code yM_finds cM_finds 5 (some .boolean) :: wsM
def wsM_runs : List Cond := .code yM_runs cM_runs 7 (some .int) :: wsM
def wsM_isRow : List Cond := .code yM_isRow cM_isRow 6 (some .boolean) :: wsM
def wsM_length : List Cond := .code yM_length cM_length 1 (some .int) :: wsM
def wsM_byteOf : List Cond := .code yM_byteOf cM_byteOf 4 (some .int) :: wsM
def wsM_row : List Cond := .code yM_row cM_row 4 (some .int) :: wsM
def wsM_takes : List Cond := .code yM_takes cM_takes 8 (some .boolean) :: wsM
set_option maxRecDepth 20000 in
theorem wsM_good : wsM.all goodWord = true := by decide +kernel
theorem wsM_in (c : Cond) : ∀ w ∈ wsM, w ∈ c :: wsM := fun _ h => List.mem_cons_of_mem _ h
theorem gM_of {c d : Cond} (h : d ∈ wsM) : GoodIn (c :: wsM) (d :: wsM) := fun w hw => (List.mem_cons.mp hw).elim (fun e => by rw [e]; exact ⟨List.mem_cons_of_mem _ h, good_of_word (List.all_eq_true.mp wsM_good d h)⟩) (fun h => ⟨List.mem_cons_of_mem _ h, good_of_word (List.all_eq_true.mp wsM_good w h)⟩)
theorem wsM00_in (c : Cond) : ∀ w ∈ wsM00, w ∈ c :: wsM := fun _ h => List.mem_cons_of_mem _ (List.mem_append_left _ (List.mem_append_left _ (List.mem_append_left _ (List.mem_append_left _ (List.mem_append_left _ (h))))))
abbrev crCl : List vw_C := [(RX0, TX0, 3), (RX1, TX1, 3), (RX2, TM, 15)]
end
section
theorem dM_init_0 : decode cM_init 0 = .ok (.aload_n 0, 1) := by decide +kernel
theorem dM_init_1 : decode cM_init 1 = .ok (.invokespecial 1, 3) := by decide +kernel
theorem dM_init_4 : decode cM_init 4 = .ok (.aload_n 0, 1) := by decide +kernel
theorem dM_init_5 : decode cM_init 5 = .ok (.sipush 2400, 3) := by decide +kernel
theorem dM_init_8 : decode cM_init 8 = .ok (.newarray .int, 2) := by decide +kernel
theorem dM_init_10 : decode cM_init 10 = .ok (.putfield 7, 3) := by decide +kernel
theorem dM_init_13 : decode cM_init 13 = .ok (.aload_n 0, 1) := by decide +kernel
theorem dM_init_14 : decode cM_init 14 = .ok (.sipush 2400, 3) := by decide +kernel
theorem dM_init_17 : decode cM_init 17 = .ok (.newarray .int, 2) := by decide +kernel
theorem dM_init_19 : decode cM_init 19 = .ok (.putfield 13, 3) := by decide +kernel
theorem dM_init_22 : decode cM_init 22 = .ok (.aload_n 0, 1) := by decide +kernel
theorem dM_init_23 : decode cM_init 23 = .ok (.sipush 2400, 3) := by decide +kernel
theorem dM_init_26 : decode cM_init 26 = .ok (.newarray .int, 2) := by decide +kernel
theorem dM_init_28 : decode cM_init 28 = .ok (.putfield 16, 3) := by decide +kernel
theorem dM_init_31 : decode cM_init 31 = .ok (.aload_n 0, 1) := by decide +kernel
theorem dM_init_32 : decode cM_init 32 = .ok (.sipush 2400, 3) := by decide +kernel
theorem dM_init_35 : decode cM_init 35 = .ok (.newarray .int, 2) := by decide +kernel
theorem dM_init_37 : decode cM_init 37 = .ok (.putfield 19, 3) := by decide +kernel
theorem dM_init_40 : decode cM_init 40 = .ok (.aload_n 0, 1) := by decide +kernel
theorem dM_init_41 : decode cM_init 41 = .ok (.sipush 4800, 3) := by decide +kernel
theorem dM_init_44 : decode cM_init 44 = .ok (.newarray .int, 2) := by decide +kernel
theorem dM_init_46 : decode cM_init 46 = .ok (.putfield 22, 3) := by decide +kernel
theorem dM_init_49 : decode cM_init 49 = .ok (.aload_n 0, 1) := by decide +kernel
theorem dM_init_50 : decode cM_init 50 = .ok (.sipush 4800, 3) := by decide +kernel
theorem dM_init_53 : decode cM_init 53 = .ok (.newarray .int, 2) := by decide +kernel
theorem dM_init_55 : decode cM_init 55 = .ok (.putfield 25, 3) := by decide +kernel
theorem dM_init_58 : decode cM_init 58 = .ok (.aload_n 0, 1) := by decide +kernel
theorem dM_init_59 : decode cM_init 59 = .ok (.sipush 1120, 3) := by decide +kernel
theorem dM_init_62 : decode cM_init 62 = .ok (.newarray .boolean, 2) := by decide +kernel
theorem dM_init_64 : decode cM_init 64 = .ok (.putfield 28, 3) := by decide +kernel
theorem dM_init_67 : decode cM_init 67 = .ok (.aload_n 0, 1) := by decide +kernel
theorem dM_init_68 : decode cM_init 68 = .ok (.iconst 4, 1) := by decide +kernel
theorem dM_init_69 : decode cM_init 69 = .ok (.newarray .int, 2) := by decide +kernel
theorem dM_init_71 : decode cM_init 71 = .ok (.putfield 32, 3) := by decide +kernel
theorem dM_init_74 : decode cM_init 74 = .ok (.aload_n 0, 1) := by decide +kernel
theorem dM_init_75 : decode cM_init 75 = .ok (.iconst 4, 1) := by decide +kernel
theorem dM_init_76 : decode cM_init 76 = .ok (.newarray .int, 2) := by decide +kernel
theorem dM_init_78 : decode cM_init 78 = .ok (.putfield 35, 3) := by decide +kernel
theorem dM_init_81 : decode cM_init 81 = .ok (.return_, 1) := by decide +kernel
theorem dM_thrown_0 : decode cM_thrown 0 = .ok (.aload_n 0, 1) := by decide +kernel
theorem dM_thrown_1 : decode cM_thrown 1 = .ok (.getfield 38, 3) := by decide +kernel
theorem dM_thrown_4 : decode cM_thrown 4 = .ok (.ireturn, 1) := by decide +kernel
theorem dM_puts_0 : decode cM_puts 0 = .ok (.iload_n 1, 1) := by decide +kernel
theorem dM_puts_1 : decode cM_puts 1 = .ok (.iload_n 2, 1) := by decide +kernel
theorem dM_puts_2 : decode cM_puts 2 = .ok (.if_icmp .gt 33, 3) := by decide +kernel
theorem dM_puts_5 : decode cM_puts 5 = .ok (.aload_n 0, 1) := by decide +kernel
theorem dM_puts_6 : decode cM_puts 6 = .ok (.getfield 22, 3) := by decide +kernel
theorem dM_puts_9 : decode cM_puts 9 = .ok (.aload_n 0, 1) := by decide +kernel
theorem dM_puts_10 : decode cM_puts 10 = .ok (.getfield 42, 3) := by decide +kernel
theorem dM_puts_13 : decode cM_puts 13 = .ok (.iload_n 1, 1) := by decide +kernel
theorem dM_puts_14 : decode cM_puts 14 = .ok (.iastore, 1) := by decide +kernel
theorem dM_puts_15 : decode cM_puts 15 = .ok (.aload_n 0, 1) := by decide +kernel
theorem dM_puts_16 : decode cM_puts 16 = .ok (.getfield 25, 3) := by decide +kernel
theorem dM_puts_19 : decode cM_puts 19 = .ok (.aload_n 0, 1) := by decide +kernel
theorem dM_puts_20 : decode cM_puts 20 = .ok (.getfield 42, 3) := by decide +kernel
theorem dM_puts_23 : decode cM_puts 23 = .ok (.iload_n 2, 1) := by decide +kernel
theorem dM_puts_24 : decode cM_puts 24 = .ok (.iastore, 1) := by decide +kernel
theorem dM_puts_25 : decode cM_puts 25 = .ok (.aload_n 0, 1) := by decide +kernel
theorem dM_puts_26 : decode cM_puts 26 = .ok (.dup, 1) := by decide +kernel
theorem dM_puts_27 : decode cM_puts 27 = .ok (.getfield 42, 3) := by decide +kernel
theorem dM_puts_30 : decode cM_puts 30 = .ok (.iconst 1, 1) := by decide +kernel
theorem dM_puts_31 : decode cM_puts 31 = .ok (.iadd, 1) := by decide +kernel
theorem dM_puts_32 : decode cM_puts 32 = .ok (.putfield 42, 3) := by decide +kernel
theorem dM_puts_35 : decode cM_puts 35 = .ok (.return_, 1) := by decide +kernel
theorem dM_gathers_0 : decode cM_gathers 0 = .ok (.aload_n 0, 1) := by decide +kernel
theorem dM_gathers_1 : decode cM_gathers 1 = .ok (.iconst 0, 1) := by decide +kernel
theorem dM_gathers_2 : decode cM_gathers 2 = .ok (.putfield 45, 3) := by decide +kernel
theorem dM_gathers_5 : decode cM_gathers 5 = .ok (.iconst (-1), 1) := by decide +kernel
theorem dM_gathers_6 : decode cM_gathers 6 = .ok (.istore_n 1, 1) := by decide +kernel
theorem dM_gathers_7 : decode cM_gathers 7 = .ok (.aload_n 0, 1) := by decide +kernel
theorem dM_gathers_8 : decode cM_gathers 8 = .ok (.getfield 42, 3) := by decide +kernel
theorem dM_gathers_11 : decode cM_gathers 11 = .ok (.ifCond .le 7, 3) := by decide +kernel
theorem dM_gathers_14 : decode cM_gathers 14 = .ok (.iconst 1, 1) := by decide +kernel
theorem dM_gathers_15 : decode cM_gathers 15 = .ok (.goto 4, 3) := by decide +kernel
theorem dM_gathers_18 : decode cM_gathers 18 = .ok (.iconst 0, 1) := by decide +kernel
theorem dM_gathers_19 : decode cM_gathers 19 = .ok (.istore_n 2, 1) := by decide +kernel
theorem dM_gathers_20 : decode cM_gathers 20 = .ok (.iload_n 2, 1) := by decide +kernel
theorem dM_gathers_21 : decode cM_gathers 21 = .ok (.ifCond .eq 188, 3) := by decide +kernel
theorem dM_gathers_24 : decode cM_gathers 24 = .ok (.iconst (-1), 1) := by decide +kernel
theorem dM_gathers_25 : decode cM_gathers 25 = .ok (.istore_n 3, 1) := by decide +kernel
theorem dM_gathers_26 : decode cM_gathers 26 = .ok (.iconst 0, 1) := by decide +kernel
theorem dM_gathers_27 : decode cM_gathers 27 = .ok (.istore 4, 2) := by decide +kernel
theorem dM_gathers_29 : decode cM_gathers 29 = .ok (.iload 4, 2) := by decide +kernel
theorem dM_gathers_31 : decode cM_gathers 31 = .ok (.aload_n 0, 1) := by decide +kernel
theorem dM_gathers_32 : decode cM_gathers 32 = .ok (.getfield 42, 3) := by decide +kernel
theorem dM_gathers_35 : decode cM_gathers 35 = .ok (.if_icmp .ge 59, 3) := by decide +kernel
theorem dM_gathers_38 : decode cM_gathers 38 = .ok (.aload_n 0, 1) := by decide +kernel
theorem dM_gathers_39 : decode cM_gathers 39 = .ok (.getfield 22, 3) := by decide +kernel
theorem dM_gathers_42 : decode cM_gathers 42 = .ok (.iload 4, 2) := by decide +kernel
theorem dM_gathers_44 : decode cM_gathers 44 = .ok (.iaload, 1) := by decide +kernel
theorem dM_gathers_45 : decode cM_gathers 45 = .ok (.ifCond .lt 28, 3) := by decide +kernel
theorem dM_gathers_48 : decode cM_gathers 48 = .ok (.iload_n 3, 1) := by decide +kernel
theorem dM_gathers_49 : decode cM_gathers 49 = .ok (.iconst (-1), 1) := by decide +kernel
theorem dM_gathers_50 : decode cM_gathers 50 = .ok (.if_icmp .eq 19, 3) := by decide +kernel
theorem dM_gathers_53 : decode cM_gathers 53 = .ok (.aload_n 0, 1) := by decide +kernel
theorem dM_gathers_54 : decode cM_gathers 54 = .ok (.getfield 22, 3) := by decide +kernel
theorem dM_gathers_57 : decode cM_gathers 57 = .ok (.iload 4, 2) := by decide +kernel
theorem dM_gathers_59 : decode cM_gathers 59 = .ok (.iaload, 1) := by decide +kernel
theorem dM_gathers_60 : decode cM_gathers 60 = .ok (.aload_n 0, 1) := by decide +kernel
theorem dM_gathers_61 : decode cM_gathers 61 = .ok (.getfield 22, 3) := by decide +kernel
theorem dM_gathers_64 : decode cM_gathers 64 = .ok (.iload_n 3, 1) := by decide +kernel
theorem dM_gathers_65 : decode cM_gathers 65 = .ok (.iaload, 1) := by decide +kernel
theorem dM_gathers_66 : decode cM_gathers 66 = .ok (.if_icmp .ge 7, 3) := by decide +kernel
theorem dM_gathers_69 : decode cM_gathers 69 = .ok (.iconst 1, 1) := by decide +kernel
theorem dM_gathers_70 : decode cM_gathers 70 = .ok (.goto 4, 3) := by decide +kernel
theorem dM_gathers_73 : decode cM_gathers 73 = .ok (.iconst 0, 1) := by decide +kernel
theorem dM_gathers_74 : decode cM_gathers 74 = .ok (.istore 5, 2) := by decide +kernel
theorem dM_gathers_76 : decode cM_gathers 76 = .ok (.iload 5, 2) := by decide +kernel
theorem dM_gathers_78 : decode cM_gathers 78 = .ok (.ifCond .eq 8, 3) := by decide +kernel
theorem dM_gathers_81 : decode cM_gathers 81 = .ok (.iload 4, 2) := by decide +kernel
theorem dM_gathers_83 : decode cM_gathers 83 = .ok (.goto 4, 3) := by decide +kernel
theorem dM_gathers_86 : decode cM_gathers 86 = .ok (.iload_n 3, 1) := by decide +kernel
theorem dM_gathers_87 : decode cM_gathers 87 = .ok (.istore_n 3, 1) := by decide +kernel
theorem dM_gathers_88 : decode cM_gathers 88 = .ok (.iinc 4 1, 3) := by decide +kernel
theorem dM_gathers_91 : decode cM_gathers 91 = .ok (.goto (-62), 3) := by decide +kernel
theorem dM_gathers_94 : decode cM_gathers 94 = .ok (.iload_n 3, 1) := by decide +kernel
theorem dM_gathers_95 : decode cM_gathers 95 = .ok (.iconst (-1), 1) := by decide +kernel
theorem dM_gathers_96 : decode cM_gathers 96 = .ok (.if_icmp .eq 7, 3) := by decide +kernel
theorem dM_gathers_99 : decode cM_gathers 99 = .ok (.iconst 1, 1) := by decide +kernel
theorem dM_gathers_100 : decode cM_gathers 100 = .ok (.goto 4, 3) := by decide +kernel
theorem dM_gathers_103 : decode cM_gathers 103 = .ok (.iconst 0, 1) := by decide +kernel
theorem dM_gathers_104 : decode cM_gathers 104 = .ok (.istore_n 2, 1) := by decide +kernel
theorem dM_gathers_105 : decode cM_gathers 105 = .ok (.iload_n 2, 1) := by decide +kernel
theorem dM_gathers_106 : decode cM_gathers 106 = .ok (.ifCond .ne 6, 3) := by decide +kernel
theorem dM_gathers_109 : decode cM_gathers 109 = .ok (.goto (-89), 3) := by decide +kernel
theorem dM_gathers_112 : decode cM_gathers 112 = .ok (.aload_n 0, 1) := by decide +kernel
theorem dM_gathers_113 : decode cM_gathers 113 = .ok (.getfield 45, 3) := by decide +kernel
theorem dM_gathers_116 : decode cM_gathers 116 = .ok (.ifCond .le 39, 3) := by decide +kernel
theorem dM_gathers_119 : decode cM_gathers 119 = .ok (.aload_n 0, 1) := by decide +kernel
theorem dM_gathers_120 : decode cM_gathers 120 = .ok (.getfield 22, 3) := by decide +kernel
theorem dM_gathers_123 : decode cM_gathers 123 = .ok (.iload_n 3, 1) := by decide +kernel
theorem dM_gathers_124 : decode cM_gathers 124 = .ok (.iaload, 1) := by decide +kernel
theorem dM_gathers_125 : decode cM_gathers 125 = .ok (.iload_n 1, 1) := by decide +kernel
theorem dM_gathers_126 : decode cM_gathers 126 = .ok (.iconst 1, 1) := by decide +kernel
theorem dM_gathers_127 : decode cM_gathers 127 = .ok (.iadd, 1) := by decide +kernel
theorem dM_gathers_128 : decode cM_gathers 128 = .ok (.if_icmp .gt 27, 3) := by decide +kernel
theorem dM_gathers_131 : decode cM_gathers 131 = .ok (.aload_n 0, 1) := by decide +kernel
theorem dM_gathers_132 : decode cM_gathers 132 = .ok (.getfield 25, 3) := by decide +kernel
theorem dM_gathers_135 : decode cM_gathers 135 = .ok (.iload_n 3, 1) := by decide +kernel
theorem dM_gathers_136 : decode cM_gathers 136 = .ok (.iaload, 1) := by decide +kernel
theorem dM_gathers_137 : decode cM_gathers 137 = .ok (.iload_n 1, 1) := by decide +kernel
theorem dM_gathers_138 : decode cM_gathers 138 = .ok (.if_icmp .le 12, 3) := by decide +kernel
theorem dM_gathers_141 : decode cM_gathers 141 = .ok (.aload_n 0, 1) := by decide +kernel
theorem dM_gathers_142 : decode cM_gathers 142 = .ok (.getfield 25, 3) := by decide +kernel
theorem dM_gathers_145 : decode cM_gathers 145 = .ok (.iload_n 3, 1) := by decide +kernel
theorem dM_gathers_146 : decode cM_gathers 146 = .ok (.iaload, 1) := by decide +kernel
theorem dM_gathers_147 : decode cM_gathers 147 = .ok (.goto 4, 3) := by decide +kernel
theorem dM_gathers_150 : decode cM_gathers 150 = .ok (.iload_n 1, 1) := by decide +kernel
theorem dM_gathers_151 : decode cM_gathers 151 = .ok (.istore_n 1, 1) := by decide +kernel
theorem dM_gathers_152 : decode cM_gathers 152 = .ok (.goto 35, 3) := by decide +kernel
theorem dM_gathers_155 : decode cM_gathers 155 = .ok (.aload_n 0, 1) := by decide +kernel
theorem dM_gathers_156 : decode cM_gathers 156 = .ok (.getfield 7, 3) := by decide +kernel
theorem dM_gathers_159 : decode cM_gathers 159 = .ok (.aload_n 0, 1) := by decide +kernel
theorem dM_gathers_160 : decode cM_gathers 160 = .ok (.getfield 45, 3) := by decide +kernel
theorem dM_gathers_163 : decode cM_gathers 163 = .ok (.aload_n 0, 1) := by decide +kernel
theorem dM_gathers_164 : decode cM_gathers 164 = .ok (.getfield 22, 3) := by decide +kernel
theorem dM_gathers_167 : decode cM_gathers 167 = .ok (.iload_n 3, 1) := by decide +kernel
theorem dM_gathers_168 : decode cM_gathers 168 = .ok (.iaload, 1) := by decide +kernel
theorem dM_gathers_169 : decode cM_gathers 169 = .ok (.iastore, 1) := by decide +kernel
theorem dM_gathers_170 : decode cM_gathers 170 = .ok (.aload_n 0, 1) := by decide +kernel
theorem dM_gathers_171 : decode cM_gathers 171 = .ok (.getfield 25, 3) := by decide +kernel
theorem dM_gathers_174 : decode cM_gathers 174 = .ok (.iload_n 3, 1) := by decide +kernel
theorem dM_gathers_175 : decode cM_gathers 175 = .ok (.iaload, 1) := by decide +kernel
theorem dM_gathers_176 : decode cM_gathers 176 = .ok (.istore_n 1, 1) := by decide +kernel
theorem dM_gathers_177 : decode cM_gathers 177 = .ok (.aload_n 0, 1) := by decide +kernel
theorem dM_gathers_178 : decode cM_gathers 178 = .ok (.dup, 1) := by decide +kernel
theorem dM_gathers_179 : decode cM_gathers 179 = .ok (.getfield 45, 3) := by decide +kernel
theorem dM_gathers_182 : decode cM_gathers 182 = .ok (.iconst 1, 1) := by decide +kernel
theorem dM_gathers_183 : decode cM_gathers 183 = .ok (.iadd, 1) := by decide +kernel
theorem dM_gathers_184 : decode cM_gathers 184 = .ok (.putfield 45, 3) := by decide +kernel
theorem dM_gathers_187 : decode cM_gathers 187 = .ok (.aload_n 0, 1) := by decide +kernel
theorem dM_gathers_188 : decode cM_gathers 188 = .ok (.getfield 13, 3) := by decide +kernel
theorem dM_gathers_191 : decode cM_gathers 191 = .ok (.aload_n 0, 1) := by decide +kernel
theorem dM_gathers_192 : decode cM_gathers 192 = .ok (.getfield 45, 3) := by decide +kernel
theorem dM_gathers_195 : decode cM_gathers 195 = .ok (.iconst 1, 1) := by decide +kernel
theorem dM_gathers_196 : decode cM_gathers 196 = .ok (.isub, 1) := by decide +kernel
theorem dM_gathers_197 : decode cM_gathers 197 = .ok (.iload_n 1, 1) := by decide +kernel
theorem dM_gathers_198 : decode cM_gathers 198 = .ok (.iastore, 1) := by decide +kernel
theorem dM_gathers_199 : decode cM_gathers 199 = .ok (.aload_n 0, 1) := by decide +kernel
theorem dM_gathers_200 : decode cM_gathers 200 = .ok (.getfield 22, 3) := by decide +kernel
theorem dM_gathers_203 : decode cM_gathers 203 = .ok (.iload_n 3, 1) := by decide +kernel
theorem dM_gathers_204 : decode cM_gathers 204 = .ok (.iconst (-1), 1) := by decide +kernel
theorem dM_gathers_205 : decode cM_gathers 205 = .ok (.iastore, 1) := by decide +kernel
theorem dM_gathers_206 : decode cM_gathers 206 = .ok (.goto (-186), 3) := by decide +kernel
theorem dM_gathers_209 : decode cM_gathers 209 = .ok (.aload_n 0, 1) := by decide +kernel
theorem dM_gathers_210 : decode cM_gathers 210 = .ok (.iconst 0, 1) := by decide +kernel
theorem dM_gathers_211 : decode cM_gathers 211 = .ok (.putfield 42, 3) := by decide +kernel
theorem dM_gathers_214 : decode cM_gathers 214 = .ok (.aload_n 0, 1) := by decide +kernel
theorem dM_gathers_215 : decode cM_gathers 215 = .ok (.getfield 45, 3) := by decide +kernel
theorem dM_gathers_218 : decode cM_gathers 218 = .ok (.ireturn, 1) := by decide +kernel
theorem dM_putsSet_0 : decode cM_putsSet 0 = .ok (.iconst 0, 1) := by decide +kernel
theorem dM_putsSet_1 : decode cM_putsSet 1 = .ok (.istore_n 1, 1) := by decide +kernel
theorem dM_putsSet_2 : decode cM_putsSet 2 = .ok (.iload_n 1, 1) := by decide +kernel
theorem dM_putsSet_3 : decode cM_putsSet 3 = .ok (.aload_n 0, 1) := by decide +kernel
theorem dM_putsSet_4 : decode cM_putsSet 4 = .ok (.getfield 45, 3) := by decide +kernel
theorem dM_putsSet_7 : decode cM_putsSet 7 = .ok (.if_icmp .ge 25, 3) := by decide +kernel
theorem dM_putsSet_10 : decode cM_putsSet 10 = .ok (.aload_n 0, 1) := by decide +kernel
theorem dM_putsSet_11 : decode cM_putsSet 11 = .ok (.aload_n 0, 1) := by decide +kernel
theorem dM_putsSet_12 : decode cM_putsSet 12 = .ok (.getfield 7, 3) := by decide +kernel
theorem dM_putsSet_15 : decode cM_putsSet 15 = .ok (.iload_n 1, 1) := by decide +kernel
theorem dM_putsSet_16 : decode cM_putsSet 16 = .ok (.iaload, 1) := by decide +kernel
theorem dM_putsSet_17 : decode cM_putsSet 17 = .ok (.aload_n 0, 1) := by decide +kernel
theorem dM_putsSet_18 : decode cM_putsSet 18 = .ok (.getfield 13, 3) := by decide +kernel
theorem dM_putsSet_21 : decode cM_putsSet 21 = .ok (.iload_n 1, 1) := by decide +kernel
theorem dM_putsSet_22 : decode cM_putsSet 22 = .ok (.iaload, 1) := by decide +kernel
theorem dM_putsSet_23 : decode cM_putsSet 23 = .ok (.invokevirtual 48, 3) := by decide +kernel
theorem dM_putsSet_26 : decode cM_putsSet 26 = .ok (.iinc 1 1, 3) := by decide +kernel
theorem dM_putsSet_29 : decode cM_putsSet 29 = .ok (.goto (-27), 3) := by decide +kernel
theorem dM_putsSet_32 : decode cM_putsSet 32 = .ok (.return_, 1) := by decide +kernel
theorem dM_add_0 : decode cM_add 0 = .ok (.aload_n 0, 1) := by decide +kernel
theorem dM_add_1 : decode cM_add 1 = .ok (.iload_n 1, 1) := by decide +kernel
theorem dM_add_2 : decode cM_add 2 = .ok (.ifCond .lt 14, 3) := by decide +kernel
theorem dM_add_5 : decode cM_add 5 = .ok (.iload_n 2, 1) := by decide +kernel
theorem dM_add_6 : decode cM_add 6 = .ok (.iload_n 1, 1) := by decide +kernel
theorem dM_add_7 : decode cM_add 7 = .ok (.if_icmp .lt 9, 3) := by decide +kernel
theorem dM_add_10 : decode cM_add 10 = .ok (.iload_n 2, 1) := by decide +kernel
theorem dM_add_11 : decode cM_add 11 = .ok (.ldc 52, 2) := by decide +kernel
theorem dM_add_13 : decode cM_add 13 = .ok (.if_icmp .le 7, 3) := by decide +kernel
theorem dM_add_16 : decode cM_add 16 = .ok (.iconst 1, 1) := by decide +kernel
theorem dM_add_17 : decode cM_add 17 = .ok (.goto 4, 3) := by decide +kernel
theorem dM_add_20 : decode cM_add 20 = .ok (.iconst 0, 1) := by decide +kernel
theorem dM_add_21 : decode cM_add 21 = .ok (.putfield 38, 3) := by decide +kernel
theorem dM_add_24 : decode cM_add 24 = .ok (.aload_n 0, 1) := by decide +kernel
theorem dM_add_25 : decode cM_add 25 = .ok (.getfield 38, 3) := by decide +kernel
theorem dM_add_28 : decode cM_add 28 = .ok (.ifCond .le 5, 3) := by decide +kernel
theorem dM_add_31 : decode cM_add 31 = .ok (.iconst 0, 1) := by decide +kernel
theorem dM_add_32 : decode cM_add 32 = .ok (.ireturn, 1) := by decide +kernel
theorem dM_add_33 : decode cM_add 33 = .ok (.aload_n 0, 1) := by decide +kernel
theorem dM_add_34 : decode cM_add 34 = .ok (.invokevirtual 53, 3) := by decide +kernel
theorem dM_add_37 : decode cM_add 37 = .ok (.aload_n 0, 1) := by decide +kernel
theorem dM_add_38 : decode cM_add 38 = .ok (.iload_n 1, 1) := by decide +kernel
theorem dM_add_39 : decode cM_add 39 = .ok (.iload_n 2, 1) := by decide +kernel
theorem dM_add_40 : decode cM_add 40 = .ok (.ldc 56, 2) := by decide +kernel
theorem dM_add_42 : decode cM_add 42 = .ok (.if_icmp .ge 7, 3) := by decide +kernel
theorem dM_add_45 : decode cM_add 45 = .ok (.iload_n 2, 1) := by decide +kernel
theorem dM_add_46 : decode cM_add 46 = .ok (.goto 5, 3) := by decide +kernel
theorem dM_add_49 : decode cM_add 49 = .ok (.ldc 57, 2) := by decide +kernel
theorem dM_add_51 : decode cM_add 51 = .ok (.invokevirtual 48, 3) := by decide +kernel
theorem dM_add_54 : decode cM_add 54 = .ok (.aload_n 0, 1) := by decide +kernel
theorem dM_add_55 : decode cM_add 55 = .ok (.iload_n 1, 1) := by decide +kernel
theorem dM_add_56 : decode cM_add 56 = .ok (.ldc 58, 2) := by decide +kernel
theorem dM_add_58 : decode cM_add 58 = .ok (.if_icmp .ge 8, 3) := by decide +kernel
theorem dM_add_61 : decode cM_add 61 = .ok (.ldc 58, 2) := by decide +kernel
theorem dM_add_63 : decode cM_add 63 = .ok (.goto 4, 3) := by decide +kernel
theorem dM_add_66 : decode cM_add 66 = .ok (.iload_n 1, 1) := by decide +kernel
theorem dM_add_67 : decode cM_add 67 = .ok (.iload_n 2, 1) := by decide +kernel
theorem dM_add_68 : decode cM_add 68 = .ok (.invokevirtual 48, 3) := by decide +kernel
theorem dM_add_71 : decode cM_add 71 = .ok (.aload_n 0, 1) := by decide +kernel
theorem dM_add_72 : decode cM_add 72 = .ok (.invokevirtual 59, 3) := by decide +kernel
theorem dM_add_75 : decode cM_add 75 = .ok (.ireturn, 1) := by decide +kernel
theorem dM_clear_0 : decode cM_clear 0 = .ok (.aload_n 0, 1) := by decide +kernel
theorem dM_clear_1 : decode cM_clear 1 = .ok (.iconst 0, 1) := by decide +kernel
theorem dM_clear_2 : decode cM_clear 2 = .ok (.putfield 38, 3) := by decide +kernel
theorem dM_clear_5 : decode cM_clear 5 = .ok (.aload_n 0, 1) := by decide +kernel
theorem dM_clear_6 : decode cM_clear 6 = .ok (.iconst 0, 1) := by decide +kernel
theorem dM_clear_7 : decode cM_clear 7 = .ok (.putfield 45, 3) := by decide +kernel
theorem dM_clear_10 : decode cM_clear 10 = .ok (.return_, 1) := by decide +kernel
theorem dM_turn_0 : decode cM_turn 0 = .ok (.aload_n 0, 1) := by decide +kernel
theorem dM_turn_1 : decode cM_turn 1 = .ok (.iconst 0, 1) := by decide +kernel
theorem dM_turn_2 : decode cM_turn 2 = .ok (.putfield 38, 3) := by decide +kernel
theorem dM_turn_5 : decode cM_turn 5 = .ok (.iconst 0, 1) := by decide +kernel
theorem dM_turn_6 : decode cM_turn 6 = .ok (.istore_n 1, 1) := by decide +kernel
theorem dM_turn_7 : decode cM_turn 7 = .ok (.iconst 0, 1) := by decide +kernel
theorem dM_turn_8 : decode cM_turn 8 = .ok (.istore_n 2, 1) := by decide +kernel
theorem dM_turn_9 : decode cM_turn 9 = .ok (.iload_n 2, 1) := by decide +kernel
theorem dM_turn_10 : decode cM_turn 10 = .ok (.aload_n 0, 1) := by decide +kernel
theorem dM_turn_11 : decode cM_turn 11 = .ok (.getfield 45, 3) := by decide +kernel
theorem dM_turn_14 : decode cM_turn 14 = .ok (.if_icmp .ge 73, 3) := by decide +kernel
theorem dM_turn_17 : decode cM_turn 17 = .ok (.aload_n 0, 1) := by decide +kernel
theorem dM_turn_18 : decode cM_turn 18 = .ok (.iload_n 1, 1) := by decide +kernel
theorem dM_turn_19 : decode cM_turn 19 = .ok (.aload_n 0, 1) := by decide +kernel
theorem dM_turn_20 : decode cM_turn 20 = .ok (.getfield 7, 3) := by decide +kernel
theorem dM_turn_23 : decode cM_turn 23 = .ok (.iload_n 2, 1) := by decide +kernel
theorem dM_turn_24 : decode cM_turn 24 = .ok (.iaload, 1) := by decide +kernel
theorem dM_turn_25 : decode cM_turn 25 = .ok (.iconst 1, 1) := by decide +kernel
theorem dM_turn_26 : decode cM_turn 26 = .ok (.isub, 1) := by decide +kernel
theorem dM_turn_27 : decode cM_turn 27 = .ok (.ldc 56, 2) := by decide +kernel
theorem dM_turn_29 : decode cM_turn 29 = .ok (.if_icmp .ge 14, 3) := by decide +kernel
theorem dM_turn_32 : decode cM_turn 32 = .ok (.aload_n 0, 1) := by decide +kernel
theorem dM_turn_33 : decode cM_turn 33 = .ok (.getfield 7, 3) := by decide +kernel
theorem dM_turn_36 : decode cM_turn 36 = .ok (.iload_n 2, 1) := by decide +kernel
theorem dM_turn_37 : decode cM_turn 37 = .ok (.iaload, 1) := by decide +kernel
theorem dM_turn_38 : decode cM_turn 38 = .ok (.iconst 1, 1) := by decide +kernel
theorem dM_turn_39 : decode cM_turn 39 = .ok (.isub, 1) := by decide +kernel
theorem dM_turn_40 : decode cM_turn 40 = .ok (.goto 5, 3) := by decide +kernel
theorem dM_turn_43 : decode cM_turn 43 = .ok (.ldc 57, 2) := by decide +kernel
theorem dM_turn_45 : decode cM_turn 45 = .ok (.invokevirtual 48, 3) := by decide +kernel
theorem dM_turn_48 : decode cM_turn 48 = .ok (.aload_n 0, 1) := by decide +kernel
theorem dM_turn_49 : decode cM_turn 49 = .ok (.iload_n 1, 1) := by decide +kernel
theorem dM_turn_50 : decode cM_turn 50 = .ok (.ldc 58, 2) := by decide +kernel
theorem dM_turn_52 : decode cM_turn 52 = .ok (.if_icmp .ge 8, 3) := by decide +kernel
theorem dM_turn_55 : decode cM_turn 55 = .ok (.ldc 58, 2) := by decide +kernel
theorem dM_turn_57 : decode cM_turn 57 = .ok (.goto 4, 3) := by decide +kernel
theorem dM_turn_60 : decode cM_turn 60 = .ok (.iload_n 1, 1) := by decide +kernel
theorem dM_turn_61 : decode cM_turn 61 = .ok (.aload_n 0, 1) := by decide +kernel
theorem dM_turn_62 : decode cM_turn 62 = .ok (.getfield 7, 3) := by decide +kernel
theorem dM_turn_65 : decode cM_turn 65 = .ok (.iload_n 2, 1) := by decide +kernel
theorem dM_turn_66 : decode cM_turn 66 = .ok (.iaload, 1) := by decide +kernel
theorem dM_turn_67 : decode cM_turn 67 = .ok (.iconst 1, 1) := by decide +kernel
theorem dM_turn_68 : decode cM_turn 68 = .ok (.isub, 1) := by decide +kernel
theorem dM_turn_69 : decode cM_turn 69 = .ok (.invokevirtual 48, 3) := by decide +kernel
theorem dM_turn_72 : decode cM_turn 72 = .ok (.aload_n 0, 1) := by decide +kernel
theorem dM_turn_73 : decode cM_turn 73 = .ok (.getfield 13, 3) := by decide +kernel
theorem dM_turn_76 : decode cM_turn 76 = .ok (.iload_n 2, 1) := by decide +kernel
theorem dM_turn_77 : decode cM_turn 77 = .ok (.iaload, 1) := by decide +kernel
theorem dM_turn_78 : decode cM_turn 78 = .ok (.iconst 1, 1) := by decide +kernel
theorem dM_turn_79 : decode cM_turn 79 = .ok (.iadd, 1) := by decide +kernel
theorem dM_turn_80 : decode cM_turn 80 = .ok (.istore_n 1, 1) := by decide +kernel
theorem dM_turn_81 : decode cM_turn 81 = .ok (.iinc 2 1, 3) := by decide +kernel
theorem dM_turn_84 : decode cM_turn 84 = .ok (.goto (-75), 3) := by decide +kernel
theorem dM_turn_87 : decode cM_turn 87 = .ok (.aload_n 0, 1) := by decide +kernel
theorem dM_turn_88 : decode cM_turn 88 = .ok (.iload_n 1, 1) := by decide +kernel
theorem dM_turn_89 : decode cM_turn 89 = .ok (.ldc 57, 2) := by decide +kernel
theorem dM_turn_91 : decode cM_turn 91 = .ok (.invokevirtual 48, 3) := by decide +kernel
theorem dM_turn_94 : decode cM_turn 94 = .ok (.aload_n 0, 1) := by decide +kernel
theorem dM_turn_95 : decode cM_turn 95 = .ok (.iload_n 1, 1) := by decide +kernel
theorem dM_turn_96 : decode cM_turn 96 = .ok (.ldc 58, 2) := by decide +kernel
theorem dM_turn_98 : decode cM_turn 98 = .ok (.if_icmp .ge 8, 3) := by decide +kernel
theorem dM_turn_101 : decode cM_turn 101 = .ok (.ldc 58, 2) := by decide +kernel
theorem dM_turn_103 : decode cM_turn 103 = .ok (.goto 4, 3) := by decide +kernel
theorem dM_turn_106 : decode cM_turn 106 = .ok (.iload_n 1, 1) := by decide +kernel
theorem dM_turn_107 : decode cM_turn 107 = .ok (.ldc 52, 2) := by decide +kernel
theorem dM_turn_109 : decode cM_turn 109 = .ok (.invokevirtual 48, 3) := by decide +kernel
theorem dM_turn_112 : decode cM_turn 112 = .ok (.aload_n 0, 1) := by decide +kernel
theorem dM_turn_113 : decode cM_turn 113 = .ok (.invokevirtual 59, 3) := by decide +kernel
theorem dM_turn_116 : decode cM_turn 116 = .ok (.ireturn, 1) := by decide +kernel
theorem dM_keep_0 : decode cM_keep 0 = .ok (.aload_n 0, 1) := by decide +kernel
theorem dM_keep_1 : decode cM_keep 1 = .ok (.iconst 0, 1) := by decide +kernel
theorem dM_keep_2 : decode cM_keep 2 = .ok (.putfield 38, 3) := by decide +kernel
theorem dM_keep_5 : decode cM_keep 5 = .ok (.aload_n 0, 1) := by decide +kernel
theorem dM_keep_6 : decode cM_keep 6 = .ok (.aload_n 0, 1) := by decide +kernel
theorem dM_keep_7 : decode cM_keep 7 = .ok (.getfield 45, 3) := by decide +kernel
theorem dM_keep_10 : decode cM_keep 10 = .ok (.putfield 63, 3) := by decide +kernel
theorem dM_keep_13 : decode cM_keep 13 = .ok (.iconst 0, 1) := by decide +kernel
theorem dM_keep_14 : decode cM_keep 14 = .ok (.istore_n 1, 1) := by decide +kernel
theorem dM_keep_15 : decode cM_keep 15 = .ok (.iload_n 1, 1) := by decide +kernel
theorem dM_keep_16 : decode cM_keep 16 = .ok (.aload_n 0, 1) := by decide +kernel
theorem dM_keep_17 : decode cM_keep 17 = .ok (.getfield 45, 3) := by decide +kernel
theorem dM_keep_20 : decode cM_keep 20 = .ok (.if_icmp .ge 33, 3) := by decide +kernel
theorem dM_keep_23 : decode cM_keep 23 = .ok (.aload_n 0, 1) := by decide +kernel
theorem dM_keep_24 : decode cM_keep 24 = .ok (.getfield 16, 3) := by decide +kernel
theorem dM_keep_27 : decode cM_keep 27 = .ok (.iload_n 1, 1) := by decide +kernel
theorem dM_keep_28 : decode cM_keep 28 = .ok (.aload_n 0, 1) := by decide +kernel
theorem dM_keep_29 : decode cM_keep 29 = .ok (.getfield 7, 3) := by decide +kernel
theorem dM_keep_32 : decode cM_keep 32 = .ok (.iload_n 1, 1) := by decide +kernel
theorem dM_keep_33 : decode cM_keep 33 = .ok (.iaload, 1) := by decide +kernel
theorem dM_keep_34 : decode cM_keep 34 = .ok (.iastore, 1) := by decide +kernel
theorem dM_keep_35 : decode cM_keep 35 = .ok (.aload_n 0, 1) := by decide +kernel
theorem dM_keep_36 : decode cM_keep 36 = .ok (.getfield 19, 3) := by decide +kernel
theorem dM_keep_39 : decode cM_keep 39 = .ok (.iload_n 1, 1) := by decide +kernel
theorem dM_keep_40 : decode cM_keep 40 = .ok (.aload_n 0, 1) := by decide +kernel
theorem dM_keep_41 : decode cM_keep 41 = .ok (.getfield 13, 3) := by decide +kernel
theorem dM_keep_44 : decode cM_keep 44 = .ok (.iload_n 1, 1) := by decide +kernel
theorem dM_keep_45 : decode cM_keep 45 = .ok (.iaload, 1) := by decide +kernel
theorem dM_keep_46 : decode cM_keep 46 = .ok (.iastore, 1) := by decide +kernel
theorem dM_keep_47 : decode cM_keep 47 = .ok (.iinc 1 1, 3) := by decide +kernel
theorem dM_keep_50 : decode cM_keep 50 = .ok (.goto (-35), 3) := by decide +kernel
theorem dM_keep_53 : decode cM_keep 53 = .ok (.return_, 1) := by decide +kernel
theorem dM_join_0 : decode cM_join 0 = .ok (.aload_n 0, 1) := by decide +kernel
theorem dM_join_1 : decode cM_join 1 = .ok (.iconst 0, 1) := by decide +kernel
theorem dM_join_2 : decode cM_join 2 = .ok (.putfield 38, 3) := by decide +kernel
theorem dM_join_5 : decode cM_join 5 = .ok (.aload_n 0, 1) := by decide +kernel
theorem dM_join_6 : decode cM_join 6 = .ok (.invokevirtual 53, 3) := by decide +kernel
theorem dM_join_9 : decode cM_join 9 = .ok (.iconst 0, 1) := by decide +kernel
theorem dM_join_10 : decode cM_join 10 = .ok (.istore_n 1, 1) := by decide +kernel
theorem dM_join_11 : decode cM_join 11 = .ok (.iload_n 1, 1) := by decide +kernel
theorem dM_join_12 : decode cM_join 12 = .ok (.aload_n 0, 1) := by decide +kernel
theorem dM_join_13 : decode cM_join 13 = .ok (.getfield 63, 3) := by decide +kernel
theorem dM_join_16 : decode cM_join 16 = .ok (.if_icmp .ge 25, 3) := by decide +kernel
theorem dM_join_19 : decode cM_join 19 = .ok (.aload_n 0, 1) := by decide +kernel
theorem dM_join_20 : decode cM_join 20 = .ok (.aload_n 0, 1) := by decide +kernel
theorem dM_join_21 : decode cM_join 21 = .ok (.getfield 16, 3) := by decide +kernel
theorem dM_join_24 : decode cM_join 24 = .ok (.iload_n 1, 1) := by decide +kernel
theorem dM_join_25 : decode cM_join 25 = .ok (.iaload, 1) := by decide +kernel
theorem dM_join_26 : decode cM_join 26 = .ok (.aload_n 0, 1) := by decide +kernel
theorem dM_join_27 : decode cM_join 27 = .ok (.getfield 19, 3) := by decide +kernel
theorem dM_join_30 : decode cM_join 30 = .ok (.iload_n 1, 1) := by decide +kernel
theorem dM_join_31 : decode cM_join 31 = .ok (.iaload, 1) := by decide +kernel
theorem dM_join_32 : decode cM_join 32 = .ok (.invokevirtual 48, 3) := by decide +kernel
theorem dM_join_35 : decode cM_join 35 = .ok (.iinc 1 1, 3) := by decide +kernel
theorem dM_join_38 : decode cM_join 38 = .ok (.goto (-27), 3) := by decide +kernel
theorem dM_join_41 : decode cM_join 41 = .ok (.aload_n 0, 1) := by decide +kernel
theorem dM_join_42 : decode cM_join 42 = .ok (.invokevirtual 59, 3) := by decide +kernel
theorem dM_join_45 : decode cM_join 45 = .ok (.ireturn, 1) := by decide +kernel
theorem dM_standsFor_0 : decode cM_standsFor 0 = .ok (.iload_n 0, 1) := by decide +kernel
theorem dM_standsFor_1 : decode cM_standsFor 1 = .ok (.bipush 65, 2) := by decide +kernel
theorem dM_standsFor_3 : decode cM_standsFor 3 = .ok (.if_icmp .lt 9, 3) := by decide +kernel
theorem dM_standsFor_6 : decode cM_standsFor 6 = .ok (.iload_n 0, 1) := by decide +kernel
theorem dM_standsFor_7 : decode cM_standsFor 7 = .ok (.bipush 90, 2) := by decide +kernel
theorem dM_standsFor_9 : decode cM_standsFor 9 = .ok (.if_icmp .le 52, 3) := by decide +kernel
theorem dM_standsFor_12 : decode cM_standsFor 12 = .ok (.iload_n 0, 1) := by decide +kernel
theorem dM_standsFor_13 : decode cM_standsFor 13 = .ok (.sipush 192, 3) := by decide +kernel
theorem dM_standsFor_16 : decode cM_standsFor 16 = .ok (.if_icmp .lt 17, 3) := by decide +kernel
theorem dM_standsFor_19 : decode cM_standsFor 19 = .ok (.iload_n 0, 1) := by decide +kernel
theorem dM_standsFor_20 : decode cM_standsFor 20 = .ok (.sipush 222, 3) := by decide +kernel
theorem dM_standsFor_23 : decode cM_standsFor 23 = .ok (.if_icmp .gt 10, 3) := by decide +kernel
theorem dM_standsFor_26 : decode cM_standsFor 26 = .ok (.iload_n 0, 1) := by decide +kernel
theorem dM_standsFor_27 : decode cM_standsFor 27 = .ok (.sipush 215, 3) := by decide +kernel
theorem dM_standsFor_30 : decode cM_standsFor 30 = .ok (.if_icmp .ne 31, 3) := by decide +kernel
theorem dM_standsFor_33 : decode cM_standsFor 33 = .ok (.iload_n 0, 1) := by decide +kernel
theorem dM_standsFor_34 : decode cM_standsFor 34 = .ok (.sipush 913, 3) := by decide +kernel
theorem dM_standsFor_37 : decode cM_standsFor 37 = .ok (.if_icmp .lt 10, 3) := by decide +kernel
theorem dM_standsFor_40 : decode cM_standsFor 40 = .ok (.iload_n 0, 1) := by decide +kernel
theorem dM_standsFor_41 : decode cM_standsFor 41 = .ok (.sipush 937, 3) := by decide +kernel
theorem dM_standsFor_44 : decode cM_standsFor 44 = .ok (.if_icmp .le 17, 3) := by decide +kernel
theorem dM_standsFor_47 : decode cM_standsFor 47 = .ok (.iload_n 0, 1) := by decide +kernel
theorem dM_standsFor_48 : decode cM_standsFor 48 = .ok (.sipush 1040, 3) := by decide +kernel
theorem dM_standsFor_51 : decode cM_standsFor 51 = .ok (.if_icmp .lt 17, 3) := by decide +kernel
theorem dM_standsFor_54 : decode cM_standsFor 54 = .ok (.iload_n 0, 1) := by decide +kernel
theorem dM_standsFor_55 : decode cM_standsFor 55 = .ok (.sipush 1071, 3) := by decide +kernel
theorem dM_standsFor_58 : decode cM_standsFor 58 = .ok (.if_icmp .gt 10, 3) := by decide +kernel
theorem dM_standsFor_61 : decode cM_standsFor 61 = .ok (.iload_n 0, 1) := by decide +kernel
theorem dM_standsFor_62 : decode cM_standsFor 62 = .ok (.bipush 32, 2) := by decide +kernel
theorem dM_standsFor_64 : decode cM_standsFor 64 = .ok (.iadd, 1) := by decide +kernel
theorem dM_standsFor_65 : decode cM_standsFor 65 = .ok (.goto 25, 3) := by decide +kernel
theorem dM_standsFor_68 : decode cM_standsFor 68 = .ok (.iload_n 0, 1) := by decide +kernel
theorem dM_standsFor_69 : decode cM_standsFor 69 = .ok (.sipush 1024, 3) := by decide +kernel
theorem dM_standsFor_72 : decode cM_standsFor 72 = .ok (.if_icmp .lt 17, 3) := by decide +kernel
theorem dM_standsFor_75 : decode cM_standsFor 75 = .ok (.iload_n 0, 1) := by decide +kernel
theorem dM_standsFor_76 : decode cM_standsFor 76 = .ok (.sipush 1039, 3) := by decide +kernel
theorem dM_standsFor_79 : decode cM_standsFor 79 = .ok (.if_icmp .gt 10, 3) := by decide +kernel
theorem dM_standsFor_82 : decode cM_standsFor 82 = .ok (.iload_n 0, 1) := by decide +kernel
theorem dM_standsFor_83 : decode cM_standsFor 83 = .ok (.bipush 80, 2) := by decide +kernel
theorem dM_standsFor_85 : decode cM_standsFor 85 = .ok (.iadd, 1) := by decide +kernel
theorem dM_standsFor_86 : decode cM_standsFor 86 = .ok (.goto 4, 3) := by decide +kernel
theorem dM_standsFor_89 : decode cM_standsFor 89 = .ok (.iload_n 0, 1) := by decide +kernel
theorem dM_standsFor_90 : decode cM_standsFor 90 = .ok (.istore_n 1, 1) := by decide +kernel
theorem dM_standsFor_91 : decode cM_standsFor 91 = .ok (.iload_n 1, 1) := by decide +kernel
theorem dM_standsFor_92 : decode cM_standsFor 92 = .ok (.lookupswitch 70 #[(181, 62), (383, 55), (962, 66), (8490, 52), (8491, 58)], 52) := by decide +kernel
theorem dM_standsFor_144 : decode cM_standsFor 144 = .ok (.bipush 107, 2) := by decide +kernel
theorem dM_standsFor_146 : decode cM_standsFor 146 = .ok (.ireturn, 1) := by decide +kernel
theorem dM_standsFor_147 : decode cM_standsFor 147 = .ok (.bipush 115, 2) := by decide +kernel
theorem dM_standsFor_149 : decode cM_standsFor 149 = .ok (.ireturn, 1) := by decide +kernel
theorem dM_standsFor_150 : decode cM_standsFor 150 = .ok (.sipush 229, 3) := by decide +kernel
theorem dM_standsFor_153 : decode cM_standsFor 153 = .ok (.ireturn, 1) := by decide +kernel
theorem dM_standsFor_154 : decode cM_standsFor 154 = .ok (.sipush 956, 3) := by decide +kernel
theorem dM_standsFor_157 : decode cM_standsFor 157 = .ok (.ireturn, 1) := by decide +kernel
theorem dM_standsFor_158 : decode cM_standsFor 158 = .ok (.sipush 963, 3) := by decide +kernel
theorem dM_standsFor_161 : decode cM_standsFor 161 = .ok (.ireturn, 1) := by decide +kernel
theorem dM_standsFor_162 : decode cM_standsFor 162 = .ok (.iload_n 1, 1) := by decide +kernel
theorem dM_standsFor_163 : decode cM_standsFor 163 = .ok (.ireturn, 1) := by decide +kernel
theorem dM_isIn_0 : decode cM_isIn 0 = .ok (.iconst 0, 1) := by decide +kernel
theorem dM_isIn_1 : decode cM_isIn 1 = .ok (.istore_n 2, 1) := by decide +kernel
theorem dM_isIn_2 : decode cM_isIn 2 = .ok (.iconst 0, 1) := by decide +kernel
theorem dM_isIn_3 : decode cM_isIn 3 = .ok (.istore_n 3, 1) := by decide +kernel
theorem dM_isIn_4 : decode cM_isIn 4 = .ok (.iload_n 3, 1) := by decide +kernel
theorem dM_isIn_5 : decode cM_isIn 5 = .ok (.aload_n 0, 1) := by decide +kernel
theorem dM_isIn_6 : decode cM_isIn 6 = .ok (.getfield 45, 3) := by decide +kernel
theorem dM_isIn_9 : decode cM_isIn 9 = .ok (.if_icmp .ge 39, 3) := by decide +kernel
theorem dM_isIn_12 : decode cM_isIn 12 = .ok (.iload_n 2, 1) := by decide +kernel
theorem dM_isIn_13 : decode cM_isIn 13 = .ok (.ifCond .ne 23, 3) := by decide +kernel
theorem dM_isIn_16 : decode cM_isIn 16 = .ok (.iload_n 1, 1) := by decide +kernel
theorem dM_isIn_17 : decode cM_isIn 17 = .ok (.aload_n 0, 1) := by decide +kernel
theorem dM_isIn_18 : decode cM_isIn 18 = .ok (.getfield 7, 3) := by decide +kernel
theorem dM_isIn_21 : decode cM_isIn 21 = .ok (.iload_n 3, 1) := by decide +kernel
theorem dM_isIn_22 : decode cM_isIn 22 = .ok (.iaload, 1) := by decide +kernel
theorem dM_isIn_23 : decode cM_isIn 23 = .ok (.if_icmp .lt 17, 3) := by decide +kernel
theorem dM_isIn_26 : decode cM_isIn 26 = .ok (.iload_n 1, 1) := by decide +kernel
theorem dM_isIn_27 : decode cM_isIn 27 = .ok (.aload_n 0, 1) := by decide +kernel
theorem dM_isIn_28 : decode cM_isIn 28 = .ok (.getfield 13, 3) := by decide +kernel
theorem dM_isIn_31 : decode cM_isIn 31 = .ok (.iload_n 3, 1) := by decide +kernel
theorem dM_isIn_32 : decode cM_isIn 32 = .ok (.iaload, 1) := by decide +kernel
theorem dM_isIn_33 : decode cM_isIn 33 = .ok (.if_icmp .gt 7, 3) := by decide +kernel
theorem dM_isIn_36 : decode cM_isIn 36 = .ok (.iconst 1, 1) := by decide +kernel
theorem dM_isIn_37 : decode cM_isIn 37 = .ok (.goto 4, 3) := by decide +kernel
theorem dM_isIn_40 : decode cM_isIn 40 = .ok (.iconst 0, 1) := by decide +kernel
theorem dM_isIn_41 : decode cM_isIn 41 = .ok (.istore_n 2, 1) := by decide +kernel
theorem dM_isIn_42 : decode cM_isIn 42 = .ok (.iinc 3 1, 3) := by decide +kernel
theorem dM_isIn_45 : decode cM_isIn 45 = .ok (.goto (-41), 3) := by decide +kernel
theorem dM_isIn_48 : decode cM_isIn 48 = .ok (.iload_n 2, 1) := by decide +kernel
theorem dM_isIn_49 : decode cM_isIn 49 = .ok (.ireturn, 1) := by decide +kernel
theorem dM_fold_0 : decode cM_fold 0 = .ok (.aload_n 0, 1) := by decide +kernel
theorem dM_fold_1 : decode cM_fold 1 = .ok (.iconst 0, 1) := by decide +kernel
theorem dM_fold_2 : decode cM_fold 2 = .ok (.putfield 38, 3) := by decide +kernel
theorem dM_fold_5 : decode cM_fold 5 = .ok (.iconst 0, 1) := by decide +kernel
theorem dM_fold_6 : decode cM_fold 6 = .ok (.istore_n 1, 1) := by decide +kernel
theorem dM_fold_7 : decode cM_fold 7 = .ok (.iload_n 1, 1) := by decide +kernel
theorem dM_fold_8 : decode cM_fold 8 = .ok (.sipush 1120, 3) := by decide +kernel
theorem dM_fold_11 : decode cM_fold 11 = .ok (.if_icmp .ge 16, 3) := by decide +kernel
theorem dM_fold_14 : decode cM_fold 14 = .ok (.aload_n 0, 1) := by decide +kernel
theorem dM_fold_15 : decode cM_fold 15 = .ok (.getfield 28, 3) := by decide +kernel
theorem dM_fold_18 : decode cM_fold 18 = .ok (.iload_n 1, 1) := by decide +kernel
theorem dM_fold_19 : decode cM_fold 19 = .ok (.iconst 0, 1) := by decide +kernel
theorem dM_fold_20 : decode cM_fold 20 = .ok (.bastore, 1) := by decide +kernel
theorem dM_fold_21 : decode cM_fold 21 = .ok (.iinc 1 1, 3) := by decide +kernel
theorem dM_fold_24 : decode cM_fold 24 = .ok (.goto (-17), 3) := by decide +kernel
theorem dM_fold_27 : decode cM_fold 27 = .ok (.iconst 0, 1) := by decide +kernel
theorem dM_fold_28 : decode cM_fold 28 = .ok (.istore_n 1, 1) := by decide +kernel
theorem dM_fold_29 : decode cM_fold 29 = .ok (.iload_n 1, 1) := by decide +kernel
theorem dM_fold_30 : decode cM_fold 30 = .ok (.sipush 1120, 3) := by decide +kernel
theorem dM_fold_33 : decode cM_fold 33 = .ok (.if_icmp .ge 43, 3) := by decide +kernel
theorem dM_fold_36 : decode cM_fold 36 = .ok (.aload_n 0, 1) := by decide +kernel
theorem dM_fold_37 : decode cM_fold 37 = .ok (.getfield 28, 3) := by decide +kernel
theorem dM_fold_40 : decode cM_fold 40 = .ok (.iload_n 1, 1) := by decide +kernel
theorem dM_fold_41 : decode cM_fold 41 = .ok (.invokestatic 66, 3) := by decide +kernel
theorem dM_fold_44 : decode cM_fold 44 = .ok (.aload_n 0, 1) := by decide +kernel
theorem dM_fold_45 : decode cM_fold 45 = .ok (.getfield 28, 3) := by decide +kernel
theorem dM_fold_48 : decode cM_fold 48 = .ok (.iload_n 1, 1) := by decide +kernel
theorem dM_fold_49 : decode cM_fold 49 = .ok (.invokestatic 66, 3) := by decide +kernel
theorem dM_fold_52 : decode cM_fold 52 = .ok (.baload, 1) := by decide +kernel
theorem dM_fold_53 : decode cM_fold 53 = .ok (.ifCond .ne 11, 3) := by decide +kernel
theorem dM_fold_56 : decode cM_fold 56 = .ok (.aload_n 0, 1) := by decide +kernel
theorem dM_fold_57 : decode cM_fold 57 = .ok (.iload_n 1, 1) := by decide +kernel
theorem dM_fold_58 : decode cM_fold 58 = .ok (.invokevirtual 70, 3) := by decide +kernel
theorem dM_fold_61 : decode cM_fold 61 = .ok (.ifCond .eq 7, 3) := by decide +kernel
theorem dM_fold_64 : decode cM_fold 64 = .ok (.iconst 1, 1) := by decide +kernel
theorem dM_fold_65 : decode cM_fold 65 = .ok (.goto 4, 3) := by decide +kernel
theorem dM_fold_68 : decode cM_fold 68 = .ok (.iconst 0, 1) := by decide +kernel
theorem dM_fold_69 : decode cM_fold 69 = .ok (.bastore, 1) := by decide +kernel
theorem dM_fold_70 : decode cM_fold 70 = .ok (.iinc 1 1, 3) := by decide +kernel
theorem dM_fold_73 : decode cM_fold 73 = .ok (.goto (-44), 3) := by decide +kernel
theorem dM_fold_76 : decode cM_fold 76 = .ok (.aload_n 0, 1) := by decide +kernel
theorem dM_fold_77 : decode cM_fold 77 = .ok (.getfield 28, 3) := by decide +kernel
theorem dM_fold_80 : decode cM_fold 80 = .ok (.bipush 107, 2) := by decide +kernel
theorem dM_fold_82 : decode cM_fold 82 = .ok (.aload_n 0, 1) := by decide +kernel
theorem dM_fold_83 : decode cM_fold 83 = .ok (.getfield 28, 3) := by decide +kernel
theorem dM_fold_86 : decode cM_fold 86 = .ok (.bipush 107, 2) := by decide +kernel
theorem dM_fold_88 : decode cM_fold 88 = .ok (.baload, 1) := by decide +kernel
theorem dM_fold_89 : decode cM_fold 89 = .ok (.ifCond .ne 13, 3) := by decide +kernel
theorem dM_fold_92 : decode cM_fold 92 = .ok (.aload_n 0, 1) := by decide +kernel
theorem dM_fold_93 : decode cM_fold 93 = .ok (.sipush 8490, 3) := by decide +kernel
theorem dM_fold_96 : decode cM_fold 96 = .ok (.invokevirtual 70, 3) := by decide +kernel
theorem dM_fold_99 : decode cM_fold 99 = .ok (.ifCond .eq 7, 3) := by decide +kernel
theorem dM_fold_102 : decode cM_fold 102 = .ok (.iconst 1, 1) := by decide +kernel
theorem dM_fold_103 : decode cM_fold 103 = .ok (.goto 4, 3) := by decide +kernel
theorem dM_fold_106 : decode cM_fold 106 = .ok (.iconst 0, 1) := by decide +kernel
theorem dM_fold_107 : decode cM_fold 107 = .ok (.bastore, 1) := by decide +kernel
theorem dM_fold_108 : decode cM_fold 108 = .ok (.aload_n 0, 1) := by decide +kernel
theorem dM_fold_109 : decode cM_fold 109 = .ok (.getfield 28, 3) := by decide +kernel
theorem dM_fold_112 : decode cM_fold 112 = .ok (.sipush 229, 3) := by decide +kernel
theorem dM_fold_115 : decode cM_fold 115 = .ok (.aload_n 0, 1) := by decide +kernel
theorem dM_fold_116 : decode cM_fold 116 = .ok (.getfield 28, 3) := by decide +kernel
theorem dM_fold_119 : decode cM_fold 119 = .ok (.sipush 229, 3) := by decide +kernel
theorem dM_fold_122 : decode cM_fold 122 = .ok (.baload, 1) := by decide +kernel
theorem dM_fold_123 : decode cM_fold 123 = .ok (.ifCond .ne 13, 3) := by decide +kernel
theorem dM_fold_126 : decode cM_fold 126 = .ok (.aload_n 0, 1) := by decide +kernel
theorem dM_fold_127 : decode cM_fold 127 = .ok (.sipush 8491, 3) := by decide +kernel
theorem dM_fold_130 : decode cM_fold 130 = .ok (.invokevirtual 70, 3) := by decide +kernel
theorem dM_fold_133 : decode cM_fold 133 = .ok (.ifCond .eq 7, 3) := by decide +kernel
theorem dM_fold_136 : decode cM_fold 136 = .ok (.iconst 1, 1) := by decide +kernel
theorem dM_fold_137 : decode cM_fold 137 = .ok (.goto 4, 3) := by decide +kernel
theorem dM_fold_140 : decode cM_fold 140 = .ok (.iconst 0, 1) := by decide +kernel
theorem dM_fold_141 : decode cM_fold 141 = .ok (.bastore, 1) := by decide +kernel
theorem dM_fold_142 : decode cM_fold 142 = .ok (.aload_n 0, 1) := by decide +kernel
theorem dM_fold_143 : decode cM_fold 143 = .ok (.invokevirtual 53, 3) := by decide +kernel
theorem dM_fold_146 : decode cM_fold 146 = .ok (.iconst 0, 1) := by decide +kernel
theorem dM_fold_147 : decode cM_fold 147 = .ok (.istore_n 1, 1) := by decide +kernel
theorem dM_fold_148 : decode cM_fold 148 = .ok (.iload_n 1, 1) := by decide +kernel
theorem dM_fold_149 : decode cM_fold 149 = .ok (.sipush 1120, 3) := by decide +kernel
theorem dM_fold_152 : decode cM_fold 152 = .ok (.if_icmp .ge 27, 3) := by decide +kernel
theorem dM_fold_155 : decode cM_fold 155 = .ok (.aload_n 0, 1) := by decide +kernel
theorem dM_fold_156 : decode cM_fold 156 = .ok (.getfield 28, 3) := by decide +kernel
theorem dM_fold_159 : decode cM_fold 159 = .ok (.iload_n 1, 1) := by decide +kernel
theorem dM_fold_160 : decode cM_fold 160 = .ok (.invokestatic 66, 3) := by decide +kernel
theorem dM_fold_163 : decode cM_fold 163 = .ok (.baload, 1) := by decide +kernel
theorem dM_fold_164 : decode cM_fold 164 = .ok (.ifCond .eq 9, 3) := by decide +kernel
theorem dM_fold_167 : decode cM_fold 167 = .ok (.aload_n 0, 1) := by decide +kernel
theorem dM_fold_168 : decode cM_fold 168 = .ok (.iload_n 1, 1) := by decide +kernel
theorem dM_fold_169 : decode cM_fold 169 = .ok (.iload_n 1, 1) := by decide +kernel
theorem dM_fold_170 : decode cM_fold 170 = .ok (.invokevirtual 48, 3) := by decide +kernel
theorem dM_fold_173 : decode cM_fold 173 = .ok (.iinc 1 1, 3) := by decide +kernel
end
section
theorem dM_fold_176 : decode cM_fold 176 = .ok (.goto (-28), 3) := by decide +kernel
theorem dM_fold_179 : decode cM_fold 179 = .ok (.aload_n 0, 1) := by decide +kernel
theorem dM_fold_180 : decode cM_fold 180 = .ok (.aload_n 0, 1) := by decide +kernel
theorem dM_fold_181 : decode cM_fold 181 = .ok (.getfield 28, 3) := by decide +kernel
theorem dM_fold_184 : decode cM_fold 184 = .ok (.bipush 107, 2) := by decide +kernel
theorem dM_fold_186 : decode cM_fold 186 = .ok (.baload, 1) := by decide +kernel
theorem dM_fold_187 : decode cM_fold 187 = .ok (.ifCond .eq 9, 3) := by decide +kernel
theorem dM_fold_190 : decode cM_fold 190 = .ok (.sipush 8490, 3) := by decide +kernel
theorem dM_fold_193 : decode cM_fold 193 = .ok (.goto 6, 3) := by decide +kernel
theorem dM_fold_196 : decode cM_fold 196 = .ok (.sipush 8491, 3) := by decide +kernel
theorem dM_fold_199 : decode cM_fold 199 = .ok (.sipush 8490, 3) := by decide +kernel
theorem dM_fold_202 : decode cM_fold 202 = .ok (.invokevirtual 48, 3) := by decide +kernel
theorem dM_fold_205 : decode cM_fold 205 = .ok (.aload_n 0, 1) := by decide +kernel
theorem dM_fold_206 : decode cM_fold 206 = .ok (.aload_n 0, 1) := by decide +kernel
theorem dM_fold_207 : decode cM_fold 207 = .ok (.getfield 28, 3) := by decide +kernel
theorem dM_fold_210 : decode cM_fold 210 = .ok (.sipush 229, 3) := by decide +kernel
theorem dM_fold_213 : decode cM_fold 213 = .ok (.baload, 1) := by decide +kernel
theorem dM_fold_214 : decode cM_fold 214 = .ok (.ifCond .eq 9, 3) := by decide +kernel
theorem dM_fold_217 : decode cM_fold 217 = .ok (.sipush 8491, 3) := by decide +kernel
theorem dM_fold_220 : decode cM_fold 220 = .ok (.goto 6, 3) := by decide +kernel
theorem dM_fold_223 : decode cM_fold 223 = .ok (.sipush 8492, 3) := by decide +kernel
theorem dM_fold_226 : decode cM_fold 226 = .ok (.sipush 8491, 3) := by decide +kernel
theorem dM_fold_229 : decode cM_fold 229 = .ok (.invokevirtual 48, 3) := by decide +kernel
theorem dM_fold_232 : decode cM_fold 232 = .ok (.aload_n 0, 1) := by decide +kernel
theorem dM_fold_233 : decode cM_fold 233 = .ok (.invokevirtual 59, 3) := by decide +kernel
theorem dM_fold_236 : decode cM_fold 236 = .ok (.ireturn, 1) := by decide +kernel
theorem dM_has_0 : decode cM_has 0 = .ok (.aload_n 0, 1) := by decide +kernel
theorem dM_has_1 : decode cM_has 1 = .ok (.iconst 0, 1) := by decide +kernel
theorem dM_has_2 : decode cM_has 2 = .ok (.putfield 38, 3) := by decide +kernel
theorem dM_has_5 : decode cM_has 5 = .ok (.aload_n 0, 1) := by decide +kernel
theorem dM_has_6 : decode cM_has 6 = .ok (.iload_n 1, 1) := by decide +kernel
theorem dM_has_7 : decode cM_has 7 = .ok (.invokevirtual 70, 3) := by decide +kernel
theorem dM_has_10 : decode cM_has 10 = .ok (.ireturn, 1) := by decide +kernel
theorem dM_ranges_0 : decode cM_ranges 0 = .ok (.aload_n 0, 1) := by decide +kernel
theorem dM_ranges_1 : decode cM_ranges 1 = .ok (.iconst 0, 1) := by decide +kernel
theorem dM_ranges_2 : decode cM_ranges 2 = .ok (.putfield 38, 3) := by decide +kernel
theorem dM_ranges_5 : decode cM_ranges 5 = .ok (.aload_n 0, 1) := by decide +kernel
theorem dM_ranges_6 : decode cM_ranges 6 = .ok (.getfield 45, 3) := by decide +kernel
theorem dM_ranges_9 : decode cM_ranges 9 = .ok (.ireturn, 1) := by decide +kernel
theorem dM_range_0 : decode cM_range 0 = .ok (.aload_n 0, 1) := by decide +kernel
theorem dM_range_1 : decode cM_range 1 = .ok (.iconst 0, 1) := by decide +kernel
theorem dM_range_2 : decode cM_range 2 = .ok (.putfield 38, 3) := by decide +kernel
theorem dM_range_5 : decode cM_range 5 = .ok (.iload_n 1, 1) := by decide +kernel
theorem dM_range_6 : decode cM_range 6 = .ok (.ifCond .lt 11, 3) := by decide +kernel
theorem dM_range_9 : decode cM_range 9 = .ok (.iload_n 1, 1) := by decide +kernel
theorem dM_range_10 : decode cM_range 10 = .ok (.aload_n 0, 1) := by decide +kernel
theorem dM_range_11 : decode cM_range 11 = .ok (.getfield 45, 3) := by decide +kernel
theorem dM_range_14 : decode cM_range 14 = .ok (.if_icmp .lt 5, 3) := by decide +kernel
theorem dM_range_17 : decode cM_range 17 = .ok (.iconst (-1), 1) := by decide +kernel
theorem dM_range_18 : decode cM_range 18 = .ok (.ireturn, 1) := by decide +kernel
theorem dM_range_19 : decode cM_range 19 = .ok (.iload_n 2, 1) := by decide +kernel
theorem dM_range_20 : decode cM_range 20 = .ok (.ifCond .ne 12, 3) := by decide +kernel
theorem dM_range_23 : decode cM_range 23 = .ok (.aload_n 0, 1) := by decide +kernel
theorem dM_range_24 : decode cM_range 24 = .ok (.getfield 7, 3) := by decide +kernel
theorem dM_range_27 : decode cM_range 27 = .ok (.iload_n 1, 1) := by decide +kernel
theorem dM_range_28 : decode cM_range 28 = .ok (.iaload, 1) := by decide +kernel
theorem dM_range_29 : decode cM_range 29 = .ok (.goto 18, 3) := by decide +kernel
theorem dM_range_32 : decode cM_range 32 = .ok (.iload_n 2, 1) := by decide +kernel
theorem dM_range_33 : decode cM_range 33 = .ok (.iconst 1, 1) := by decide +kernel
theorem dM_range_34 : decode cM_range 34 = .ok (.if_icmp .ne 12, 3) := by decide +kernel
theorem dM_range_37 : decode cM_range 37 = .ok (.aload_n 0, 1) := by decide +kernel
theorem dM_range_38 : decode cM_range 38 = .ok (.getfield 13, 3) := by decide +kernel
theorem dM_range_41 : decode cM_range 41 = .ok (.iload_n 1, 1) := by decide +kernel
theorem dM_range_42 : decode cM_range 42 = .ok (.iaload, 1) := by decide +kernel
theorem dM_range_43 : decode cM_range 43 = .ok (.goto 4, 3) := by decide +kernel
theorem dM_range_46 : decode cM_range 46 = .ok (.iconst (-1), 1) := by decide +kernel
theorem dM_range_47 : decode cM_range 47 = .ok (.ireturn, 1) := by decide +kernel
theorem dM_length_0 : decode cM_length 0 = .ok (.iload_n 0, 1) := by decide +kernel
theorem dM_length_1 : decode cM_length 1 = .ok (.sipush 128, 3) := by decide +kernel
theorem dM_length_4 : decode cM_length 4 = .ok (.if_icmp .ge 7, 3) := by decide +kernel
theorem dM_length_7 : decode cM_length 7 = .ok (.iconst 1, 1) := by decide +kernel
theorem dM_length_8 : decode cM_length 8 = .ok (.goto 25, 3) := by decide +kernel
theorem dM_length_11 : decode cM_length 11 = .ok (.iload_n 0, 1) := by decide +kernel
theorem dM_length_12 : decode cM_length 12 = .ok (.sipush 2048, 3) := by decide +kernel
theorem dM_length_15 : decode cM_length 15 = .ok (.if_icmp .ge 7, 3) := by decide +kernel
theorem dM_length_18 : decode cM_length 18 = .ok (.iconst 2, 1) := by decide +kernel
theorem dM_length_19 : decode cM_length 19 = .ok (.goto 14, 3) := by decide +kernel
theorem dM_length_22 : decode cM_length 22 = .ok (.iload_n 0, 1) := by decide +kernel
theorem dM_length_23 : decode cM_length 23 = .ok (.ldc 74, 2) := by decide +kernel
theorem dM_length_25 : decode cM_length 25 = .ok (.if_icmp .ge 7, 3) := by decide +kernel
theorem dM_length_28 : decode cM_length 28 = .ok (.iconst 3, 1) := by decide +kernel
theorem dM_length_29 : decode cM_length 29 = .ok (.goto 4, 3) := by decide +kernel
theorem dM_length_32 : decode cM_length 32 = .ok (.iconst 4, 1) := by decide +kernel
theorem dM_length_33 : decode cM_length 33 = .ok (.ireturn, 1) := by decide +kernel
theorem dM_byteOf_0 : decode cM_byteOf 0 = .ok (.iload_n 0, 1) := by decide +kernel
theorem dM_byteOf_1 : decode cM_byteOf 1 = .ok (.invokestatic 75, 3) := by decide +kernel
theorem dM_byteOf_4 : decode cM_byteOf 4 = .ok (.istore_n 2, 1) := by decide +kernel
theorem dM_byteOf_5 : decode cM_byteOf 5 = .ok (.iload_n 0, 1) := by decide +kernel
theorem dM_byteOf_6 : decode cM_byteOf 6 = .ok (.bipush 6, 2) := by decide +kernel
theorem dM_byteOf_8 : decode cM_byteOf 8 = .ok (.iload_n 2, 1) := by decide +kernel
theorem dM_byteOf_9 : decode cM_byteOf 9 = .ok (.iconst 1, 1) := by decide +kernel
theorem dM_byteOf_10 : decode cM_byteOf 10 = .ok (.isub, 1) := by decide +kernel
theorem dM_byteOf_11 : decode cM_byteOf 11 = .ok (.iload_n 1, 1) := by decide +kernel
theorem dM_byteOf_12 : decode cM_byteOf 12 = .ok (.isub, 1) := by decide +kernel
theorem dM_byteOf_13 : decode cM_byteOf 13 = .ok (.imul, 1) := by decide +kernel
theorem dM_byteOf_14 : decode cM_byteOf 14 = .ok (.ishr, 1) := by decide +kernel
theorem dM_byteOf_15 : decode cM_byteOf 15 = .ok (.istore_n 3, 1) := by decide +kernel
theorem dM_byteOf_16 : decode cM_byteOf 16 = .ok (.iload_n 1, 1) := by decide +kernel
theorem dM_byteOf_17 : decode cM_byteOf 17 = .ok (.ifCond .le 12, 3) := by decide +kernel
theorem dM_byteOf_20 : decode cM_byteOf 20 = .ok (.sipush 128, 3) := by decide +kernel
theorem dM_byteOf_23 : decode cM_byteOf 23 = .ok (.iload_n 3, 1) := by decide +kernel
theorem dM_byteOf_24 : decode cM_byteOf 24 = .ok (.bipush 63, 2) := by decide +kernel
theorem dM_byteOf_26 : decode cM_byteOf 26 = .ok (.iand, 1) := by decide +kernel
theorem dM_byteOf_27 : decode cM_byteOf 27 = .ok (.ior, 1) := by decide +kernel
theorem dM_byteOf_28 : decode cM_byteOf 28 = .ok (.ireturn, 1) := by decide +kernel
theorem dM_byteOf_29 : decode cM_byteOf 29 = .ok (.iload_n 2, 1) := by decide +kernel
theorem dM_byteOf_30 : decode cM_byteOf 30 = .ok (.iconst 1, 1) := by decide +kernel
theorem dM_byteOf_31 : decode cM_byteOf 31 = .ok (.if_icmp .ne 7, 3) := by decide +kernel
theorem dM_byteOf_34 : decode cM_byteOf 34 = .ok (.iload_n 0, 1) := by decide +kernel
theorem dM_byteOf_35 : decode cM_byteOf 35 = .ok (.goto 34, 3) := by decide +kernel
theorem dM_byteOf_38 : decode cM_byteOf 38 = .ok (.iload_n 2, 1) := by decide +kernel
theorem dM_byteOf_39 : decode cM_byteOf 39 = .ok (.iconst 2, 1) := by decide +kernel
theorem dM_byteOf_40 : decode cM_byteOf 40 = .ok (.if_icmp .ne 11, 3) := by decide +kernel
theorem dM_byteOf_43 : decode cM_byteOf 43 = .ok (.sipush 192, 3) := by decide +kernel
theorem dM_byteOf_46 : decode cM_byteOf 46 = .ok (.iload_n 3, 1) := by decide +kernel
theorem dM_byteOf_47 : decode cM_byteOf 47 = .ok (.ior, 1) := by decide +kernel
theorem dM_byteOf_48 : decode cM_byteOf 48 = .ok (.goto 21, 3) := by decide +kernel
theorem dM_byteOf_51 : decode cM_byteOf 51 = .ok (.iload_n 2, 1) := by decide +kernel
theorem dM_byteOf_52 : decode cM_byteOf 52 = .ok (.iconst 3, 1) := by decide +kernel
theorem dM_byteOf_53 : decode cM_byteOf 53 = .ok (.if_icmp .ne 11, 3) := by decide +kernel
theorem dM_byteOf_56 : decode cM_byteOf 56 = .ok (.sipush 224, 3) := by decide +kernel
theorem dM_byteOf_59 : decode cM_byteOf 59 = .ok (.iload_n 3, 1) := by decide +kernel
theorem dM_byteOf_60 : decode cM_byteOf 60 = .ok (.ior, 1) := by decide +kernel
theorem dM_byteOf_61 : decode cM_byteOf 61 = .ok (.goto 8, 3) := by decide +kernel
theorem dM_byteOf_64 : decode cM_byteOf 64 = .ok (.sipush 240, 3) := by decide +kernel
theorem dM_byteOf_67 : decode cM_byteOf 67 = .ok (.iload_n 3, 1) := by decide +kernel
theorem dM_byteOf_68 : decode cM_byteOf 68 = .ok (.ior, 1) := by decide +kernel
theorem dM_byteOf_69 : decode cM_byteOf 69 = .ok (.ireturn, 1) := by decide +kernel
theorem dM_isRow_0 : decode cM_isRow 0 = .ok (.aload_n 0, 1) := by decide +kernel
theorem dM_isRow_1 : decode cM_isRow 1 = .ok (.iload_n 1, 1) := by decide +kernel
theorem dM_isRow_2 : decode cM_isRow 2 = .ok (.invokestatic 75, 3) := by decide +kernel
theorem dM_isRow_5 : decode cM_isRow 5 = .ok (.putfield 78, 3) := by decide +kernel
theorem dM_isRow_8 : decode cM_isRow 8 = .ok (.iload_n 2, 1) := by decide +kernel
theorem dM_isRow_9 : decode cM_isRow 9 = .ok (.invokestatic 75, 3) := by decide +kernel
theorem dM_isRow_12 : decode cM_isRow 12 = .ok (.aload_n 0, 1) := by decide +kernel
theorem dM_isRow_13 : decode cM_isRow 13 = .ok (.getfield 78, 3) := by decide +kernel
theorem dM_isRow_16 : decode cM_isRow 16 = .ok (.if_icmp .eq 5, 3) := by decide +kernel
theorem dM_isRow_19 : decode cM_isRow 19 = .ok (.iconst 0, 1) := by decide +kernel
theorem dM_isRow_20 : decode cM_isRow 20 = .ok (.ireturn, 1) := by decide +kernel
theorem dM_isRow_21 : decode cM_isRow 21 = .ok (.iconst 1, 1) := by decide +kernel
theorem dM_isRow_22 : decode cM_isRow 22 = .ok (.istore_n 3, 1) := by decide +kernel
theorem dM_isRow_23 : decode cM_isRow 23 = .ok (.iconst 1, 1) := by decide +kernel
theorem dM_isRow_24 : decode cM_isRow 24 = .ok (.istore 4, 2) := by decide +kernel
theorem dM_isRow_26 : decode cM_isRow 26 = .ok (.iconst 0, 1) := by decide +kernel
theorem dM_isRow_27 : decode cM_isRow 27 = .ok (.istore 5, 2) := by decide +kernel
theorem dM_isRow_29 : decode cM_isRow 29 = .ok (.iload 5, 2) := by decide +kernel
theorem dM_isRow_31 : decode cM_isRow 31 = .ok (.aload_n 0, 1) := by decide +kernel
theorem dM_isRow_32 : decode cM_isRow 32 = .ok (.getfield 78, 3) := by decide +kernel
theorem dM_isRow_35 : decode cM_isRow 35 = .ok (.if_icmp .ge 104, 3) := by decide +kernel
theorem dM_isRow_38 : decode cM_isRow 38 = .ok (.aload_n 0, 1) := by decide +kernel
theorem dM_isRow_39 : decode cM_isRow 39 = .ok (.getfield 32, 3) := by decide +kernel
theorem dM_isRow_42 : decode cM_isRow 42 = .ok (.iload 5, 2) := by decide +kernel
theorem dM_isRow_44 : decode cM_isRow 44 = .ok (.iload_n 3, 1) := by decide +kernel
theorem dM_isRow_45 : decode cM_isRow 45 = .ok (.ifCond .eq 12, 3) := by decide +kernel
theorem dM_isRow_48 : decode cM_isRow 48 = .ok (.iload_n 1, 1) := by decide +kernel
theorem dM_isRow_49 : decode cM_isRow 49 = .ok (.iload 5, 2) := by decide +kernel
theorem dM_isRow_51 : decode cM_isRow 51 = .ok (.invokestatic 81, 3) := by decide +kernel
theorem dM_isRow_54 : decode cM_isRow 54 = .ok (.goto 6, 3) := by decide +kernel
theorem dM_isRow_57 : decode cM_isRow 57 = .ok (.sipush 128, 3) := by decide +kernel
theorem dM_isRow_60 : decode cM_isRow 60 = .ok (.iastore, 1) := by decide +kernel
theorem dM_isRow_61 : decode cM_isRow 61 = .ok (.aload_n 0, 1) := by decide +kernel
theorem dM_isRow_62 : decode cM_isRow 62 = .ok (.getfield 35, 3) := by decide +kernel
theorem dM_isRow_65 : decode cM_isRow 65 = .ok (.iload 5, 2) := by decide +kernel
theorem dM_isRow_67 : decode cM_isRow 67 = .ok (.iload_n 3, 1) := by decide +kernel
theorem dM_isRow_68 : decode cM_isRow 68 = .ok (.ifCond .eq 12, 3) := by decide +kernel
theorem dM_isRow_71 : decode cM_isRow 71 = .ok (.iload_n 2, 1) := by decide +kernel
theorem dM_isRow_72 : decode cM_isRow 72 = .ok (.iload 5, 2) := by decide +kernel
theorem dM_isRow_74 : decode cM_isRow 74 = .ok (.invokestatic 81, 3) := by decide +kernel
theorem dM_isRow_77 : decode cM_isRow 77 = .ok (.goto 6, 3) := by decide +kernel
theorem dM_isRow_80 : decode cM_isRow 80 = .ok (.sipush 191, 3) := by decide +kernel
theorem dM_isRow_83 : decode cM_isRow 83 = .ok (.iastore, 1) := by decide +kernel
theorem dM_isRow_84 : decode cM_isRow 84 = .ok (.iload 4, 2) := by decide +kernel
theorem dM_isRow_86 : decode cM_isRow 86 = .ok (.aload_n 0, 1) := by decide +kernel
theorem dM_isRow_87 : decode cM_isRow 87 = .ok (.getfield 35, 3) := by decide +kernel
theorem dM_isRow_90 : decode cM_isRow 90 = .ok (.iload 5, 2) := by decide +kernel
theorem dM_isRow_92 : decode cM_isRow 92 = .ok (.iaload, 1) := by decide +kernel
theorem dM_isRow_93 : decode cM_isRow 93 = .ok (.aload_n 0, 1) := by decide +kernel
theorem dM_isRow_94 : decode cM_isRow 94 = .ok (.getfield 32, 3) := by decide +kernel
theorem dM_isRow_97 : decode cM_isRow 97 = .ok (.iload 5, 2) := by decide +kernel
theorem dM_isRow_99 : decode cM_isRow 99 = .ok (.iaload, 1) := by decide +kernel
theorem dM_isRow_100 : decode cM_isRow 100 = .ok (.isub, 1) := by decide +kernel
theorem dM_isRow_101 : decode cM_isRow 101 = .ok (.iconst 1, 1) := by decide +kernel
theorem dM_isRow_102 : decode cM_isRow 102 = .ok (.iadd, 1) := by decide +kernel
theorem dM_isRow_103 : decode cM_isRow 103 = .ok (.imul, 1) := by decide +kernel
theorem dM_isRow_104 : decode cM_isRow 104 = .ok (.istore 4, 2) := by decide +kernel
theorem dM_isRow_106 : decode cM_isRow 106 = .ok (.iload_n 3, 1) := by decide +kernel
theorem dM_isRow_107 : decode cM_isRow 107 = .ok (.ifCond .eq 24, 3) := by decide +kernel
theorem dM_isRow_110 : decode cM_isRow 110 = .ok (.aload_n 0, 1) := by decide +kernel
theorem dM_isRow_111 : decode cM_isRow 111 = .ok (.getfield 32, 3) := by decide +kernel
theorem dM_isRow_114 : decode cM_isRow 114 = .ok (.iload 5, 2) := by decide +kernel
theorem dM_isRow_116 : decode cM_isRow 116 = .ok (.iaload, 1) := by decide +kernel
theorem dM_isRow_117 : decode cM_isRow 117 = .ok (.aload_n 0, 1) := by decide +kernel
theorem dM_isRow_118 : decode cM_isRow 118 = .ok (.getfield 35, 3) := by decide +kernel
theorem dM_isRow_121 : decode cM_isRow 121 = .ok (.iload 5, 2) := by decide +kernel
theorem dM_isRow_123 : decode cM_isRow 123 = .ok (.iaload, 1) := by decide +kernel
theorem dM_isRow_124 : decode cM_isRow 124 = .ok (.if_icmp .ne 7, 3) := by decide +kernel
theorem dM_isRow_127 : decode cM_isRow 127 = .ok (.iconst 1, 1) := by decide +kernel
theorem dM_isRow_128 : decode cM_isRow 128 = .ok (.goto 4, 3) := by decide +kernel
theorem dM_isRow_131 : decode cM_isRow 131 = .ok (.iconst 0, 1) := by decide +kernel
theorem dM_isRow_132 : decode cM_isRow 132 = .ok (.istore_n 3, 1) := by decide +kernel
theorem dM_isRow_133 : decode cM_isRow 133 = .ok (.iinc 5 1, 3) := by decide +kernel
theorem dM_isRow_136 : decode cM_isRow 136 = .ok (.goto (-107), 3) := by decide +kernel
theorem dM_isRow_139 : decode cM_isRow 139 = .ok (.iload 4, 2) := by decide +kernel
theorem dM_isRow_141 : decode cM_isRow 141 = .ok (.iload_n 2, 1) := by decide +kernel
theorem dM_isRow_142 : decode cM_isRow 142 = .ok (.iload_n 1, 1) := by decide +kernel
theorem dM_isRow_143 : decode cM_isRow 143 = .ok (.isub, 1) := by decide +kernel
theorem dM_isRow_144 : decode cM_isRow 144 = .ok (.iconst 1, 1) := by decide +kernel
theorem dM_isRow_145 : decode cM_isRow 145 = .ok (.iadd, 1) := by decide +kernel
theorem dM_isRow_146 : decode cM_isRow 146 = .ok (.if_icmp .ne 7, 3) := by decide +kernel
theorem dM_isRow_149 : decode cM_isRow 149 = .ok (.iconst 1, 1) := by decide +kernel
theorem dM_isRow_150 : decode cM_isRow 150 = .ok (.goto 4, 3) := by decide +kernel
theorem dM_isRow_153 : decode cM_isRow 153 = .ok (.iconst 0, 1) := by decide +kernel
theorem dM_isRow_154 : decode cM_isRow 154 = .ok (.ireturn, 1) := by decide +kernel
theorem dM_runs_0 : decode cM_runs 0 = .ok (.iload_n 1, 1) := by decide +kernel
theorem dM_runs_1 : decode cM_runs 1 = .ok (.istore_n 3, 1) := by decide +kernel
theorem dM_runs_2 : decode cM_runs 2 = .ok (.iconst 0, 1) := by decide +kernel
theorem dM_runs_3 : decode cM_runs 3 = .ok (.istore 4, 2) := by decide +kernel
theorem dM_runs_5 : decode cM_runs 5 = .ok (.iload 4, 2) := by decide +kernel
theorem dM_runs_7 : decode cM_runs 7 = .ok (.iconst 4, 1) := by decide +kernel
theorem dM_runs_8 : decode cM_runs 8 = .ok (.if_icmp .ge 99, 3) := by decide +kernel
theorem dM_runs_11 : decode cM_runs 11 = .ok (.iload_n 1, 1) := by decide +kernel
theorem dM_runs_12 : decode cM_runs 12 = .ok (.iconst 1, 1) := by decide +kernel
theorem dM_runs_13 : decode cM_runs 13 = .ok (.bipush 6, 2) := by decide +kernel
theorem dM_runs_15 : decode cM_runs 15 = .ok (.iload 4, 2) := by decide +kernel
theorem dM_runs_17 : decode cM_runs 17 = .ok (.imul, 1) := by decide +kernel
theorem dM_runs_18 : decode cM_runs 18 = .ok (.ishl, 1) := by decide +kernel
theorem dM_runs_19 : decode cM_runs 19 = .ok (.iconst 1, 1) := by decide +kernel
theorem dM_runs_20 : decode cM_runs 20 = .ok (.isub, 1) := by decide +kernel
theorem dM_runs_21 : decode cM_runs 21 = .ok (.ior, 1) := by decide +kernel
theorem dM_runs_22 : decode cM_runs 22 = .ok (.istore 5, 2) := by decide +kernel
theorem dM_runs_24 : decode cM_runs 24 = .ok (.iload_n 2, 1) := by decide +kernel
theorem dM_runs_25 : decode cM_runs 25 = .ok (.iconst 1, 1) := by decide +kernel
theorem dM_runs_26 : decode cM_runs 26 = .ok (.iadd, 1) := by decide +kernel
theorem dM_runs_27 : decode cM_runs 27 = .ok (.bipush 6, 2) := by decide +kernel
theorem dM_runs_29 : decode cM_runs 29 = .ok (.iload 4, 2) := by decide +kernel
theorem dM_runs_31 : decode cM_runs 31 = .ok (.imul, 1) := by decide +kernel
theorem dM_runs_32 : decode cM_runs 32 = .ok (.ishr, 1) := by decide +kernel
theorem dM_runs_33 : decode cM_runs 33 = .ok (.bipush 6, 2) := by decide +kernel
theorem dM_runs_35 : decode cM_runs 35 = .ok (.iload 4, 2) := by decide +kernel
theorem dM_runs_37 : decode cM_runs 37 = .ok (.imul, 1) := by decide +kernel
theorem dM_runs_38 : decode cM_runs 38 = .ok (.ishl, 1) := by decide +kernel
theorem dM_runs_39 : decode cM_runs 39 = .ok (.iconst 1, 1) := by decide +kernel
theorem dM_runs_40 : decode cM_runs 40 = .ok (.isub, 1) := by decide +kernel
theorem dM_runs_41 : decode cM_runs 41 = .ok (.istore 6, 2) := by decide +kernel
theorem dM_runs_43 : decode cM_runs 43 = .ok (.iload 5, 2) := by decide +kernel
theorem dM_runs_45 : decode cM_runs 45 = .ok (.iload_n 3, 1) := by decide +kernel
theorem dM_runs_46 : decode cM_runs 46 = .ok (.if_icmp .le 24, 3) := by decide +kernel
theorem dM_runs_49 : decode cM_runs 49 = .ok (.iload 5, 2) := by decide +kernel
theorem dM_runs_51 : decode cM_runs 51 = .ok (.iload_n 2, 1) := by decide +kernel
theorem dM_runs_52 : decode cM_runs 52 = .ok (.if_icmp .gt 18, 3) := by decide +kernel
theorem dM_runs_55 : decode cM_runs 55 = .ok (.aload_n 0, 1) := by decide +kernel
theorem dM_runs_56 : decode cM_runs 56 = .ok (.iload_n 1, 1) := by decide +kernel
theorem dM_runs_57 : decode cM_runs 57 = .ok (.iload 5, 2) := by decide +kernel
theorem dM_runs_59 : decode cM_runs 59 = .ok (.invokevirtual 85, 3) := by decide +kernel
theorem dM_runs_62 : decode cM_runs 62 = .ok (.ifCond .eq 8, 3) := by decide +kernel
theorem dM_runs_65 : decode cM_runs 65 = .ok (.iload 5, 2) := by decide +kernel
theorem dM_runs_67 : decode cM_runs 67 = .ok (.goto 4, 3) := by decide +kernel
theorem dM_runs_70 : decode cM_runs 70 = .ok (.iload_n 3, 1) := by decide +kernel
theorem dM_runs_71 : decode cM_runs 71 = .ok (.istore_n 3, 1) := by decide +kernel
theorem dM_runs_72 : decode cM_runs 72 = .ok (.iload 6, 2) := by decide +kernel
theorem dM_runs_74 : decode cM_runs 74 = .ok (.iload_n 3, 1) := by decide +kernel
theorem dM_runs_75 : decode cM_runs 75 = .ok (.if_icmp .le 24, 3) := by decide +kernel
theorem dM_runs_78 : decode cM_runs 78 = .ok (.iload 6, 2) := by decide +kernel
theorem dM_runs_80 : decode cM_runs 80 = .ok (.iload_n 2, 1) := by decide +kernel
theorem dM_runs_81 : decode cM_runs 81 = .ok (.if_icmp .gt 18, 3) := by decide +kernel
theorem dM_runs_84 : decode cM_runs 84 = .ok (.aload_n 0, 1) := by decide +kernel
theorem dM_runs_85 : decode cM_runs 85 = .ok (.iload_n 1, 1) := by decide +kernel
theorem dM_runs_86 : decode cM_runs 86 = .ok (.iload 6, 2) := by decide +kernel
theorem dM_runs_88 : decode cM_runs 88 = .ok (.invokevirtual 85, 3) := by decide +kernel
theorem dM_runs_91 : decode cM_runs 91 = .ok (.ifCond .eq 8, 3) := by decide +kernel
theorem dM_runs_94 : decode cM_runs 94 = .ok (.iload 6, 2) := by decide +kernel
theorem dM_runs_96 : decode cM_runs 96 = .ok (.goto 4, 3) := by decide +kernel
theorem dM_runs_99 : decode cM_runs 99 = .ok (.iload_n 3, 1) := by decide +kernel
theorem dM_runs_100 : decode cM_runs 100 = .ok (.istore_n 3, 1) := by decide +kernel
theorem dM_runs_101 : decode cM_runs 101 = .ok (.iinc 4 1, 3) := by decide +kernel
theorem dM_runs_104 : decode cM_runs 104 = .ok (.goto (-99), 3) := by decide +kernel
theorem dM_runs_107 : decode cM_runs 107 = .ok (.iload_n 1, 1) := by decide +kernel
theorem dM_runs_108 : decode cM_runs 108 = .ok (.invokestatic 75, 3) := by decide +kernel
theorem dM_runs_111 : decode cM_runs 111 = .ok (.iconst 1, 1) := by decide +kernel
theorem dM_runs_112 : decode cM_runs 112 = .ok (.if_icmp .ne 8, 3) := by decide +kernel
theorem dM_runs_115 : decode cM_runs 115 = .ok (.bipush 127, 2) := by decide +kernel
theorem dM_runs_117 : decode cM_runs 117 = .ok (.goto 32, 3) := by decide +kernel
theorem dM_runs_120 : decode cM_runs 120 = .ok (.iload_n 1, 1) := by decide +kernel
theorem dM_runs_121 : decode cM_runs 121 = .ok (.invokestatic 75, 3) := by decide +kernel
theorem dM_runs_124 : decode cM_runs 124 = .ok (.iconst 2, 1) := by decide +kernel
theorem dM_runs_125 : decode cM_runs 125 = .ok (.if_icmp .ne 9, 3) := by decide +kernel
theorem dM_runs_128 : decode cM_runs 128 = .ok (.sipush 2047, 3) := by decide +kernel
theorem dM_runs_131 : decode cM_runs 131 = .ok (.goto 18, 3) := by decide +kernel
theorem dM_runs_134 : decode cM_runs 134 = .ok (.iload_n 1, 1) := by decide +kernel
theorem dM_runs_135 : decode cM_runs 135 = .ok (.invokestatic 75, 3) := by decide +kernel
theorem dM_runs_138 : decode cM_runs 138 = .ok (.iconst 3, 1) := by decide +kernel
theorem dM_runs_139 : decode cM_runs 139 = .ok (.if_icmp .ne 8, 3) := by decide +kernel
theorem dM_runs_142 : decode cM_runs 142 = .ok (.ldc 89, 2) := by decide +kernel
theorem dM_runs_144 : decode cM_runs 144 = .ok (.goto 5, 3) := by decide +kernel
theorem dM_runs_147 : decode cM_runs 147 = .ok (.ldc 52, 2) := by decide +kernel
theorem dM_runs_149 : decode cM_runs 149 = .ok (.istore 4, 2) := by decide +kernel
theorem dM_runs_151 : decode cM_runs 151 = .ok (.iconst 0, 1) := by decide +kernel
theorem dM_runs_152 : decode cM_runs 152 = .ok (.istore 5, 2) := by decide +kernel
theorem dM_runs_154 : decode cM_runs 154 = .ok (.iload 5, 2) := by decide +kernel
theorem dM_runs_156 : decode cM_runs 156 = .ok (.iconst 4, 1) := by decide +kernel
theorem dM_runs_157 : decode cM_runs 157 = .ok (.if_icmp .ge 58, 3) := by decide +kernel
theorem dM_runs_160 : decode cM_runs 160 = .ok (.iload 4, 2) := by decide +kernel
theorem dM_runs_162 : decode cM_runs 162 = .ok (.iconst 1, 1) := by decide +kernel
theorem dM_runs_163 : decode cM_runs 163 = .ok (.iadd, 1) := by decide +kernel
theorem dM_runs_164 : decode cM_runs 164 = .ok (.bipush 6, 2) := by decide +kernel
theorem dM_runs_166 : decode cM_runs 166 = .ok (.iload 5, 2) := by decide +kernel
theorem dM_runs_168 : decode cM_runs 168 = .ok (.imul, 1) := by decide +kernel
theorem dM_runs_169 : decode cM_runs 169 = .ok (.ishr, 1) := by decide +kernel
theorem dM_runs_170 : decode cM_runs 170 = .ok (.bipush 6, 2) := by decide +kernel
theorem dM_runs_172 : decode cM_runs 172 = .ok (.iload 5, 2) := by decide +kernel
theorem dM_runs_174 : decode cM_runs 174 = .ok (.imul, 1) := by decide +kernel
theorem dM_runs_175 : decode cM_runs 175 = .ok (.ishl, 1) := by decide +kernel
theorem dM_runs_176 : decode cM_runs 176 = .ok (.iconst 1, 1) := by decide +kernel
theorem dM_runs_177 : decode cM_runs 177 = .ok (.isub, 1) := by decide +kernel
theorem dM_runs_178 : decode cM_runs 178 = .ok (.istore 6, 2) := by decide +kernel
theorem dM_runs_180 : decode cM_runs 180 = .ok (.iload 6, 2) := by decide +kernel
theorem dM_runs_182 : decode cM_runs 182 = .ok (.iload_n 3, 1) := by decide +kernel
theorem dM_runs_183 : decode cM_runs 183 = .ok (.if_icmp .le 24, 3) := by decide +kernel
theorem dM_runs_186 : decode cM_runs 186 = .ok (.iload 6, 2) := by decide +kernel
theorem dM_runs_188 : decode cM_runs 188 = .ok (.iload_n 2, 1) := by decide +kernel
theorem dM_runs_189 : decode cM_runs 189 = .ok (.if_icmp .gt 18, 3) := by decide +kernel
theorem dM_runs_192 : decode cM_runs 192 = .ok (.aload_n 0, 1) := by decide +kernel
theorem dM_runs_193 : decode cM_runs 193 = .ok (.iload_n 1, 1) := by decide +kernel
theorem dM_runs_194 : decode cM_runs 194 = .ok (.iload 6, 2) := by decide +kernel
theorem dM_runs_196 : decode cM_runs 196 = .ok (.invokevirtual 85, 3) := by decide +kernel
theorem dM_runs_199 : decode cM_runs 199 = .ok (.ifCond .eq 8, 3) := by decide +kernel
theorem dM_runs_202 : decode cM_runs 202 = .ok (.iload 6, 2) := by decide +kernel
theorem dM_runs_204 : decode cM_runs 204 = .ok (.goto 4, 3) := by decide +kernel
theorem dM_runs_207 : decode cM_runs 207 = .ok (.iload_n 3, 1) := by decide +kernel
theorem dM_runs_208 : decode cM_runs 208 = .ok (.istore_n 3, 1) := by decide +kernel
theorem dM_runs_209 : decode cM_runs 209 = .ok (.iinc 5 1, 3) := by decide +kernel
theorem dM_runs_212 : decode cM_runs 212 = .ok (.goto (-58), 3) := by decide +kernel
theorem dM_runs_215 : decode cM_runs 215 = .ok (.iload_n 3, 1) := by decide +kernel
theorem dM_runs_216 : decode cM_runs 216 = .ok (.ireturn, 1) := by decide +kernel
theorem dM_finds_0 : decode cM_finds 0 = .ok (.aload_n 0, 1) := by decide +kernel
theorem dM_finds_1 : decode cM_finds 1 = .ok (.iconst 0, 1) := by decide +kernel
theorem dM_finds_2 : decode cM_finds 2 = .ok (.putfield 90, 3) := by decide +kernel
theorem dM_finds_5 : decode cM_finds 5 = .ok (.iconst 0, 1) := by decide +kernel
theorem dM_finds_6 : decode cM_finds 6 = .ok (.istore_n 2, 1) := by decide +kernel
theorem dM_finds_7 : decode cM_finds 7 = .ok (.iload_n 2, 1) := by decide +kernel
theorem dM_finds_8 : decode cM_finds 8 = .ok (.aload_n 0, 1) := by decide +kernel
theorem dM_finds_9 : decode cM_finds 9 = .ok (.getfield 45, 3) := by decide +kernel
theorem dM_finds_12 : decode cM_finds 12 = .ok (.if_icmp .ge 73, 3) := by decide +kernel
theorem dM_finds_15 : decode cM_finds 15 = .ok (.aload_n 0, 1) := by decide +kernel
theorem dM_finds_16 : decode cM_finds 16 = .ok (.getfield 7, 3) := by decide +kernel
theorem dM_finds_19 : decode cM_finds 19 = .ok (.iload_n 2, 1) := by decide +kernel
theorem dM_finds_20 : decode cM_finds 20 = .ok (.iaload, 1) := by decide +kernel
theorem dM_finds_21 : decode cM_finds 21 = .ok (.istore_n 3, 1) := by decide +kernel
theorem dM_finds_22 : decode cM_finds 22 = .ok (.iload_n 3, 1) := by decide +kernel
theorem dM_finds_23 : decode cM_finds 23 = .ok (.aload_n 0, 1) := by decide +kernel
theorem dM_finds_24 : decode cM_finds 24 = .ok (.getfield 13, 3) := by decide +kernel
theorem dM_finds_27 : decode cM_finds 27 = .ok (.iload_n 2, 1) := by decide +kernel
theorem dM_finds_28 : decode cM_finds 28 = .ok (.iaload, 1) := by decide +kernel
theorem dM_finds_29 : decode cM_finds 29 = .ok (.if_icmp .gt 50, 3) := by decide +kernel
theorem dM_finds_32 : decode cM_finds 32 = .ok (.aload_n 0, 1) := by decide +kernel
theorem dM_finds_33 : decode cM_finds 33 = .ok (.iload_n 3, 1) := by decide +kernel
theorem dM_finds_34 : decode cM_finds 34 = .ok (.aload_n 0, 1) := by decide +kernel
theorem dM_finds_35 : decode cM_finds 35 = .ok (.getfield 13, 3) := by decide +kernel
theorem dM_finds_38 : decode cM_finds 38 = .ok (.iload_n 2, 1) := by decide +kernel
theorem dM_finds_39 : decode cM_finds 39 = .ok (.iaload, 1) := by decide +kernel
theorem dM_finds_40 : decode cM_finds 40 = .ok (.invokevirtual 93, 3) := by decide +kernel
theorem dM_finds_43 : decode cM_finds 43 = .ok (.istore 4, 2) := by decide +kernel
theorem dM_finds_45 : decode cM_finds 45 = .ok (.aload_n 0, 1) := by decide +kernel
theorem dM_finds_46 : decode cM_finds 46 = .ok (.getfield 90, 3) := by decide +kernel
theorem dM_finds_49 : decode cM_finds 49 = .ok (.iload_n 1, 1) := by decide +kernel
theorem dM_finds_50 : decode cM_finds 50 = .ok (.if_icmp .ne 11, 3) := by decide +kernel
theorem dM_finds_53 : decode cM_finds 53 = .ok (.aload_n 0, 1) := by decide +kernel
theorem dM_finds_54 : decode cM_finds 54 = .ok (.iload_n 3, 1) := by decide +kernel
theorem dM_finds_55 : decode cM_finds 55 = .ok (.iload 4, 2) := by decide +kernel
theorem dM_finds_57 : decode cM_finds 57 = .ok (.invokevirtual 85, 3) := by decide +kernel
theorem dM_finds_60 : decode cM_finds 60 = .ok (.ireturn, 1) := by decide +kernel
theorem dM_finds_61 : decode cM_finds 61 = .ok (.aload_n 0, 1) := by decide +kernel
theorem dM_finds_62 : decode cM_finds 62 = .ok (.dup, 1) := by decide +kernel
theorem dM_finds_63 : decode cM_finds 63 = .ok (.getfield 90, 3) := by decide +kernel
theorem dM_finds_66 : decode cM_finds 66 = .ok (.iconst 1, 1) := by decide +kernel
theorem dM_finds_67 : decode cM_finds 67 = .ok (.iadd, 1) := by decide +kernel
theorem dM_finds_68 : decode cM_finds 68 = .ok (.putfield 90, 3) := by decide +kernel
theorem dM_finds_71 : decode cM_finds 71 = .ok (.iload 4, 2) := by decide +kernel
theorem dM_finds_73 : decode cM_finds 73 = .ok (.iconst 1, 1) := by decide +kernel
theorem dM_finds_74 : decode cM_finds 74 = .ok (.iadd, 1) := by decide +kernel
theorem dM_finds_75 : decode cM_finds 75 = .ok (.istore_n 3, 1) := by decide +kernel
theorem dM_finds_76 : decode cM_finds 76 = .ok (.goto (-54), 3) := by decide +kernel
theorem dM_finds_79 : decode cM_finds 79 = .ok (.iinc 2 1, 3) := by decide +kernel
theorem dM_finds_82 : decode cM_finds 82 = .ok (.goto (-75), 3) := by decide +kernel
theorem dM_finds_85 : decode cM_finds 85 = .ok (.iconst 0, 1) := by decide +kernel
theorem dM_finds_86 : decode cM_finds 86 = .ok (.ireturn, 1) := by decide +kernel
theorem dM_rows_0 : decode cM_rows 0 = .ok (.aload_n 0, 1) := by decide +kernel
theorem dM_rows_1 : decode cM_rows 1 = .ok (.iconst 0, 1) := by decide +kernel
theorem dM_rows_2 : decode cM_rows 2 = .ok (.putfield 38, 3) := by decide +kernel
theorem dM_rows_5 : decode cM_rows 5 = .ok (.aload_n 0, 1) := by decide +kernel
theorem dM_rows_6 : decode cM_rows 6 = .ok (.iconst (-1), 1) := by decide +kernel
theorem dM_rows_7 : decode cM_rows 7 = .ok (.invokevirtual 96, 3) := by decide +kernel
theorem dM_rows_10 : decode cM_rows 10 = .ok (.pop, 1) := by decide +kernel
theorem dM_rows_11 : decode cM_rows 11 = .ok (.aload_n 0, 1) := by decide +kernel
theorem dM_rows_12 : decode cM_rows 12 = .ok (.getfield 90, 3) := by decide +kernel
theorem dM_rows_15 : decode cM_rows 15 = .ok (.ireturn, 1) := by decide +kernel
theorem dM_row_0 : decode cM_row 0 = .ok (.aload_n 0, 1) := by decide +kernel
theorem dM_row_1 : decode cM_row 1 = .ok (.iconst 0, 1) := by decide +kernel
theorem dM_row_2 : decode cM_row 2 = .ok (.putfield 38, 3) := by decide +kernel
theorem dM_row_5 : decode cM_row 5 = .ok (.iload_n 1, 1) := by decide +kernel
theorem dM_row_6 : decode cM_row 6 = .ok (.ifCond .lt 23, 3) := by decide +kernel
theorem dM_row_9 : decode cM_row 9 = .ok (.aload_n 0, 1) := by decide +kernel
theorem dM_row_10 : decode cM_row 10 = .ok (.iload_n 1, 1) := by decide +kernel
theorem dM_row_11 : decode cM_row 11 = .ok (.invokevirtual 96, 3) := by decide +kernel
theorem dM_row_14 : decode cM_row 14 = .ok (.ifCond .eq 15, 3) := by decide +kernel
theorem dM_row_17 : decode cM_row 17 = .ok (.iload_n 2, 1) := by decide +kernel
theorem dM_row_18 : decode cM_row 18 = .ok (.ifCond .lt 11, 3) := by decide +kernel
theorem dM_row_21 : decode cM_row 21 = .ok (.iload_n 2, 1) := by decide +kernel
theorem dM_row_22 : decode cM_row 22 = .ok (.aload_n 0, 1) := by decide +kernel
theorem dM_row_23 : decode cM_row 23 = .ok (.getfield 78, 3) := by decide +kernel
theorem dM_row_26 : decode cM_row 26 = .ok (.if_icmp .le 5, 3) := by decide +kernel
theorem dM_row_29 : decode cM_row 29 = .ok (.iconst (-1), 1) := by decide +kernel
theorem dM_row_30 : decode cM_row 30 = .ok (.ireturn, 1) := by decide +kernel
theorem dM_row_31 : decode cM_row 31 = .ok (.iload_n 2, 1) := by decide +kernel
theorem dM_row_32 : decode cM_row 32 = .ok (.ifCond .ne 8, 3) := by decide +kernel
theorem dM_row_35 : decode cM_row 35 = .ok (.aload_n 0, 1) := by decide +kernel
theorem dM_row_36 : decode cM_row 36 = .ok (.getfield 78, 3) := by decide +kernel
theorem dM_row_39 : decode cM_row 39 = .ok (.ireturn, 1) := by decide +kernel
theorem dM_row_40 : decode cM_row 40 = .ok (.iload_n 3, 1) := by decide +kernel
theorem dM_row_41 : decode cM_row 41 = .ok (.ifCond .ne 14, 3) := by decide +kernel
theorem dM_row_44 : decode cM_row 44 = .ok (.aload_n 0, 1) := by decide +kernel
theorem dM_row_45 : decode cM_row 45 = .ok (.getfield 32, 3) := by decide +kernel
theorem dM_row_48 : decode cM_row 48 = .ok (.iload_n 2, 1) := by decide +kernel
theorem dM_row_49 : decode cM_row 49 = .ok (.iconst 1, 1) := by decide +kernel
theorem dM_row_50 : decode cM_row 50 = .ok (.isub, 1) := by decide +kernel
theorem dM_row_51 : decode cM_row 51 = .ok (.iaload, 1) := by decide +kernel
theorem dM_row_52 : decode cM_row 52 = .ok (.goto 20, 3) := by decide +kernel
theorem dM_row_55 : decode cM_row 55 = .ok (.iload_n 3, 1) := by decide +kernel
theorem dM_row_56 : decode cM_row 56 = .ok (.iconst 1, 1) := by decide +kernel
theorem dM_row_57 : decode cM_row 57 = .ok (.if_icmp .ne 14, 3) := by decide +kernel
theorem dM_row_60 : decode cM_row 60 = .ok (.aload_n 0, 1) := by decide +kernel
theorem dM_row_61 : decode cM_row 61 = .ok (.getfield 35, 3) := by decide +kernel
theorem dM_row_64 : decode cM_row 64 = .ok (.iload_n 2, 1) := by decide +kernel
theorem dM_row_65 : decode cM_row 65 = .ok (.iconst 1, 1) := by decide +kernel
theorem dM_row_66 : decode cM_row 66 = .ok (.isub, 1) := by decide +kernel
theorem dM_row_67 : decode cM_row 67 = .ok (.iaload, 1) := by decide +kernel
theorem dM_row_68 : decode cM_row 68 = .ok (.goto 4, 3) := by decide +kernel
theorem dM_row_71 : decode cM_row 71 = .ok (.iconst (-1), 1) := by decide +kernel
theorem dM_row_72 : decode cM_row 72 = .ok (.ireturn, 1) := by decide +kernel
theorem dM_takes_0 : decode cM_takes 0 = .ok (.aload_n 0, 1) := by decide +kernel
theorem dM_takes_1 : decode cM_takes 1 = .ok (.iconst 0, 1) := by decide +kernel
theorem dM_takes_2 : decode cM_takes 2 = .ok (.putfield 38, 3) := by decide +kernel
theorem dM_takes_5 : decode cM_takes 5 = .ok (.iload_n 2, 1) := by decide +kernel
theorem dM_takes_6 : decode cM_takes 6 = .ok (.iconst 1, 1) := by decide +kernel
theorem dM_takes_7 : decode cM_takes 7 = .ok (.if_icmp .lt 8, 3) := by decide +kernel
theorem dM_takes_10 : decode cM_takes 10 = .ok (.iload_n 2, 1) := by decide +kernel
theorem dM_takes_11 : decode cM_takes 11 = .ok (.iconst 4, 1) := by decide +kernel
theorem dM_takes_12 : decode cM_takes 12 = .ok (.if_icmp .le 5, 3) := by decide +kernel
theorem dM_takes_15 : decode cM_takes 15 = .ok (.iconst 0, 1) := by decide +kernel
theorem dM_takes_16 : decode cM_takes 16 = .ok (.ireturn, 1) := by decide +kernel
theorem dM_takes_17 : decode cM_takes 17 = .ok (.iload_n 1, 1) := by decide +kernel
theorem dM_takes_18 : decode cM_takes 18 = .ok (.bipush 24, 2) := by decide +kernel
theorem dM_takes_20 : decode cM_takes 20 = .ok (.ishr, 1) := by decide +kernel
theorem dM_takes_21 : decode cM_takes 21 = .ok (.sipush 255, 3) := by decide +kernel
theorem dM_takes_24 : decode cM_takes 24 = .ok (.iand, 1) := by decide +kernel
theorem dM_takes_25 : decode cM_takes 25 = .ok (.istore_n 3, 1) := by decide +kernel
theorem dM_takes_26 : decode cM_takes 26 = .ok (.iload_n 2, 1) := by decide +kernel
theorem dM_takes_27 : decode cM_takes 27 = .ok (.iconst 1, 1) := by decide +kernel
theorem dM_takes_28 : decode cM_takes 28 = .ok (.if_icmp .ne 7, 3) := by decide +kernel
theorem dM_takes_31 : decode cM_takes 31 = .ok (.iload_n 3, 1) := by decide +kernel
theorem dM_takes_32 : decode cM_takes 32 = .ok (.goto 34, 3) := by decide +kernel
theorem dM_takes_35 : decode cM_takes 35 = .ok (.iload_n 2, 1) := by decide +kernel
theorem dM_takes_36 : decode cM_takes 36 = .ok (.iconst 2, 1) := by decide +kernel
theorem dM_takes_37 : decode cM_takes 37 = .ok (.if_icmp .ne 11, 3) := by decide +kernel
theorem dM_takes_40 : decode cM_takes 40 = .ok (.iload_n 3, 1) := by decide +kernel
theorem dM_takes_41 : decode cM_takes 41 = .ok (.sipush 192, 3) := by decide +kernel
theorem dM_takes_44 : decode cM_takes 44 = .ok (.isub, 1) := by decide +kernel
theorem dM_takes_45 : decode cM_takes 45 = .ok (.goto 21, 3) := by decide +kernel
theorem dM_takes_48 : decode cM_takes 48 = .ok (.iload_n 2, 1) := by decide +kernel
theorem dM_takes_49 : decode cM_takes 49 = .ok (.iconst 3, 1) := by decide +kernel
theorem dM_takes_50 : decode cM_takes 50 = .ok (.if_icmp .ne 11, 3) := by decide +kernel
theorem dM_takes_53 : decode cM_takes 53 = .ok (.iload_n 3, 1) := by decide +kernel
theorem dM_takes_54 : decode cM_takes 54 = .ok (.sipush 224, 3) := by decide +kernel
theorem dM_takes_57 : decode cM_takes 57 = .ok (.isub, 1) := by decide +kernel
theorem dM_takes_58 : decode cM_takes 58 = .ok (.goto 8, 3) := by decide +kernel
theorem dM_takes_61 : decode cM_takes 61 = .ok (.iload_n 3, 1) := by decide +kernel
theorem dM_takes_62 : decode cM_takes 62 = .ok (.sipush 240, 3) := by decide +kernel
theorem dM_takes_65 : decode cM_takes 65 = .ok (.isub, 1) := by decide +kernel
theorem dM_takes_66 : decode cM_takes 66 = .ok (.istore 4, 2) := by decide +kernel
theorem dM_takes_68 : decode cM_takes 68 = .ok (.iload_n 2, 1) := by decide +kernel
theorem dM_takes_69 : decode cM_takes 69 = .ok (.iconst 1, 1) := by decide +kernel
theorem dM_takes_70 : decode cM_takes 70 = .ok (.if_icmp .ne 18, 3) := by decide +kernel
theorem dM_takes_73 : decode cM_takes 73 = .ok (.iload_n 3, 1) := by decide +kernel
theorem dM_takes_74 : decode cM_takes 74 = .ok (.sipush 128, 3) := by decide +kernel
theorem dM_takes_77 : decode cM_takes 77 = .ok (.if_icmp .ge 7, 3) := by decide +kernel
theorem dM_takes_80 : decode cM_takes 80 = .ok (.iconst 1, 1) := by decide +kernel
theorem dM_takes_81 : decode cM_takes 81 = .ok (.goto 44, 3) := by decide +kernel
theorem dM_takes_84 : decode cM_takes 84 = .ok (.iconst 0, 1) := by decide +kernel
theorem dM_takes_85 : decode cM_takes 85 = .ok (.goto 40, 3) := by decide +kernel
theorem dM_takes_88 : decode cM_takes 88 = .ok (.iload 4, 2) := by decide +kernel
theorem dM_takes_90 : decode cM_takes 90 = .ok (.ifCond .lt 34, 3) := by decide +kernel
theorem dM_takes_93 : decode cM_takes 93 = .ok (.iload 4, 2) := by decide +kernel
theorem dM_takes_95 : decode cM_takes 95 = .ok (.iload_n 2, 1) := by decide +kernel
theorem dM_takes_96 : decode cM_takes 96 = .ok (.iconst 2, 1) := by decide +kernel
theorem dM_takes_97 : decode cM_takes 97 = .ok (.if_icmp .ne 8, 3) := by decide +kernel
theorem dM_takes_100 : decode cM_takes 100 = .ok (.bipush 32, 2) := by decide +kernel
theorem dM_takes_102 : decode cM_takes 102 = .ok (.goto 15, 3) := by decide +kernel
theorem dM_takes_105 : decode cM_takes 105 = .ok (.iload_n 2, 1) := by decide +kernel
theorem dM_takes_106 : decode cM_takes 106 = .ok (.iconst 3, 1) := by decide +kernel
theorem dM_takes_107 : decode cM_takes 107 = .ok (.if_icmp .ne 8, 3) := by decide +kernel
theorem dM_takes_110 : decode cM_takes 110 = .ok (.bipush 16, 2) := by decide +kernel
theorem dM_takes_112 : decode cM_takes 112 = .ok (.goto 5, 3) := by decide +kernel
theorem dM_takes_115 : decode cM_takes 115 = .ok (.bipush 8, 2) := by decide +kernel
theorem dM_takes_117 : decode cM_takes 117 = .ok (.if_icmp .ge 7, 3) := by decide +kernel
theorem dM_takes_120 : decode cM_takes 120 = .ok (.iconst 1, 1) := by decide +kernel
theorem dM_takes_121 : decode cM_takes 121 = .ok (.goto 4, 3) := by decide +kernel
theorem dM_takes_124 : decode cM_takes 124 = .ok (.iconst 0, 1) := by decide +kernel
theorem dM_takes_125 : decode cM_takes 125 = .ok (.istore 5, 2) := by decide +kernel
theorem dM_takes_127 : decode cM_takes 127 = .ok (.iconst 1, 1) := by decide +kernel
theorem dM_takes_128 : decode cM_takes 128 = .ok (.istore 6, 2) := by decide +kernel
theorem dM_takes_130 : decode cM_takes 130 = .ok (.iload 6, 2) := by decide +kernel
theorem dM_takes_132 : decode cM_takes 132 = .ok (.iload_n 2, 1) := by decide +kernel
theorem dM_takes_133 : decode cM_takes 133 = .ok (.if_icmp .ge 66, 3) := by decide +kernel
theorem dM_takes_136 : decode cM_takes 136 = .ok (.iload_n 1, 1) := by decide +kernel
theorem dM_takes_137 : decode cM_takes 137 = .ok (.bipush 24, 2) := by decide +kernel
theorem dM_takes_139 : decode cM_takes 139 = .ok (.bipush 8, 2) := by decide +kernel
theorem dM_takes_141 : decode cM_takes 141 = .ok (.iload 6, 2) := by decide +kernel
theorem dM_takes_143 : decode cM_takes 143 = .ok (.imul, 1) := by decide +kernel
theorem dM_takes_144 : decode cM_takes 144 = .ok (.isub, 1) := by decide +kernel
theorem dM_takes_145 : decode cM_takes 145 = .ok (.ishr, 1) := by decide +kernel
theorem dM_takes_146 : decode cM_takes 146 = .ok (.sipush 255, 3) := by decide +kernel
theorem dM_takes_149 : decode cM_takes 149 = .ok (.iand, 1) := by decide +kernel
theorem dM_takes_150 : decode cM_takes 150 = .ok (.istore 7, 2) := by decide +kernel
theorem dM_takes_152 : decode cM_takes 152 = .ok (.iload 5, 2) := by decide +kernel
theorem dM_takes_154 : decode cM_takes 154 = .ok (.ifCond .eq 23, 3) := by decide +kernel
theorem dM_takes_157 : decode cM_takes 157 = .ok (.iload 7, 2) := by decide +kernel
theorem dM_takes_159 : decode cM_takes 159 = .ok (.sipush 128, 3) := by decide +kernel
theorem dM_takes_162 : decode cM_takes 162 = .ok (.if_icmp .lt 15, 3) := by decide +kernel
theorem dM_takes_165 : decode cM_takes 165 = .ok (.iload 7, 2) := by decide +kernel
theorem dM_takes_167 : decode cM_takes 167 = .ok (.sipush 192, 3) := by decide +kernel
theorem dM_takes_170 : decode cM_takes 170 = .ok (.if_icmp .ge 7, 3) := by decide +kernel
theorem dM_takes_173 : decode cM_takes 173 = .ok (.iconst 1, 1) := by decide +kernel
theorem dM_takes_174 : decode cM_takes 174 = .ok (.goto 4, 3) := by decide +kernel
theorem dM_takes_177 : decode cM_takes 177 = .ok (.iconst 0, 1) := by decide +kernel
theorem dM_takes_178 : decode cM_takes 178 = .ok (.istore 5, 2) := by decide +kernel
theorem dM_takes_180 : decode cM_takes 180 = .ok (.iload 4, 2) := by decide +kernel
theorem dM_takes_182 : decode cM_takes 182 = .ok (.bipush 64, 2) := by decide +kernel
theorem dM_takes_184 : decode cM_takes 184 = .ok (.imul, 1) := by decide +kernel
theorem dM_takes_185 : decode cM_takes 185 = .ok (.iload 7, 2) := by decide +kernel
theorem dM_takes_187 : decode cM_takes 187 = .ok (.bipush 63, 2) := by decide +kernel
theorem dM_takes_189 : decode cM_takes 189 = .ok (.iand, 1) := by decide +kernel
theorem dM_takes_190 : decode cM_takes 190 = .ok (.iadd, 1) := by decide +kernel
theorem dM_takes_191 : decode cM_takes 191 = .ok (.istore 4, 2) := by decide +kernel
theorem dM_takes_193 : decode cM_takes 193 = .ok (.iinc 6 1, 3) := by decide +kernel
theorem dM_takes_196 : decode cM_takes 196 = .ok (.goto (-66), 3) := by decide +kernel
theorem dM_takes_199 : decode cM_takes 199 = .ok (.iload 5, 2) := by decide +kernel
theorem dM_takes_201 : decode cM_takes 201 = .ok (.ifCond .eq 32, 3) := by decide +kernel
theorem dM_takes_204 : decode cM_takes 204 = .ok (.iload 4, 2) := by decide +kernel
theorem dM_takes_206 : decode cM_takes 206 = .ok (.ldc 52, 2) := by decide +kernel
theorem dM_takes_208 : decode cM_takes 208 = .ok (.if_icmp .gt 25, 3) := by decide +kernel
theorem dM_takes_211 : decode cM_takes 211 = .ok (.iload 4, 2) := by decide +kernel
theorem dM_takes_213 : decode cM_takes 213 = .ok (.invokestatic 75, 3) := by decide +kernel
theorem dM_takes_216 : decode cM_takes 216 = .ok (.iload_n 2, 1) := by decide +kernel
theorem dM_takes_217 : decode cM_takes 217 = .ok (.if_icmp .ne 16, 3) := by decide +kernel
theorem dM_takes_220 : decode cM_takes 220 = .ok (.aload_n 0, 1) := by decide +kernel
theorem dM_takes_221 : decode cM_takes 221 = .ok (.iload 4, 2) := by decide +kernel
theorem dM_takes_223 : decode cM_takes 223 = .ok (.invokevirtual 70, 3) := by decide +kernel
theorem dM_takes_226 : decode cM_takes 226 = .ok (.ifCond .eq 7, 3) := by decide +kernel
theorem dM_takes_229 : decode cM_takes 229 = .ok (.iconst 1, 1) := by decide +kernel
theorem dM_takes_230 : decode cM_takes 230 = .ok (.goto 4, 3) := by decide +kernel
theorem dM_takes_233 : decode cM_takes 233 = .ok (.iconst 0, 1) := by decide +kernel
theorem dM_takes_234 : decode cM_takes 234 = .ok (.ireturn, 1) := by decide +kernel
set_option maxRecDepth 20000 in
theorem gM_putsSet_M_puts : GoodIn wsM_putsSet (wsV RX2 48 RX2 yM_puts wsM_puts) := goodIn_app (goodIn_of _ (by decide +kernel)) (gM_of (by decide +kernel))
set_option maxRecDepth 20000 in
theorem gM_add_M_putsSet : GoodIn wsM_add (wsV RX2 53 RX2 yM_putsSet wsM_putsSet) := goodIn_app (goodIn_of _ (by decide +kernel)) (gM_of (by decide +kernel))
set_option maxRecDepth 20000 in
theorem gM_add_M_puts : GoodIn wsM_add (wsV RX2 48 RX2 yM_puts wsM_puts) := goodIn_app (goodIn_of _ (by decide +kernel)) (gM_of (by decide +kernel))
set_option maxRecDepth 20000 in
theorem gM_add_M_gathers : GoodIn wsM_add (wsV RX2 59 RX2 yM_gathers wsM_gathers) := goodIn_app (goodIn_of _ (by decide +kernel)) (gM_of (by decide +kernel))
set_option maxRecDepth 20000 in
theorem gM_turn_M_puts : GoodIn wsM_turn (wsV RX2 48 RX2 yM_puts wsM_puts) := goodIn_app (goodIn_of _ (by decide +kernel)) (gM_of (by decide +kernel))
set_option maxRecDepth 20000 in
theorem gM_turn_M_gathers : GoodIn wsM_turn (wsV RX2 59 RX2 yM_gathers wsM_gathers) := goodIn_app (goodIn_of _ (by decide +kernel)) (gM_of (by decide +kernel))
set_option maxRecDepth 20000 in
theorem gM_join_M_putsSet : GoodIn wsM_join (wsV RX2 53 RX2 yM_putsSet wsM_putsSet) := goodIn_app (goodIn_of _ (by decide +kernel)) (gM_of (by decide +kernel))
set_option maxRecDepth 20000 in
theorem gM_join_M_puts : GoodIn wsM_join (wsV RX2 48 RX2 yM_puts wsM_puts) := goodIn_app (goodIn_of _ (by decide +kernel)) (gM_of (by decide +kernel))
set_option maxRecDepth 20000 in
theorem gM_join_M_gathers : GoodIn wsM_join (wsV RX2 59 RX2 yM_gathers wsM_gathers) := goodIn_app (goodIn_of _ (by decide +kernel)) (gM_of (by decide +kernel))
set_option maxRecDepth 20000 in
theorem gM_fold_M_standsFor : GoodIn wsM_fold (va_wsS RX2 66 yM_standsFor wsM_standsFor) := goodIn_app (goodIn_of _ (by decide +kernel)) (gM_of (by decide +kernel))
set_option maxRecDepth 20000 in
theorem gM_fold_M_isIn : GoodIn wsM_fold (wsV RX2 70 RX2 yM_isIn wsM_isIn) := goodIn_app (goodIn_of _ (by decide +kernel)) (gM_of (by decide +kernel))
set_option maxRecDepth 20000 in
theorem gM_fold_M_putsSet : GoodIn wsM_fold (wsV RX2 53 RX2 yM_putsSet wsM_putsSet) := goodIn_app (goodIn_of _ (by decide +kernel)) (gM_of (by decide +kernel))
set_option maxRecDepth 20000 in
theorem gM_fold_M_puts : GoodIn wsM_fold (wsV RX2 48 RX2 yM_puts wsM_puts) := goodIn_app (goodIn_of _ (by decide +kernel)) (gM_of (by decide +kernel))
set_option maxRecDepth 20000 in
theorem gM_fold_M_gathers : GoodIn wsM_fold (wsV RX2 59 RX2 yM_gathers wsM_gathers) := goodIn_app (goodIn_of _ (by decide +kernel)) (gM_of (by decide +kernel))
set_option maxRecDepth 20000 in
theorem gM_has_M_isIn : GoodIn wsM_has (wsV RX2 70 RX2 yM_isIn wsM_isIn) := goodIn_app (goodIn_of _ (by decide +kernel)) (gM_of (by decide +kernel))
set_option maxRecDepth 20000 in
theorem gM_byteOf_M_length : GoodIn wsM_byteOf (va_wsS RX2 75 yM_length wsM_length) := goodIn_app (goodIn_of _ (by decide +kernel)) (gM_of (by decide +kernel))
set_option maxRecDepth 20000 in
theorem gM_isRow_M_length : GoodIn wsM_isRow (va_wsS RX2 75 yM_length wsM_length) := goodIn_app (goodIn_of _ (by decide +kernel)) (gM_of (by decide +kernel))
set_option maxRecDepth 20000 in
theorem gM_isRow_M_byteOf : GoodIn wsM_isRow (va_wsS RX2 81 yM_byteOf wsM_byteOf) := goodIn_app (goodIn_of _ (by decide +kernel)) (gM_of (by decide +kernel))
set_option maxRecDepth 20000 in
theorem gM_runs_M_isRow : GoodIn wsM_runs (wsV RX2 85 RX2 yM_isRow wsM_isRow) := goodIn_app (goodIn_of _ (by decide +kernel)) (gM_of (by decide +kernel))
set_option maxRecDepth 20000 in
theorem gM_runs_M_length : GoodIn wsM_runs (va_wsS RX2 75 yM_length wsM_length) := goodIn_app (goodIn_of _ (by decide +kernel)) (gM_of (by decide +kernel))
set_option maxRecDepth 20000 in
theorem gM_finds_M_runs : GoodIn wsM_finds (wsV RX2 93 RX2 yM_runs wsM_runs) := goodIn_app (goodIn_of _ (by decide +kernel)) (gM_of (by decide +kernel))
set_option maxRecDepth 20000 in
theorem gM_finds_M_isRow : GoodIn wsM_finds (wsV RX2 85 RX2 yM_isRow wsM_isRow) := goodIn_app (goodIn_of _ (by decide +kernel)) (gM_of (by decide +kernel))
set_option maxRecDepth 20000 in
theorem gM_rows_M_finds : GoodIn wsM_rows (wsV RX2 96 RX2 yM_finds wsM_finds) := goodIn_app (goodIn_of _ (by decide +kernel)) (gM_of (by decide +kernel))
set_option maxRecDepth 20000 in
theorem gM_row_M_finds : GoodIn wsM_row (wsV RX2 96 RX2 yM_finds wsM_finds) := goodIn_app (goodIn_of _ (by decide +kernel)) (gM_of (by decide +kernel))
set_option maxRecDepth 20000 in
theorem gM_takes_M_length : GoodIn wsM_takes (va_wsS RX2 75 yM_length wsM_length) := goodIn_app (goodIn_of _ (by decide +kernel)) (gM_of (by decide +kernel))
set_option maxRecDepth 20000 in
theorem gM_takes_M_isIn : GoodIn wsM_takes (wsV RX2 70 RX2 yM_isIn wsM_isIn) := goodIn_app (goodIn_of _ (by decide +kernel)) (gM_of (by decide +kernel))
end
section
/-! TOOLS: a rewritten top, loops, contracts over one world, calls and what comes back -/
theorem cr_top {p : Program} {l : Launch} {e : Env} {R : Room} {s : State} {m : MethodId} {args : Array Value} {below : List Frame} {meth : Method} {c : Code} {cells slots : Nat} {Q : State → Prop} {H : Heap} {locs : List Loc} {pc : Nat} {ls : Array Slot} {rest : List Value} {x y : Int32} (h : x = y) (k : W p l e R s m args below meth c H locs cells slots Q (F0 m pc ls (.int y :: rest))) : W p l e R s m args below meth c H locs cells slots Q (F0 m pc ls (.int x :: rest)) := by
  rw [h]
  exact k
theorem cr_topl {p : Program} {l : Launch} {e : Env} {R : Room} {s : State} {m : MethodId} {args : Array Value} {below : List Frame} {meth : Method} {c : Code} {cells slots : Nat} {Q : State → Prop} {H : Heap} {locs : List Loc} {pc : Nat} {ls : Array Slot} {rest : List Value} {x y : Int64} (h : x = y) (k : W p l e R s m args below meth c H locs cells slots Q (F0 m pc ls (.long y :: rest))) : W p l e R s m args below meth c H locs cells slots Q (F0 m pc ls (.long x :: rest)) := by
  rw [h]
  exact k
theorem cr_lp1 {p : Program} {l : Launch} {e : Env} {R : Room} {s : State} {m : MethodId} {args : Array Value} {below : List Frame} {meth : Method} {c : Code} {cells slots : Nat} {Q : State → Prop} {pc : Nat} {st : List Value} {A1 : Type} (μ : A1 → Nat) (I : A1 → Heap → List Loc → Array Slot → Prop)
    (hs : ∀ (a1 : A1) (H : Heap) (locs : List Loc) (ls : Array Slot), I a1 H locs ls → (∀ (b1 : A1) (H1 : Heap) (locs1 : List Loc) (ls1 : Array Slot), I b1 H1 locs1 ls1 → μ b1 < μ a1 → W p l e R s m args below meth c H1 locs1 cells slots Q (F0 m pc ls1 st)) → W p l e R s m args below meth c H locs cells slots Q (F0 m pc ls st))
    (a1 : A1) {H : Heap} {locs : List Loc} {ls : Array Slot} (h : I a1 H locs ls) : W p l e R s m args below meth c H locs cells slots Q (F0 m pc ls st) := by
  have key : ∀ (n : Nat) (a1 : A1) (H : Heap) (locs : List Loc) (ls : Array Slot), I a1 H locs ls → μ a1 < n → W p l e R s m args below meth c H locs cells slots Q (F0 m pc ls st) := by
    intro n
    induction n with
    | zero => intro a1 H locs ls _ h; exact absurd h (Nat.not_lt_zero _)
    | succ n ih => intro a1 H locs ls hI hn; exact hs a1 H locs ls hI (fun b1 H1 locs1 ls1 h1 h2 => ih b1 H1 locs1 ls1 h1 (Nat.lt_of_lt_of_le h2 (Nat.le_of_lt_succ hn)))
  exact key _ a1 H locs ls h (Nat.lt_succ_self _)
theorem cr_lp2 {p : Program} {l : Launch} {e : Env} {R : Room} {s : State} {m : MethodId} {args : Array Value} {below : List Frame} {meth : Method} {c : Code} {cells slots : Nat} {Q : State → Prop} {pc : Nat} {st : List Value} {A1 A2 : Type} (μ : A1 → A2 → Nat) (I : A1 → A2 → Heap → List Loc → Array Slot → Prop)
    (hs : ∀ (a1 : A1) (a2 : A2) (H : Heap) (locs : List Loc) (ls : Array Slot), I a1 a2 H locs ls → (∀ (b1 : A1) (b2 : A2) (H1 : Heap) (locs1 : List Loc) (ls1 : Array Slot), I b1 b2 H1 locs1 ls1 → μ b1 b2 < μ a1 a2 → W p l e R s m args below meth c H1 locs1 cells slots Q (F0 m pc ls1 st)) → W p l e R s m args below meth c H locs cells slots Q (F0 m pc ls st))
    (a1 : A1) (a2 : A2) {H : Heap} {locs : List Loc} {ls : Array Slot} (h : I a1 a2 H locs ls) : W p l e R s m args below meth c H locs cells slots Q (F0 m pc ls st) := by
  have key : ∀ (n : Nat) (a1 : A1) (a2 : A2) (H : Heap) (locs : List Loc) (ls : Array Slot), I a1 a2 H locs ls → μ a1 a2 < n → W p l e R s m args below meth c H locs cells slots Q (F0 m pc ls st) := by
    intro n
    induction n with
    | zero => intro a1 a2 H locs ls _ h; exact absurd h (Nat.not_lt_zero _)
    | succ n ih => intro a1 a2 H locs ls hI hn; exact hs a1 a2 H locs ls hI (fun b1 b2 H1 locs1 ls1 h1 h2 => ih b1 b2 H1 locs1 ls1 h1 (Nat.lt_of_lt_of_le h2 (Nat.le_of_lt_succ hn)))
  exact key _ a1 a2 H locs ls h (Nat.lt_succ_self _)
theorem cr_lp3 {p : Program} {l : Launch} {e : Env} {R : Room} {s : State} {m : MethodId} {args : Array Value} {below : List Frame} {meth : Method} {c : Code} {cells slots : Nat} {Q : State → Prop} {pc : Nat} {st : List Value} {A1 A2 A3 : Type} (μ : A1 → A2 → A3 → Nat) (I : A1 → A2 → A3 → Heap → List Loc → Array Slot → Prop)
    (hs : ∀ (a1 : A1) (a2 : A2) (a3 : A3) (H : Heap) (locs : List Loc) (ls : Array Slot), I a1 a2 a3 H locs ls → (∀ (b1 : A1) (b2 : A2) (b3 : A3) (H1 : Heap) (locs1 : List Loc) (ls1 : Array Slot), I b1 b2 b3 H1 locs1 ls1 → μ b1 b2 b3 < μ a1 a2 a3 → W p l e R s m args below meth c H1 locs1 cells slots Q (F0 m pc ls1 st)) → W p l e R s m args below meth c H locs cells slots Q (F0 m pc ls st))
    (a1 : A1) (a2 : A2) (a3 : A3) {H : Heap} {locs : List Loc} {ls : Array Slot} (h : I a1 a2 a3 H locs ls) : W p l e R s m args below meth c H locs cells slots Q (F0 m pc ls st) := by
  have key : ∀ (n : Nat) (a1 : A1) (a2 : A2) (a3 : A3) (H : Heap) (locs : List Loc) (ls : Array Slot), I a1 a2 a3 H locs ls → μ a1 a2 a3 < n → W p l e R s m args below meth c H locs cells slots Q (F0 m pc ls st) := by
    intro n
    induction n with
    | zero => intro a1 a2 a3 H locs ls _ h; exact absurd h (Nat.not_lt_zero _)
    | succ n ih => intro a1 a2 a3 H locs ls hI hn; exact hs a1 a2 a3 H locs ls hI (fun b1 b2 b3 H1 locs1 ls1 h1 h2 => ih b1 b2 b3 H1 locs1 ls1 h1 (Nat.lt_of_lt_of_le h2 (Nat.le_of_lt_succ hn)))
  exact key _ a1 a2 a3 H locs ls h (Nat.lt_succ_self _)
theorem cr_lp4 {p : Program} {l : Launch} {e : Env} {R : Room} {s : State} {m : MethodId} {args : Array Value} {below : List Frame} {meth : Method} {c : Code} {cells slots : Nat} {Q : State → Prop} {pc : Nat} {st : List Value} {A1 A2 A3 A4 : Type} (μ : A1 → A2 → A3 → A4 → Nat) (I : A1 → A2 → A3 → A4 → Heap → List Loc → Array Slot → Prop)
    (hs : ∀ (a1 : A1) (a2 : A2) (a3 : A3) (a4 : A4) (H : Heap) (locs : List Loc) (ls : Array Slot), I a1 a2 a3 a4 H locs ls → (∀ (b1 : A1) (b2 : A2) (b3 : A3) (b4 : A4) (H1 : Heap) (locs1 : List Loc) (ls1 : Array Slot), I b1 b2 b3 b4 H1 locs1 ls1 → μ b1 b2 b3 b4 < μ a1 a2 a3 a4 → W p l e R s m args below meth c H1 locs1 cells slots Q (F0 m pc ls1 st)) → W p l e R s m args below meth c H locs cells slots Q (F0 m pc ls st))
    (a1 : A1) (a2 : A2) (a3 : A3) (a4 : A4) {H : Heap} {locs : List Loc} {ls : Array Slot} (h : I a1 a2 a3 a4 H locs ls) : W p l e R s m args below meth c H locs cells slots Q (F0 m pc ls st) := by
  have key : ∀ (n : Nat) (a1 : A1) (a2 : A2) (a3 : A3) (a4 : A4) (H : Heap) (locs : List Loc) (ls : Array Slot), I a1 a2 a3 a4 H locs ls → μ a1 a2 a3 a4 < n → W p l e R s m args below meth c H locs cells slots Q (F0 m pc ls st) := by
    intro n
    induction n with
    | zero => intro a1 a2 a3 a4 H locs ls _ h; exact absurd h (Nat.not_lt_zero _)
    | succ n ih => intro a1 a2 a3 a4 H locs ls hI hn; exact hs a1 a2 a3 a4 H locs ls hI (fun b1 b2 b3 b4 H1 locs1 ls1 h1 h2 => ih b1 b2 b3 b4 H1 locs1 ls1 h1 (Nat.lt_of_lt_of_le h2 (Nat.le_of_lt_succ hn)))
  exact key _ a1 a2 a3 a4 H locs ls h (Nat.lt_succ_self _)
theorem cr_lp5 {p : Program} {l : Launch} {e : Env} {R : Room} {s : State} {m : MethodId} {args : Array Value} {below : List Frame} {meth : Method} {c : Code} {cells slots : Nat} {Q : State → Prop} {pc : Nat} {st : List Value} {A1 A2 A3 A4 A5 : Type} (μ : A1 → A2 → A3 → A4 → A5 → Nat) (I : A1 → A2 → A3 → A4 → A5 → Heap → List Loc → Array Slot → Prop)
    (hs : ∀ (a1 : A1) (a2 : A2) (a3 : A3) (a4 : A4) (a5 : A5) (H : Heap) (locs : List Loc) (ls : Array Slot), I a1 a2 a3 a4 a5 H locs ls → (∀ (b1 : A1) (b2 : A2) (b3 : A3) (b4 : A4) (b5 : A5) (H1 : Heap) (locs1 : List Loc) (ls1 : Array Slot), I b1 b2 b3 b4 b5 H1 locs1 ls1 → μ b1 b2 b3 b4 b5 < μ a1 a2 a3 a4 a5 → W p l e R s m args below meth c H1 locs1 cells slots Q (F0 m pc ls1 st)) → W p l e R s m args below meth c H locs cells slots Q (F0 m pc ls st))
    (a1 : A1) (a2 : A2) (a3 : A3) (a4 : A4) (a5 : A5) {H : Heap} {locs : List Loc} {ls : Array Slot} (h : I a1 a2 a3 a4 a5 H locs ls) : W p l e R s m args below meth c H locs cells slots Q (F0 m pc ls st) := by
  have key : ∀ (n : Nat) (a1 : A1) (a2 : A2) (a3 : A3) (a4 : A4) (a5 : A5) (H : Heap) (locs : List Loc) (ls : Array Slot), I a1 a2 a3 a4 a5 H locs ls → μ a1 a2 a3 a4 a5 < n → W p l e R s m args below meth c H locs cells slots Q (F0 m pc ls st) := by
    intro n
    induction n with
    | zero => intro a1 a2 a3 a4 a5 H locs ls _ h; exact absurd h (Nat.not_lt_zero _)
    | succ n ih => intro a1 a2 a3 a4 a5 H locs ls hI hn; exact hs a1 a2 a3 a4 a5 H locs ls hI (fun b1 b2 b3 b4 b5 H1 locs1 ls1 h1 h2 => ih b1 b2 b3 b4 b5 H1 locs1 ls1 h1 (Nat.lt_of_lt_of_le h2 (Nat.le_of_lt_succ hn)))
  exact key _ a1 a2 a3 a4 a5 H locs ls h (Nat.lt_succ_self _)
theorem cr_lp6 {p : Program} {l : Launch} {e : Env} {R : Room} {s : State} {m : MethodId} {args : Array Value} {below : List Frame} {meth : Method} {c : Code} {cells slots : Nat} {Q : State → Prop} {pc : Nat} {st : List Value} {A1 A2 A3 A4 A5 A6 : Type} (μ : A1 → A2 → A3 → A4 → A5 → A6 → Nat) (I : A1 → A2 → A3 → A4 → A5 → A6 → Heap → List Loc → Array Slot → Prop)
    (hs : ∀ (a1 : A1) (a2 : A2) (a3 : A3) (a4 : A4) (a5 : A5) (a6 : A6) (H : Heap) (locs : List Loc) (ls : Array Slot), I a1 a2 a3 a4 a5 a6 H locs ls → (∀ (b1 : A1) (b2 : A2) (b3 : A3) (b4 : A4) (b5 : A5) (b6 : A6) (H1 : Heap) (locs1 : List Loc) (ls1 : Array Slot), I b1 b2 b3 b4 b5 b6 H1 locs1 ls1 → μ b1 b2 b3 b4 b5 b6 < μ a1 a2 a3 a4 a5 a6 → W p l e R s m args below meth c H1 locs1 cells slots Q (F0 m pc ls1 st)) → W p l e R s m args below meth c H locs cells slots Q (F0 m pc ls st))
    (a1 : A1) (a2 : A2) (a3 : A3) (a4 : A4) (a5 : A5) (a6 : A6) {H : Heap} {locs : List Loc} {ls : Array Slot} (h : I a1 a2 a3 a4 a5 a6 H locs ls) : W p l e R s m args below meth c H locs cells slots Q (F0 m pc ls st) := by
  have key : ∀ (n : Nat) (a1 : A1) (a2 : A2) (a3 : A3) (a4 : A4) (a5 : A5) (a6 : A6) (H : Heap) (locs : List Loc) (ls : Array Slot), I a1 a2 a3 a4 a5 a6 H locs ls → μ a1 a2 a3 a4 a5 a6 < n → W p l e R s m args below meth c H locs cells slots Q (F0 m pc ls st) := by
    intro n
    induction n with
    | zero => intro a1 a2 a3 a4 a5 a6 H locs ls _ h; exact absurd h (Nat.not_lt_zero _)
    | succ n ih => intro a1 a2 a3 a4 a5 a6 H locs ls hI hn; exact hs a1 a2 a3 a4 a5 a6 H locs ls hI (fun b1 b2 b3 b4 b5 b6 H1 locs1 ls1 h1 h2 => ih b1 b2 b3 b4 b5 b6 H1 locs1 ls1 h1 (Nat.lt_of_lt_of_le h2 (Nat.le_of_lt_succ hn)))
  exact key _ a1 a2 a3 a4 a5 a6 H locs ls h (Nat.lt_succ_self _)
theorem cr_lp7 {p : Program} {l : Launch} {e : Env} {R : Room} {s : State} {m : MethodId} {args : Array Value} {below : List Frame} {meth : Method} {c : Code} {cells slots : Nat} {Q : State → Prop} {pc : Nat} {st : List Value} {A1 A2 A3 A4 A5 A6 A7 : Type} (μ : A1 → A2 → A3 → A4 → A5 → A6 → A7 → Nat) (I : A1 → A2 → A3 → A4 → A5 → A6 → A7 → Heap → List Loc → Array Slot → Prop)
    (hs : ∀ (a1 : A1) (a2 : A2) (a3 : A3) (a4 : A4) (a5 : A5) (a6 : A6) (a7 : A7) (H : Heap) (locs : List Loc) (ls : Array Slot), I a1 a2 a3 a4 a5 a6 a7 H locs ls → (∀ (b1 : A1) (b2 : A2) (b3 : A3) (b4 : A4) (b5 : A5) (b6 : A6) (b7 : A7) (H1 : Heap) (locs1 : List Loc) (ls1 : Array Slot), I b1 b2 b3 b4 b5 b6 b7 H1 locs1 ls1 → μ b1 b2 b3 b4 b5 b6 b7 < μ a1 a2 a3 a4 a5 a6 a7 → W p l e R s m args below meth c H1 locs1 cells slots Q (F0 m pc ls1 st)) → W p l e R s m args below meth c H locs cells slots Q (F0 m pc ls st))
    (a1 : A1) (a2 : A2) (a3 : A3) (a4 : A4) (a5 : A5) (a6 : A6) (a7 : A7) {H : Heap} {locs : List Loc} {ls : Array Slot} (h : I a1 a2 a3 a4 a5 a6 a7 H locs ls) : W p l e R s m args below meth c H locs cells slots Q (F0 m pc ls st) := by
  have key : ∀ (n : Nat) (a1 : A1) (a2 : A2) (a3 : A3) (a4 : A4) (a5 : A5) (a6 : A6) (a7 : A7) (H : Heap) (locs : List Loc) (ls : Array Slot), I a1 a2 a3 a4 a5 a6 a7 H locs ls → μ a1 a2 a3 a4 a5 a6 a7 < n → W p l e R s m args below meth c H locs cells slots Q (F0 m pc ls st) := by
    intro n
    induction n with
    | zero => intro a1 a2 a3 a4 a5 a6 a7 H locs ls _ h; exact absurd h (Nat.not_lt_zero _)
    | succ n ih => intro a1 a2 a3 a4 a5 a6 a7 H locs ls hI hn; exact hs a1 a2 a3 a4 a5 a6 a7 H locs ls hI (fun b1 b2 b3 b4 b5 b6 b7 H1 locs1 ls1 h1 h2 => ih b1 b2 b3 b4 b5 b6 b7 H1 locs1 ls1 h1 (Nat.lt_of_lt_of_le h2 (Nat.le_of_lt_succ hn)))
  exact key _ a1 a2 a3 a4 a5 a6 a7 H locs ls h (Nat.lt_succ_self _)
theorem cr_lp8 {p : Program} {l : Launch} {e : Env} {R : Room} {s : State} {m : MethodId} {args : Array Value} {below : List Frame} {meth : Method} {c : Code} {cells slots : Nat} {Q : State → Prop} {pc : Nat} {st : List Value} {A1 A2 A3 A4 A5 A6 A7 A8 : Type} (μ : A1 → A2 → A3 → A4 → A5 → A6 → A7 → A8 → Nat) (I : A1 → A2 → A3 → A4 → A5 → A6 → A7 → A8 → Heap → List Loc → Array Slot → Prop)
    (hs : ∀ (a1 : A1) (a2 : A2) (a3 : A3) (a4 : A4) (a5 : A5) (a6 : A6) (a7 : A7) (a8 : A8) (H : Heap) (locs : List Loc) (ls : Array Slot), I a1 a2 a3 a4 a5 a6 a7 a8 H locs ls → (∀ (b1 : A1) (b2 : A2) (b3 : A3) (b4 : A4) (b5 : A5) (b6 : A6) (b7 : A7) (b8 : A8) (H1 : Heap) (locs1 : List Loc) (ls1 : Array Slot), I b1 b2 b3 b4 b5 b6 b7 b8 H1 locs1 ls1 → μ b1 b2 b3 b4 b5 b6 b7 b8 < μ a1 a2 a3 a4 a5 a6 a7 a8 → W p l e R s m args below meth c H1 locs1 cells slots Q (F0 m pc ls1 st)) → W p l e R s m args below meth c H locs cells slots Q (F0 m pc ls st))
    (a1 : A1) (a2 : A2) (a3 : A3) (a4 : A4) (a5 : A5) (a6 : A6) (a7 : A7) (a8 : A8) {H : Heap} {locs : List Loc} {ls : Array Slot} (h : I a1 a2 a3 a4 a5 a6 a7 a8 H locs ls) : W p l e R s m args below meth c H locs cells slots Q (F0 m pc ls st) := by
  have key : ∀ (n : Nat) (a1 : A1) (a2 : A2) (a3 : A3) (a4 : A4) (a5 : A5) (a6 : A6) (a7 : A7) (a8 : A8) (H : Heap) (locs : List Loc) (ls : Array Slot), I a1 a2 a3 a4 a5 a6 a7 a8 H locs ls → μ a1 a2 a3 a4 a5 a6 a7 a8 < n → W p l e R s m args below meth c H locs cells slots Q (F0 m pc ls st) := by
    intro n
    induction n with
    | zero => intro a1 a2 a3 a4 a5 a6 a7 a8 H locs ls _ h; exact absurd h (Nat.not_lt_zero _)
    | succ n ih => intro a1 a2 a3 a4 a5 a6 a7 a8 H locs ls hI hn; exact hs a1 a2 a3 a4 a5 a6 a7 a8 H locs ls hI (fun b1 b2 b3 b4 b5 b6 b7 b8 H1 locs1 ls1 h1 h2 => ih b1 b2 b3 b4 b5 b6 b7 b8 H1 locs1 ls1 h1 (Nat.lt_of_lt_of_le h2 (Nat.le_of_lt_succ hn)))
  exact key _ a1 a2 a3 a4 a5 a6 a7 a8 H locs ls h (Nat.lt_succ_self _)
/-- a contract's start: the cells ws, sz cells in all -/
abbrev cr_pre (dC : Nat → ClassId) (dI : Nat → Nat → Nat) (tys : List (ClassId × FieldType)) (ws : va_W) (sz : Nat) (U : State) : Prop := U.heap.size = sz ∧ va_P (dC, dI) crCl ws U.heap ∧ va_K (dC, dI) crCl tys U ∧ va_D (fun _ => True) ws
/-- its end: the cells ws -/
abbrev cr_at (dC : Nat → ClassId) (dI : Nat → Nat → Nat) (tys : List (ClassId × FieldType)) (A : Nat → Prop) (ws : va_W) (t : State) : Prop := va_P (dC, dI) crCl ws t.heap ∧ va_K (dC, dI) crCl tys t ∧ va_D A ws
theorem cr_blind {dC : Nat → ClassId} {dI : Nat → Nat → Nat} {tys : List (ClassId × FieldType)} {ws : va_W} {sz : Nat} {av : List Value} : FrameBlind (va_Pc av (cr_pre dC dI tys ws sz)) := by
  intro a U g mk q
  obtain ⟨q0, q1, qP, qK, qD⟩ := q
  exact ⟨q0, q1, qP, va_K.moved (u := U) (U := U.calling g mk a) (Vm.Alike.refl U.vm) qK, qD⟩
theorem cr_preS {dC : Nat → ClassId} {dI : Nat → Nat → Nat} {tys : List (ClassId × FieldType)} {ws : va_W} {av : List Value} {A : Nat → Prop} {s : State} {H : Heap} (hP : va_P (dC, dI) crCl ws H) (hK : va_K (dC, dI) crCl tys s) (hD : va_D A ws) : PreS s H (va_Pc av (cr_pre dC dI tys ws H.size)) av :=
  ⟨cr_blind, fun U hU hW => ⟨rfl, by rw [hU], by rw [hU]; exact hP, va_K.moved hW.alike hK, hD.weaken (fun _ _ _ _ => trivial)⟩⟩
theorem cr_preV {dC : Nat → ClassId} {dI : Nat → Nat → Nat} {tys : List (ClassId × FieldType)} {ws : va_W} {av : List Value} {A : Nat → Prop} {s : State} {H : Heap} {b ci q0 : Nat} {q : vw_C} {fs : List Value} (hP : va_P (dC, dI) crCl ws H) (hK : va_K (dC, dI) crCl tys s) (hD : va_D A ws) (hc : crCl[ci]? = some q) (he : ws[q0]? = some (b, .inr (ci, fs))) : PreV s H q.1 b (va_Pc (Value.ref b :: av) (cr_pre dC dI tys ws H.size)) av :=
  ⟨cr_blind, va_recv hK hP hc he, fun U hU hW => ⟨rfl, by rw [hU], by rw [hU]; exact hP, va_K.moved hW.alike hK, hD.weaken (fun _ _ _ _ => trivial)⟩⟩
theorem cr_back {dC : Nat → ClassId} {dI : Nat → Nat → Nat} {tys : List (ClassId × FieldType)} {A0 : Nat → Prop} {ws wc wr w1 : va_W} {H H1 : Heap} {t : State} (hP : va_P (dC, dI) crCl ws H) (hD : va_D A0 ws) (isC isR : List Nat) (hC : isC.map (fun i => ws[i]?) = wc.map some) (hR : isR.map (fun i => ws[i]?) = wr.map some) (hn : va_nd isR = true) (hdis : ∀ i ∈ isR, i ∉ isC)
    (hk : ∀ q : Nat, q < H.size → ¬ va_A wc H.size q → H1[q]? = H[q]?) (hF : ∀ q, va_A wc H.size q → A0 q) (hB : cr_at dC dI tys (va_A wc H.size) w1 t) (ht : t.heap = H1) : va_P (dC, dI) crCl (wr ++ w1) H1 ∧ va_D A0 (wr ++ w1) := by
  obtain ⟨hP1, _, hD1⟩ := hB
  rw [ht] at hP1
  exact va_join hP hD isC isR hC hR hn hdis hk hF hP1 hD1
/-- the links to members of the nest mate -/
def cr_nw : List Cond := [.fieldLinkNest RX1 47 "CharRows$Ranges" "lows" "[I" "CharRows", .fieldLinkNest RX1 51 "CharRows$Ranges" "highs" "[I" "CharRows", .fieldLinkNest RX1 34 "CharRows$Ranges" "count" "I" "CharRows", .methodLinkNest RX1 9 yX0_init "CharRows", .methodLinkNest RX1 38 yX0_empty "CharRows", .methodLinkNest RX1 54 yX0_become "CharRows", .methodLinkNest RX1 58 yX0_put "CharRows", .methodLinkNest RX1 62 yX0_holds "CharRows", .methodLinkNest RX1 81 yX0_endAround "CharRows"]
theorem nw_47 : Cond.fieldLinkNest RX1 47 "CharRows$Ranges" "lows" "[I" "CharRows" ∈ cr_nw := List.mem_of_getElem? (i := 0) rfl
theorem nw_51 : Cond.fieldLinkNest RX1 51 "CharRows$Ranges" "highs" "[I" "CharRows" ∈ cr_nw := List.mem_of_getElem? (i := 1) rfl
theorem nw_34 : Cond.fieldLinkNest RX1 34 "CharRows$Ranges" "count" "I" "CharRows" ∈ cr_nw := List.mem_of_getElem? (i := 2) rfl
theorem nw_9 : Cond.methodLinkNest RX1 9 yX0_init "CharRows" ∈ cr_nw := List.mem_of_getElem? (i := 3) rfl
theorem nw_38 : Cond.methodLinkNest RX1 38 yX0_empty "CharRows" ∈ cr_nw := List.mem_of_getElem? (i := 4) rfl
theorem nw_54 : Cond.methodLinkNest RX1 54 yX0_become "CharRows" ∈ cr_nw := List.mem_of_getElem? (i := 5) rfl
theorem nw_58 : Cond.methodLinkNest RX1 58 yX0_put "CharRows" ∈ cr_nw := List.mem_of_getElem? (i := 6) rfl
theorem nw_62 : Cond.methodLinkNest RX1 62 yX0_holds "CharRows" ∈ cr_nw := List.mem_of_getElem? (i := 7) rfl
theorem nw_81 : Cond.methodLinkNest RX1 81 yX0_endAround "CharRows" ∈ cr_nw := List.mem_of_getElem? (i := 8) rfl
def cr_NW (U : State) : Prop := ∀ w ∈ cr_nw, va_Nw w U
theorem cr_NW.warm {s U : State} (hW : s.WarmedH U.vm) (h : cr_NW s) : cr_NW U := by
  intro w hw
  have hs := h w hw
  simp only [cr_nw, List.mem_cons, List.not_mem_nil, or_false] at hw
  rcases hw with e | e | e | e | e | e | e | e | e <;> subst e <;> first | exact va_Nw.warmF hW hs | exact va_Nw.warmM hW hs
theorem cr_NW.same {u U : State} (hv : u.vm = U.vm) (h : cr_NW u) : cr_NW U := by
  intro w hw
  have hs := h w hw
  simp only [cr_nw, List.mem_cons, List.not_mem_nil, or_false] at hw
  rcases hw with e | e | e | e | e | e | e | e | e <;> subst e <;> exact va_Nw.same rfl hv hs
abbrev cr_preN (dC : Nat → ClassId) (dI : Nat → Nat → Nat) (tys : List (ClassId × FieldType)) (ws : va_W) (sz : Nat) (U : State) : Prop := cr_pre dC dI tys ws sz U ∧ cr_NW U
theorem cr_blindN {dC : Nat → ClassId} {dI : Nat → Nat → Nat} {tys : List (ClassId × FieldType)} {ws : va_W} {sz : Nat} {av : List Value} : FrameBlind (va_Pc av (cr_preN dC dI tys ws sz)) := by
  intro a U g mk q
  obtain ⟨q0, q1, qN⟩ := q
  exact ⟨q0, (cr_blind a U g mk ⟨q0, q1⟩).2, cr_NW.same (u := U) rfl qN⟩
theorem cr_preSN {dC : Nat → ClassId} {dI : Nat → Nat → Nat} {tys : List (ClassId × FieldType)} {ws : va_W} {av : List Value} {A : Nat → Prop} {s : State} {H : Heap} (hN : cr_NW s) (hP : va_P (dC, dI) crCl ws H) (hK : va_K (dC, dI) crCl tys s) (hD : va_D A ws) : PreS s H (va_Pc av (cr_preN dC dI tys ws H.size)) av :=
  ⟨cr_blindN, fun U hU hW => ⟨rfl, ((cr_preS (av := av) hP hK hD).2 U hU hW).2, hN.warm hW⟩⟩
theorem cr_preVN {dC : Nat → ClassId} {dI : Nat → Nat → Nat} {tys : List (ClassId × FieldType)} {ws : va_W} {av : List Value} {A : Nat → Prop} {s : State} {H : Heap} {b ci q0 : Nat} {q : vw_C} {fs : List Value} (hN : cr_NW s) (hP : va_P (dC, dI) crCl ws H) (hK : va_K (dC, dI) crCl tys s) (hD : va_D A ws) (hc : crCl[ci]? = some q) (he : ws[q0]? = some (b, .inr (ci, fs))) : PreV s H q.1 b (va_Pc (Value.ref b :: av) (cr_preN dC dI tys ws H.size)) av :=
  ⟨cr_blindN, va_recv hK hP hc he, fun U hU hW => ⟨rfl, ((cr_preV (av := av) hP hK hD hc he).2.2 U hU hW).2, hN.warm hW⟩⟩
end
section
/-! BITS of numbers that aren't negative -/
theorem cr_and (a b : Nat) : nI a &&& nI b = nI (a &&& b) := by
  apply Int32.toBitVec_inj.1
  show BitVec.ofNat 32 a &&& BitVec.ofNat 32 b = BitVec.ofNat 32 (a &&& b)
  apply BitVec.eq_of_getLsbD_eq
  intro i hi
  simp [hi]
theorem cr_or (a b : Nat) : nI a ||| nI b = nI (a ||| b) := by
  apply Int32.toBitVec_inj.1
  show BitVec.ofNat 32 a ||| BitVec.ofNat 32 b = BitVec.ofNat 32 (a ||| b)
  apply BitVec.eq_of_getLsbD_eq
  intro i hi
  simp [hi]
theorem cr_orm (c k : Nat) : c ||| (2 ^ k - 1) = 2 ^ k * (c / 2 ^ k) + (2 ^ k - 1) := by
  apply Nat.eq_of_testBit_eq
  intro i
  have hb : 2 ^ k - 1 < 2 ^ k := Nat.sub_lt (Nat.two_pow_pos k) (by decide)
  rw [Nat.testBit_or, Nat.testBit_two_pow_sub_one, Nat.testBit_two_pow_mul_add _ hb, Nat.testBit_two_pow_sub_one]
  by_cases h : i < k
  · simp [h]
  · have e : i - k + k = i := by omega
    simp [h, Nat.testBit_div_two_pow, e]
theorem cr_andm {x : Nat} (k : Nat) (hx : x < 2 ^ 32) (hk : k ≤ 32) : x &&& (2 ^ k * (2 ^ (32 - k) - 1)) = 2 ^ k * (x / 2 ^ k) := by
  apply Nat.eq_of_testBit_eq
  intro j
  rw [Nat.testBit_and, Nat.testBit_two_pow_mul, Nat.testBit_two_pow_mul, Nat.testBit_two_pow_sub_one, Nat.testBit_div_two_pow]
  by_cases h : k ≤ j
  · have e : j - k + k = j := by omega
    rw [e]
    by_cases h2 : j < 32
    · have h3 : j - k < 32 - k := by omega
      simp [h, h3]
    · have h4 : x.testBit j = false := Nat.testBit_lt_two_pow (Nat.lt_of_lt_of_le hx (Nat.pow_le_pow_right (by decide) (by omega)))
      simp [h4]
  · simp [h]
theorem cr_orl (k a b : Nat) (hb : b < 2 ^ k) : 2 ^ k * a ||| b = 2 ^ k * a + b := (Nat.two_pow_add_eq_or_of_lt hb a).symm
/-- x & -64, x & -4096, x & -262144 -/
theorem cr_neg64 {x : Nat} (hx : x < 2 ^ 32) : nI x &&& (-(nI 64)) = nI (x / 64 * 64) := by
  rw [show -(nI 64) = nI (2 ^ 6 * (2 ^ (32 - 6) - 1)) by decide, cr_and, cr_andm 6 hx (by decide), Nat.mul_comm]
theorem cr_neg4096 {x : Nat} (hx : x < 2 ^ 32) : nI x &&& (-(nI 4096)) = nI (x / 4096 * 4096) := by
  rw [show -(nI 4096) = nI (2 ^ 12 * (2 ^ (32 - 12) - 1)) by decide, cr_and, cr_andm 12 hx (by decide), Nat.mul_comm]
theorem cr_neg262144 {x : Nat} (hx : x < 2 ^ 32) : nI x &&& (-(nI 262144)) = nI (x / 262144 * 262144) := by
  rw [show -(nI 262144) = nI (2 ^ 18 * (2 ^ (32 - 18) - 1)) by decide, cr_and, cr_andm 18 hx (by decide), Nat.mul_comm]
/-- x | 63, x | 4095 .. -/
theorem cr_or63 (x : Nat) : nI x ||| nI 63 = nI (x / 64 * 64 + 63) := by
  rw [cr_or, show (63 : Nat) = 2 ^ 6 - 1 by decide, cr_orm, Nat.mul_comm]
theorem cr_or4095 (x : Nat) : nI x ||| nI 4095 = nI (x / 4096 * 4096 + 4095) := by
  rw [cr_or, show (4095 : Nat) = 2 ^ 12 - 1 by decide, cr_orm, Nat.mul_comm]
theorem cr_or262143 (x : Nat) : nI x ||| nI 262143 = nI (x / 262144 * 262144 + 262143) := by
  rw [cr_or, show (262143 : Nat) = 2 ^ 18 - 1 by decide, cr_orm, Nat.mul_comm]
theorem cr_or16777215 (x : Nat) : nI x ||| nI 16777215 = nI (x / 16777216 * 16777216 + 16777215) := by
  rw [cr_or, show (16777215 : Nat) = 2 ^ 24 - 1 by decide, cr_orm, Nat.mul_comm]
theorem cr_and63 {x : Nat} (h : x < 2 ^ 32) : nI x &&& nI 63 = nI (x % 64) := pk_andN h 6 (by decide)
theorem cr_and4095 {x : Nat} (h : x < 2 ^ 32) : nI x &&& nI 4095 = nI (x % 4096) := pk_andN h 12 (by decide)
theorem cr_and262143 {x : Nat} (h : x < 2 ^ 32) : nI x &&& nI 262143 = nI (x % 262144) := pk_andN h 18 (by decide)
/-- comparisons as comparisons of numbers -/
theorem cr_lt0 {x : Int32} : x < 0 ↔ x.toInt < 0 := by rw [Int32.lt_iff_toInt_lt, Int32.toInt_zero]
theorem cr_ltn {x : Int32} {n : Nat} (h : n < 2 ^ 31) : x < nI n ↔ x.toInt < n := by rw [Int32.lt_iff_toInt_lt, nI_toInt h]
theorem cr_nlt {x : Int32} {n : Nat} (h : n < 2 ^ 31) : nI n < x ↔ (n : Int) < x.toInt := by rw [Int32.lt_iff_toInt_lt, nI_toInt h]
theorem cr_len' {x : Int32} {n : Nat} (h : n < 2 ^ 31) : x ≤ nI n ↔ x.toInt ≤ n := by rw [Int32.le_iff_toInt_le, nI_toInt h]
theorem cr_nle' {x : Int32} {n : Nat} (h : n < 2 ^ 31) : nI n ≤ x ↔ (n : Int) ≤ x.toInt := by rw [Int32.le_iff_toInt_le, nI_toInt h]
theorem cr_eqn {x : Int32} {n : Nat} (h : n < 2 ^ 31) : x = nI n ↔ x.toInt = n := by
  constructor
  · intro e; rw [e, nI_toInt h]
  · intro e; exact Int32.toInt_inj.mp (by rw [e, nI_toInt h])
theorem cr_m1 : (-1 : Int32).toInt = -1 := by decide
theorem cr_of {x : Int32} (h : 0 ≤ x.toInt) : ∃ n : Nat, n < 2 ^ 31 ∧ x = nI n := nI_of (by rw [cr_lt0]; omega)
theorem cr_min (a b : Nat) (ha : a < 2 ^ 31) (hb : b < 2 ^ 31) : (if nI b < nI a then nI b else nI a) = nI (min a b) := by
  by_cases h : b < a
  · rw [if_pos ((nI_ltI hb ha).2 h), Nat.min_eq_right (Nat.le_of_lt h)]
  · rw [if_neg (fun q => h ((nI_ltI hb ha).1 q)), Nat.min_eq_left (by omega)]
theorem cr_max (a b : Nat) (ha : a < 2 ^ 31) (hb : b < 2 ^ 31) : (if nI a < nI b then nI b else nI a) = nI (max a b) := by
  by_cases h : a < b
  · rw [if_pos ((nI_ltI ha hb).2 h), Nat.max_eq_right (Nat.le_of_lt h)]
  · rw [if_neg (fun q => h ((nI_ltI ha hb).1 q)), Nat.max_eq_left (by omega)]
end
section
/-! PURE: ranges of characters -/
def cr_ch (c : Nat) : Prop := c ≤ 1114111 ∧ (c < 55296 ∨ 57344 ≤ c)
def cr_In (n : Nat) (lo hi : Nat → Nat) (c : Nat) : Prop := ∃ j, j < n ∧ lo j ≤ c ∧ c ≤ hi j
def cr_Ok (n : Nat) (lo hi : Nat → Nat) : Prop := (∀ j, j < n → lo j ≤ hi j ∧ hi j ≤ 1114111 ∧ (hi j < 55296 ∨ 57344 ≤ lo j)) ∧ ∀ j, j + 1 < n → hi j + 1 < lo (j + 1)
theorem cr_Ok.apart {n : Nat} {lo hi : Nat → Nat} (h : cr_Ok n lo hi) : ∀ (d i : Nat), i + d + 1 < n → hi i + 1 < lo (i + d + 1) := by
  intro d
  induction d with
  | zero => intro i hi'; exact h.2 i hi'
  | succ d ih =>
    intro i hi'
    have a := ih i (by omega)
    have b := h.1 (i + d + 1) (by omega)
    have c := h.2 (i + d + 1) (by omega)
    have e : i + (d + 1) + 1 = i + d + 1 + 1 := by omega
    rw [e]
    omega
theorem cr_Ok.lt {n : Nat} {lo hi : Nat → Nat} (h : cr_Ok n lo hi) {i j : Nat} (hij : i < j) (hj : j < n) : hi i + 1 < lo j := by
  have := h.apart (j - i - 1) i (by omega)
  have e : i + (j - i - 1) + 1 = j := by omega
  rw [e] at this
  exact this
theorem cr_Ok.char {n : Nat} {lo hi : Nat → Nat} (h : cr_Ok n lo hi) {c : Nat} (hc : cr_In n lo hi c) : cr_ch c := by
  obtain ⟨j, hj, h1, h2⟩ := hc
  have := h.1 j hj
  unfold cr_ch
  omega
theorem cr_half {n n' : Nat} {lo hi lo' hi' : Nat → Nat} (h : cr_Ok n lo hi) (h' : cr_Ok n' lo' hi') (hs : ∀ c, cr_In n lo hi c → cr_In n' lo' hi' c) {j : Nat} (hj : j < n) (hj' : j < n') (he : ∀ i, i < j → lo i = lo' i ∧ hi i = hi' i) : lo' j ≤ lo j := by
  obtain ⟨i, hi1, h1, h2⟩ := hs (lo j) ⟨j, hj, Nat.le_refl _, (h.1 j hj).1⟩
  rcases Nat.lt_trichotomy i j with q | q | q
  · have a := h.lt q hj
    have b := (he i q).2
    omega
  · subst q
    exact h1
  · have a := h'.lt q hi1
    have b := h'.1 j hj'
    omega
theorem cr_half2 {n n' : Nat} {lo hi lo' hi' : Nat → Nat} (h : cr_Ok n lo hi) (_h' : cr_Ok n' lo' hi') (hs : ∀ c, cr_In n' lo' hi' c → cr_In n lo hi c) {j : Nat} (hj : j < n) (hj' : j < n') (hl : lo j = lo' j) : hi' j ≤ hi j := by
  rcases Nat.lt_or_ge (hi j) (hi' j) with q | q
  · exfalso
    have a := h.1 j hj
    obtain ⟨i, hi1, h1, h2⟩ := hs (hi j + 1) ⟨j, hj', by omega, by omega⟩
    rcases Nat.lt_trichotomy i j with e | e | e
    · have b := h.lt e hj
      omega
    · subst e
      omega
    · have b := h.lt e hi1
      omega
  · exact q
theorem cr_same {n n' : Nat} {lo hi lo' hi' : Nat → Nat} (h : cr_Ok n lo hi) (h' : cr_Ok n' lo' hi') (hs : ∀ c, cr_In n lo hi c ↔ cr_In n' lo' hi' c) : ∀ j, j < n → j < n' → lo j = lo' j ∧ hi j = hi' j := by
  intro j
  induction j using Nat.strongRecOn with
  | ind j ih =>
    intro hj hj'
    have he : ∀ i, i < j → lo i = lo' i ∧ hi i = hi' i := fun i hi1 => ih i hi1 (by omega) (by omega)
    have he' : ∀ i, i < j → lo' i = lo i ∧ hi' i = hi i := fun i hi1 => ⟨(he i hi1).1.symm, (he i hi1).2.symm⟩
    have a := cr_half h h' (fun c => (hs c).1) hj hj' he
    have b := cr_half h' h (fun c => (hs c).2) hj' hj he'
    have e : lo j = lo' j := Nat.le_antisymm b a
    have a2 := cr_half2 h h' (fun c => (hs c).2) hj hj' e
    have b2 := cr_half2 h' h (fun c => (hs c).1) hj' hj e.symm
    exact ⟨e, Nat.le_antisymm b2 a2⟩
theorem cr_nle {n n' : Nat} {lo hi lo' hi' : Nat → Nat} (h : cr_Ok n lo hi) (h' : cr_Ok n' lo' hi') (hs : ∀ c, cr_In n lo hi c ↔ cr_In n' lo' hi' c) : n' ≤ n := by
  rcases Nat.lt_or_ge n n' with q | q
  · exfalso
    obtain ⟨i, hi1, h1, h2⟩ := (hs (lo' n)).2 ⟨n, q, Nat.le_refl _, (h'.1 n q).1⟩
    have e := cr_same h h' hs i hi1 (by omega)
    have b := h'.lt hi1 q
    omega
  · exact q
theorem cr_uniq {n n' : Nat} {lo hi lo' hi' : Nat → Nat} (h : cr_Ok n lo hi) (h' : cr_Ok n' lo' hi') (hs : ∀ c, cr_In n lo hi c ↔ cr_In n' lo' hi' c) : n = n' ∧ ∀ j, j < n → lo j = lo' j ∧ hi j = hi' j := by
  have a := cr_nle h h' hs
  have b := cr_nle h' h (fun c => (hs c).symm)
  exact ⟨Nat.le_antisymm b a, fun j hj => cr_same h h' hs j hj (by omega)⟩
/-! how many there can be -/
theorem cr_pig : ∀ (k : Nat) (f : Nat → Nat) (P : List Nat), (∀ i j, i < j → j < k → f i < f j) → (∀ i, i < k → f i ∈ P) → k ≤ P.length := by
  intro k
  induction k with
  | zero => intro f P _ _; exact Nat.zero_le _
  | succ k ih =>
    intro f P hf hm
    have hk := hm k (by omega)
    have h1 := ih f (P.erase (f k)) (fun i j hij hj => hf i j hij (by omega)) (fun i hi => by
      have := hf i k hi (by omega)
      exact (List.mem_erase_of_ne (by omega)).mpr (hm i (by omega)))
    have h2 := List.length_erase_of_mem hk
    have h3 : 0 < P.length := List.length_pos_of_mem hk
    omega
def cr_pt (lo hi : Nat → Nat) (i : Nat) : Nat := if i % 2 = 0 then lo (i / 2) else hi (i / 2) + 1
theorem cr_pt_step {n : Nat} {lo hi : Nat → Nat} (h : cr_Ok n lo hi) (i : Nat) (hi1 : i + 1 < 2 * n) : cr_pt lo hi i < cr_pt lo hi (i + 1) := by
  unfold cr_pt
  rcases Nat.mod_two_eq_zero_or_one i with e | e
  · have e2 : (i + 1) % 2 ≠ 0 := by omega
    have e3 : (i + 1) / 2 = i / 2 := by omega
    rw [if_pos e, if_neg e2, e3]
    have := h.1 (i / 2) (by omega)
    omega
  · have e0 : i % 2 ≠ 0 := by omega
    have e2 : (i + 1) % 2 = 0 := by omega
    have e3 : (i + 1) / 2 = i / 2 + 1 := by omega
    rw [if_neg e0, if_pos e2, e3]
    exact h.2 (i / 2) (by omega)
theorem cr_pt_lt {n : Nat} {lo hi : Nat → Nat} (h : cr_Ok n lo hi) : ∀ (d i : Nat), i + d + 1 < 2 * n → cr_pt lo hi i < cr_pt lo hi (i + d + 1) := by
  intro d
  induction d with
  | zero => intro i hi1; exact cr_pt_step h i hi1
  | succ d ih =>
    intro i hi1
    have a := ih i (by omega)
    have b := cr_pt_step h (i + d + 1) (by omega)
    have e : i + (d + 1) + 1 = i + d + 1 + 1 := by omega
    rw [e]
    omega
theorem cr_count {n : Nat} {lo hi : Nat → Nat} (h : cr_Ok n lo hi) (P : List Nat) (hl : ∀ j, j < n → lo j ∈ P ∧ hi j + 1 ∈ P) : 2 * n ≤ P.length := by
  refine cr_pig (2 * n) (cr_pt lo hi) P (fun i j hij hj => ?_) (fun i hi1 => ?_)
  · have := cr_pt_lt h (j - i - 1) i (by omega)
    have e : i + (j - i - 1) + 1 = j := by omega
    rw [e] at this
    exact this
  · have a := hl (i / 2) (by omega)
    unfold cr_pt
    split
    · exact a.1
    · exact a.2
/-- the places where the set begins or ends lie in P -/
def cr_Bd (P : List Nat) (S : Nat → Prop) : Prop := 0 ∈ P ∧ ∀ c, c + 1 ∉ P → (S (c + 1) ↔ S c)
theorem cr_Bd.count {P : List Nat} {S : Nat → Prop} (hB : cr_Bd P S) {n : Nat} {lo hi : Nat → Nat} (h : cr_Ok n lo hi) (hS : ∀ c, cr_In n lo hi c ↔ S c) : 2 * n ≤ P.length := by
  refine cr_count h P (fun j hj => ⟨?_, ?_⟩)
  · rcases Nat.eq_zero_or_pos (lo j) with e | e
    · rw [e]; exact hB.1
    · apply Classical.byContradiction
      intro hn
      have e2 : lo j - 1 + 1 = lo j := by omega
      have a := hB.2 (lo j - 1) (by rw [e2]; exact hn)
      rw [e2, ← hS, ← hS] at a
      obtain ⟨i, hi1, h1, h2⟩ := a.1 ⟨j, hj, Nat.le_refl _, (h.1 j hj).1⟩
      rcases Nat.lt_trichotomy i j with q | q | q
      · have b := h.lt q hj
        omega
      · subst q
        omega
      · have b := h.lt q hi1
        have b2 := h.1 j hj
        omega
  · apply Classical.byContradiction
    intro hn
    have a := hB.2 (hi j) hn
    rw [← hS, ← hS] at a
    obtain ⟨i, hi1, h1, h2⟩ := a.2 ⟨j, hj, (h.1 j hj).1, Nat.le_refl _⟩
    rcases Nat.lt_trichotomy i j with q | q | q
    · have b := h.lt q hj
      have b2 := h.1 j hj
      omega
    · subst q
      omega
    · have b := h.lt q hi1
      omega
theorem cr_Bd.more {P P' : List Nat} {S : Nat → Prop} (h : cr_Bd P S) (hp : ∀ c, c ∈ P → c ∈ P') : cr_Bd P' S := ⟨hp 0 h.1, fun c hc => h.2 c (fun q => hc (hp _ q))⟩
theorem cr_Bd.or {P P' : List Nat} {S T : Nat → Prop} (h : cr_Bd P S) (h' : cr_Bd P' T) : cr_Bd (P ++ P') (fun c => S c ∨ T c) := by
  refine ⟨List.mem_append_left _ h.1, fun c hc => ?_⟩
  rw [List.mem_append, not_or] at hc
  have a := h.2 c hc.1
  have b := h'.2 c hc.2
  show (S (c + 1) ∨ T (c + 1)) ↔ (S c ∨ T c)
  rw [a, b]
theorem cr_Bd.or1 {P : List Nat} {S T : Nat → Prop} (h : cr_Bd P S) (h' : cr_Bd P T) : cr_Bd P (fun c => S c ∨ T c) := by
  refine ⟨h.1, fun c hc => ?_⟩
  have a := h.2 c hc
  have b := h'.2 c hc
  show (S (c + 1) ∨ T (c + 1)) ↔ (S c ∨ T c)
  rw [a, b]
theorem cr_Bd.and1 {P : List Nat} {S T : Nat → Prop} (h : cr_Bd P S) (h' : cr_Bd P T) : cr_Bd P (fun c => S c ∧ T c) := by
  refine ⟨h.1, fun c hc => ?_⟩
  have a := h.2 c hc
  have b := h'.2 c hc
  show (S (c + 1) ∧ T (c + 1)) ↔ (S c ∧ T c)
  rw [a, b]
theorem cr_Bd.not1 {P : List Nat} {S : Nat → Prop} (h : cr_Bd P S) : cr_Bd P (fun c => ¬ S c) := by
  refine ⟨h.1, fun c hc => ?_⟩
  have a := h.2 c hc
  show ¬ S (c + 1) ↔ ¬ S c
  rw [a]
theorem cr_Bd.iff {P : List Nat} {S T : Nat → Prop} (h : cr_Bd P S) (hs : ∀ c, S c ↔ T c) : cr_Bd P T := ⟨h.1, fun c hc => by rw [← hs, ← hs]; exact h.2 c hc⟩
/-- the ends of all characters, and of the gap in them -/
def cr_base : List Nat := [0, 55296, 57344, 1114112]
theorem cr_Bd.ch {P : List Nat} (hp : ∀ c, c ∈ cr_base → c ∈ P) : cr_Bd P cr_ch := by
  refine ⟨hp 0 (by decide), fun c hc => ?_⟩
  have h1 : c + 1 ≠ 55296 := fun q => hc (hp _ (by rw [q]; decide))
  have h2 : c + 1 ≠ 57344 := fun q => hc (hp _ (by rw [q]; decide))
  have h3 : c + 1 ≠ 1114112 := fun q => hc (hp _ (by rw [q]; decide))
  unfold cr_ch
  omega
theorem cr_Bd.seg {P : List Nat} {a b : Nat} (h0 : 0 ∈ P) (ha : a ∈ P) (hb : b + 1 ∈ P) : cr_Bd P (fun c => a ≤ c ∧ c ≤ b) := by
  refine ⟨h0, fun c hc => ?_⟩
  have h1 : c + 1 ≠ a := fun q => hc (by rw [q]; exact ha)
  have h2 : c + 1 ≠ b + 1 := fun q => hc (by rw [q]; exact hb)
  show (a ≤ c + 1 ∧ c + 1 ≤ b) ↔ (a ≤ c ∧ c ≤ b)
  omega
theorem cr_Bd.below {P : List Nat} {a : Nat} (h0 : 0 ∈ P) (ha : a ∈ P) : cr_Bd P (fun c => c < a) := by
  refine ⟨h0, fun c hc => ?_⟩
  have h1 : c + 1 ≠ a := fun q => hc (by rw [q]; exact ha)
  show c + 1 < a ↔ c < a
  omega
/-! arrays that hold ranges -/
def cr_Rp (n : Nat) (lo hi : Nat → Nat) (f g : Nat → Int32) : Prop := ∀ j, j < n → f j = nI (lo j) ∧ g j = nI (hi j)
/-- the arrays f, g tell the set S, in n ranges -/
def cr_Set (n : Nat) (f g : Nat → Int32) (S : Nat → Prop) : Prop := ∃ lo hi : Nat → Nat, cr_Rp n lo hi f g ∧ cr_Ok n lo hi ∧ ∀ c, cr_In n lo hi c ↔ S c
theorem cr_Set.iff {n : Nat} {f g : Nat → Int32} {S T : Nat → Prop} (h : cr_Set n f g S) (hs : ∀ c, S c ↔ T c) : cr_Set n f g T := by
  obtain ⟨lo, hi, a, b, c⟩ := h
  exact ⟨lo, hi, a, b, fun x => (c x).trans (hs x)⟩
theorem cr_Set.zero {f g : Nat → Int32} : cr_Set 0 f g (fun _ => False) := ⟨fun _ => 0, fun _ => 0, fun j hj => absurd hj (by omega), ⟨fun j hj => absurd hj (by omega), fun j hj => absurd hj (by omega)⟩, fun c => ⟨fun ⟨j, hj, _⟩ => absurd hj (by omega), fun h => h.elim⟩⟩
theorem cr_Set.char {n : Nat} {f g : Nat → Int32} {S : Nat → Prop} (h : cr_Set n f g S) {c : Nat} (hc : S c) : cr_ch c := by
  obtain ⟨lo, hi, _, b, d⟩ := h
  exact b.char ((d c).2 hc)
theorem cr_Set.count {n : Nat} {f g : Nat → Int32} {S : Nat → Prop} (h : cr_Set n f g S) {P : List Nat} (hB : cr_Bd P S) : 2 * n ≤ P.length := by
  obtain ⟨lo, hi, _, b, d⟩ := h
  exact hB.count b d
theorem cr_Set.uniq {n n' : Nat} {f g f' g' : Nat → Int32} {S : Nat → Prop} (h : cr_Set n f g S) (h' : cr_Set n' f' g' S) : n = n' ∧ ∀ j, j < n → f j = f' j ∧ g j = g' j := by
  obtain ⟨lo, hi, a, b, d⟩ := h
  obtain ⟨lo', hi', a', b', d'⟩ := h'
  obtain ⟨e, q⟩ := cr_uniq b b' (fun c => (d c).trans (d' c).symm)
  refine ⟨e, fun j hj => ?_⟩
  have x := q j hj
  have y := a j hj
  have z := a' j (by omega)
  rw [y.1, y.2, z.1, z.2, x.1, x.2]
  exact ⟨rfl, rfl⟩
/-! one more range -/
def cr_insf (f : Nat → Nat) (k x : Nat) : Nat → Nat := fun j => if j < k then f j else if j = k then x else f (j - 1)
theorem cr_insf_lt {f : Nat → Nat} {k x j : Nat} (h : j < k) : cr_insf f k x j = f j := by unfold cr_insf; rw [if_pos h]
theorem cr_insf_eq {f : Nat → Nat} {k x : Nat} : cr_insf f k x k = x := by unfold cr_insf; rw [if_neg (Nat.lt_irrefl k), if_pos rfl]
theorem cr_insf_gt {f : Nat → Nat} {k x j : Nat} (h : k < j) : cr_insf f k x j = f (j - 1) := by unfold cr_insf; rw [if_neg (by omega), if_neg (by omega)]
theorem cr_ins {n : Nat} {lo hi : Nat → Nat} (h : cr_Ok n lo hi) {k a b : Nat} (hk : k ≤ n) (hab : a ≤ b) (hb : b ≤ 1114111) (hg : b < 55296 ∨ 57344 ≤ a) (h1 : ∀ j, j < k → hi j + 1 < a) (h2 : ∀ j, k ≤ j → j < n → b + 1 < lo j) :
    cr_Ok (n + 1) (cr_insf lo k a) (cr_insf hi k b) ∧ ∀ c, cr_In (n + 1) (cr_insf lo k a) (cr_insf hi k b) c ↔ (cr_In n lo hi c ∨ (a ≤ c ∧ c ≤ b)) := by
  refine ⟨⟨fun j hj => ?_, fun j hj => ?_⟩, fun c => ⟨fun hc => ?_, fun hc => ?_⟩⟩
  · rcases Nat.lt_trichotomy j k with e | e | e
    · rw [cr_insf_lt e, cr_insf_lt e]; exact h.1 j (by omega)
    · subst e; rw [cr_insf_eq, cr_insf_eq]; exact ⟨hab, hb, hg⟩
    · rw [cr_insf_gt e, cr_insf_gt e]; exact h.1 (j - 1) (by omega)
  · rcases Nat.lt_trichotomy j k with e | e | e
    · rw [cr_insf_lt e]
      rcases Nat.lt_or_ge (j + 1) k with q | q
      · rw [cr_insf_lt q]; exact h.2 j (by omega)
      · have : j + 1 = k := by omega
        rw [this, cr_insf_eq]; exact h1 j e
    · subst e
      rw [cr_insf_eq, cr_insf_gt (by omega)]
      exact h2 _ (by omega) (by omega)
    · rw [cr_insf_gt e, cr_insf_gt (by omega)]
      have q := h.2 (j - 1) (by omega)
      have e2 : j - 1 + 1 = j + 1 - 1 := by omega
      rw [e2] at q
      exact q
  · obtain ⟨j, hj, q1, q2⟩ := hc
    rcases Nat.lt_trichotomy j k with e | e | e
    · rw [cr_insf_lt e] at q1 q2
      exact Or.inl ⟨j, by omega, q1, q2⟩
    · subst e
      rw [cr_insf_eq] at q1 q2
      exact Or.inr ⟨q1, q2⟩
    · rw [cr_insf_gt e] at q1 q2
      exact Or.inl ⟨j - 1, by omega, q1, q2⟩
  · rcases hc with ⟨j, hj, q1, q2⟩ | ⟨q1, q2⟩
    · rcases Nat.lt_or_ge j k with e | e
      · exact ⟨j, by omega, by rw [cr_insf_lt e]; exact q1, by rw [cr_insf_lt e]; exact q2⟩
      · exact ⟨j + 1, by omega, by rw [cr_insf_gt (by omega)]; exact q1, by rw [cr_insf_gt (by omega)]; exact q2⟩
    · exact ⟨k, by omega, by rw [cr_insf_eq]; exact q1, by rw [cr_insf_eq]; exact q2⟩
/-- ranges f .. b - 1 become one, x in place of theirs -/
def cr_unif (g : Nat → Nat) (f b x : Nat) : Nat → Nat := fun j => if j < f then g j else if j = f then x else g (j - (f + 1) + b)
theorem cr_unif_lt {g : Nat → Nat} {f b x j : Nat} (h : j < f) : cr_unif g f b x j = g j := by unfold cr_unif; rw [if_pos h]
theorem cr_unif_eq {g : Nat → Nat} {f b x : Nat} : cr_unif g f b x f = x := by unfold cr_unif; rw [if_neg (Nat.lt_irrefl f), if_pos rfl]
theorem cr_unif_gt {g : Nat → Nat} {f b x j : Nat} (h : f < j) : cr_unif g f b x j = g (j - (f + 1) + b) := by unfold cr_unif; rw [if_neg (by omega), if_neg (by omega)]
theorem cr_uni {n : Nat} {lo hi : Nat → Nat} (h : cr_Ok n lo hi) {f b x y : Nat} (hf : f < b) (hb : b ≤ n) (hxy : x ≤ y) (hy : y ≤ 1114111) (hg : y < 55296 ∨ 57344 ≤ x) (h1 : ∀ j, j < f → hi j + 1 < x) (h2 : x ≤ hi f + 1) (h3 : ∀ j, f ≤ j → j < b → lo j ≤ y + 1) (h4 : ∀ j, b ≤ j → j < n → y + 1 < lo j) :
    cr_Ok (n - (b - (f + 1))) (cr_unif lo f b (min (lo f) x)) (cr_unif hi f b (max (hi (b - 1)) y)) ∧ ∀ c, cr_In (n - (b - (f + 1))) (cr_unif lo f b (min (lo f) x)) (cr_unif hi f b (max (hi (b - 1)) y)) c ↔ (cr_In n lo hi c ∨ (x ≤ c ∧ c ≤ y)) := by
  have kf := h.1 f (by omega)
  have kb := h.1 (b - 1) (by omega)
  have k3 := h3 (b - 1) (by omega) (by omega)
  have k4 := h3 f (by omega) hf
  have kfb : lo f ≤ lo (b - 1) ∧ hi f ≤ hi (b - 1) := by
    rcases Nat.eq_or_lt_of_le (show f ≤ b - 1 by omega) with e | e
    · rw [← e]; exact ⟨Nat.le_refl _, Nat.le_refl _⟩
    · have := h.lt e (by omega)
      omega
  refine ⟨⟨fun j hj => ?_, fun j hj => ?_⟩, fun c => ⟨fun hc => ?_, fun hc => ?_⟩⟩
  · rcases Nat.lt_trichotomy j f with e | e | e
    · rw [cr_unif_lt e, cr_unif_lt e]; exact h.1 j (by omega)
    · subst e; rw [cr_unif_eq, cr_unif_eq]; omega
    · rw [cr_unif_gt e, cr_unif_gt e]; exact h.1 _ (by omega)
  · rcases Nat.lt_trichotomy j f with e | e | e
    · rw [cr_unif_lt e]
      rcases Nat.lt_or_ge (j + 1) f with q | q
      · rw [cr_unif_lt q]; exact h.2 j (by omega)
      · have : j + 1 = f := by omega
        rw [this, cr_unif_eq]
        have a := h1 j e
        have c := h.lt e (show f < n by omega)
        omega
    · subst e
      rw [cr_unif_eq, cr_unif_gt (by omega)]
      have e2 : j + 1 - (j + 1) + b = b := by omega
      rw [e2]
      have a := h4 b (by omega) (by omega)
      have c := h.lt (show b - 1 < b by omega) (show b < n by omega)
      omega
    · rw [cr_unif_gt e, cr_unif_gt (by omega)]
      have q := h.2 (j - (f + 1) + b) (by omega)
      have e2 : j + 1 - (f + 1) + b = j - (f + 1) + b + 1 := by omega
      rw [e2]
      exact q
  · obtain ⟨j, hj, q1, q2⟩ := hc
    rcases Nat.lt_trichotomy j f with e | e | e
    · rw [cr_unif_lt e] at q1 q2
      exact Or.inl ⟨j, by omega, q1, q2⟩
    · subst e
      rw [cr_unif_eq] at q1 q2
      rcases Nat.lt_or_ge c x with u | u
      · exact Or.inl ⟨j, by omega, by omega, by omega⟩
      · rcases Nat.lt_or_ge y c with v | v
        · exact Or.inl ⟨b - 1, by omega, by omega, by omega⟩
        · exact Or.inr ⟨u, v⟩
    · rw [cr_unif_gt e] at q1 q2
      exact Or.inl ⟨_, by omega, q1, q2⟩
  · rcases hc with ⟨j, hj, q1, q2⟩ | ⟨q1, q2⟩
    · rcases Nat.lt_or_ge j f with e | e
      · exact ⟨j, by omega, by rw [cr_unif_lt e]; exact q1, by rw [cr_unif_lt e]; exact q2⟩
      · rcases Nat.lt_or_ge j b with u | u
        · refine ⟨f, by omega, ?_, ?_⟩
          · rw [cr_unif_eq]
            rcases Nat.eq_or_lt_of_le e with v | v
            · subst v; omega
            · have := h.lt v hj
              omega
          · rw [cr_unif_eq]
            rcases Nat.eq_or_lt_of_le (show j ≤ b - 1 by omega) with v | v
            · rw [← v]; omega
            · have := h.lt v (show b - 1 < n by omega)
              have := h.1 j hj
              omega
        · refine ⟨j - b + (f + 1), by omega, ?_, ?_⟩
          · rw [cr_unif_gt (by omega)]
            have e2 : j - b + (f + 1) - (f + 1) + b = j := by omega
            rw [e2]; exact q1
          · rw [cr_unif_gt (by omega)]
            have e2 : j - b + (f + 1) - (f + 1) + b = j := by omega
            rw [e2]; exact q2
    · exact ⟨f, by omega, by rw [cr_unif_eq]; omega, by rw [cr_unif_eq]; omega⟩
theorem cr_Ok.mono {n : Nat} {lo hi : Nat → Nat} (h : cr_Ok n lo hi) {i j : Nat} (hij : i ≤ j) (hj : j < n) : hi i ≤ hi j ∧ lo i ≤ lo j := by
  rcases Nat.eq_or_lt_of_le hij with e | e
  · subst e
    exact ⟨Nat.le_refl _, Nat.le_refl _⟩
  · have a := h.lt e hj
    have b := h.1 j hj
    have d := h.1 i (by omega)
    omega
theorem cr_move {n k t : Nat} (hk : k ≤ n) : nI n + (nI t - nI k) = nI (t + (n - k)) := by
  have e : nI n = nI (n - k) + nI k := by
    rw [nI_add]
    congr 1
    omega
  rw [e, Int32.add_assoc, Int32.add_comm (nI k), Int32.sub_add_cancel, nI_add, Nat.add_comm]
theorem cr_Rp.ins {n : Nat} {lo hi : Nat → Nat} {f g : Nat → Int32} (h : cr_Rp n lo hi f g) {k a b : Nat} (_hk : k ≤ n) : cr_Rp (n + 1) (cr_insf lo k a) (cr_insf hi k b) (upd (va_cpy f f k (k + 1) (n - k)) k (nI a)) (upd (va_cpy g g k (k + 1) (n - k)) k (nI b)) := by
  intro j hj
  rcases Nat.lt_trichotomy j k with e | e | e
  · rw [cr_insf_lt e, cr_insf_lt e, pk_un (by omega), pk_un (by omega), pk_cpy_out (by omega), pk_cpy_out (by omega)]
    exact h j (by omega)
  · subst e
    rw [cr_insf_eq, cr_insf_eq, pk_us, pk_us]
    exact ⟨rfl, rfl⟩
  · rw [cr_insf_gt e, cr_insf_gt e, pk_un (by omega), pk_un (by omega), pk_cpy_in (by omega) (by omega), pk_cpy_in (by omega) (by omega)]
    have q := h (j - 1) (by omega)
    have e2 : k + (j - (k + 1)) = j - 1 := by omega
    rw [e2]
    exact q
theorem cr_Rp.uni {n : Nat} {lo hi : Nat → Nat} {f g : Nat → Int32} (h : cr_Rp n lo hi f g) {p b x y : Nat} (hp : p < b) (hb : b ≤ n) : cr_Rp (n - (b - (p + 1))) (cr_unif lo p b x) (cr_unif hi p b y) (va_cpy (upd f p (nI x)) (upd f p (nI x)) b (p + 1) (n - b)) (va_cpy (upd g p (nI y)) (upd g p (nI y)) b (p + 1) (n - b)) := by
  intro j hj
  rcases Nat.lt_trichotomy j p with e | e | e
  · rw [cr_unif_lt e, cr_unif_lt e, pk_cpy_out (by omega), pk_cpy_out (by omega), pk_un (by omega), pk_un (by omega)]
    exact h j (by omega)
  · subst e
    rw [cr_unif_eq, cr_unif_eq, pk_cpy_out (by omega), pk_cpy_out (by omega), pk_us, pk_us]
    exact ⟨rfl, rfl⟩
  · rw [cr_unif_gt e, cr_unif_gt e, pk_cpy_in (by omega) (by omega), pk_cpy_in (by omega) (by omega), pk_un (by omega), pk_un (by omega)]
    have e2 : b + (j - (p + 1)) = j - (p + 1) + b := by omega
    rw [e2]
    exact h _ (by omega)
theorem cr_lt_s {P : Nat → Prop} {k q : Nat} (h : ∀ j, k ≤ j → j < q → P j) (hq : P q) : ∀ j, k ≤ j → j < q + 1 → P j := by
  intro j h1 h2
  rcases Nat.lt_or_ge j q with e | e
  · exact h j h1 e
  · have : j = q := by omega
    subst this
    exact hq
def cr_zb (r : Int32) (P : Prop) : Prop := (r = nI 1 ∧ P) ∨ (r = nI 0 ∧ ¬ P)
/-- x is a character of S -/
def cr_Hs (S : Nat → Prop) (x : Int32) : Prop := ∃ c : Nat, c ≤ 1114111 ∧ x = nI c ∧ S c
theorem cr_put_ins {n : Nat} {lo hi : Nat → Nat} {f g : Nat → Int32} {S : Nat → Prop} (hR : cr_Rp n lo hi f g) (hO : cr_Ok n lo hi) (hI : ∀ c, cr_In n lo hi c ↔ S c) {k a b : Nat} (hk : k ≤ n) (hab : a ≤ b) (hb : b ≤ 1114111) (hg : b < 55296 ∨ 57344 ≤ a) (h1 : ∀ j, j < k → hi j + 1 < a) (h2 : ∀ j, k ≤ j → j < n → b + 1 < lo j) (ha3 : a < 2 ^ 31) (hb3 : b < 2 ^ 31) :
    cr_Set (n + 1) (upd (va_cpy f f k (k + 1) (n - k)) k (nI a)) (upd (va_cpy g g k (k + 1) (n - k)) k (nI b)) (fun c => S c ∨ ((nI a).toInt ≤ (c : Int) ∧ (c : Int) ≤ (nI b).toInt)) := by
  obtain ⟨o, i⟩ := cr_ins hO hk hab hb hg h1 h2
  refine ⟨_, _, hR.ins hk, o, fun c => ?_⟩
  rw [i c, hI c, nI_toInt ha3, nI_toInt hb3]
  exact or_congr_right (by omega)
theorem cr_put_uni {n : Nat} {lo hi : Nat → Nat} {f g : Nat → Int32} {S : Nat → Prop} (hR : cr_Rp n lo hi f g) (hO : cr_Ok n lo hi) (hI : ∀ c, cr_In n lo hi c ↔ S c) {k q a b : Nat} (hk : k < q) (hq : q ≤ n) (hab : a ≤ b) (hb : b ≤ 1114111) (hg : b < 55296 ∨ 57344 ≤ a) (h1 : ∀ j, j < k → hi j + 1 < a) (h2 : a ≤ hi k + 1) (h3 : ∀ j, k ≤ j → j < q → lo j ≤ b + 1) (h4 : ∀ j, q ≤ j → j < n → b + 1 < lo j) (ha3 : a < 2 ^ 31) (hb3 : b < 2 ^ 31) :
    cr_Set (k + 1 + (n - q)) (va_cpy (upd f k (nI (min (lo k) a))) (upd f k (nI (min (lo k) a))) q (k + 1) (n - q)) (va_cpy (upd g k (nI (max (hi (q - 1)) b))) (upd g k (nI (max (hi (q - 1)) b))) q (k + 1) (n - q)) (fun c => S c ∨ ((nI a).toInt ≤ (c : Int) ∧ (c : Int) ≤ (nI b).toInt)) := by
  obtain ⟨o, i⟩ := cr_uni hO hk hq hab hb hg h1 h2 h3 h4
  have e : k + 1 + (n - q) = n - (q - (k + 1)) := by omega
  rw [e]
  refine ⟨_, _, hR.uni hk hq, o, fun c => ?_⟩
  rw [i c, hI c, nI_toInt ha3, nI_toInt hb3]
  exact or_congr_right (by omega)
theorem cr_Hs_in {n : Nat} {lo hi : Nat → Nat} {S : Nat → Prop} (hO : cr_Ok n lo hi) (hI : ∀ c, cr_In n lo hi c ↔ S c) {x : Int32} {k : Nat} (hk : k < n) (h1 : (lo k : Int) ≤ x.toInt) (h2 : x.toInt ≤ hi k) : cr_Hs S x := by
  have a := hO.1 k hk
  obtain ⟨c, hc, rfl⟩ := cr_of (x := x) (by omega)
  rw [nI_toInt hc] at h1 h2
  exact ⟨c, by omega, rfl, (hI c).1 ⟨k, hk, by omega, by omega⟩⟩
theorem cr_Hs_out {n : Nat} {lo hi : Nat → Nat} {S : Nat → Prop} (hO : cr_Ok n lo hi) (hI : ∀ c, cr_In n lo hi c ↔ S c) {x : Int32} {k : Nat} (_hk : k ≤ n) (h1 : ∀ j, j < k → (hi j : Int) < x.toInt) (h2 : k < n → x.toInt < lo k) : ¬ cr_Hs S x := by
  rintro ⟨c, hc, rfl, hs⟩
  obtain ⟨j, hj, a, b⟩ := (hI c).2 hs
  rw [nI_toInt (by omega)] at h1 h2
  rcases Nat.lt_or_ge j k with e | e
  · have := h1 j e
    omega
  · have := h2 (by omega)
    have := (hO.mono e hj).2
    omega
theorem cr_first {n : Nat} {lo hi : Nat → Nat} (hO : cr_Ok n lo hi) {x j k : Nat} (hj : j < n) (h1 : lo j ≤ x) (h2 : x ≤ hi j) (hk : k ≤ n) (hk2 : ∀ i, i < k → (hi i : Int) < x) (hk3 : k < n → (x : Int) ≤ hi k) : k = j := by
  rcases Nat.lt_trichotomy k j with e | e | e
  · have := hk3 (by omega)
    have := hO.lt e hj
    omega
  · exact e
  · have := hk2 j e
    omega
theorem cr_minI (y : Int32) : (if nI 55295 < y then nI 55295 else y).toInt = min y.toInt 55295 := by
  by_cases h : nI 55295 < y
  · rw [if_pos h, nI_toInt (by decide)]
    rw [cr_nlt (by decide)] at h
    omega
  · rw [if_neg h]
    rw [cr_nlt (by decide)] at h
    omega
theorem cr_zb_nar {r : Int32} {P : Prop} (h : cr_zb r P) : narrow .boolean (.int r) = .int r := by
  rcases h with ⟨e, _⟩ | ⟨e, _⟩
  · rw [e]; rfl
  · rw [e]; rfl
/-- what 'range' answers -/
def cr_rng (n : Nat) (f g : Nat → Int32) (k w : Int32) : Int32 := if k < 0 ∨ nI n ≤ k then -1 else if w = 0 then f k.toNatClampNeg else if w = 1 then g k.toNatClampNeg else -1
theorem cr_rng_neg {n : Nat} {f g : Nat → Int32} {k w : Int32} (h : k < 0) : cr_rng n f g k w = -1 := by unfold cr_rng; rw [if_pos (Or.inl h)]
theorem cr_rng_big {n : Nat} {f g : Nat → Int32} {k w : Int32} (h : ¬ k < nI n) : cr_rng n f g k w = -1 := by unfold cr_rng; rw [if_pos (Or.inr (Int32.not_lt.mp h))]
theorem cr_rng_0 {n : Nat} {f g : Nat → Int32} {k w : Int32} (h1 : ¬ k < 0) (h2 : k < nI n) (h3 : w = 0) : cr_rng n f g k w = f k.toNatClampNeg := by
  unfold cr_rng
  rw [if_neg (fun h => h.elim h1 (fun q => absurd h2 (Int32.not_lt.mpr q))), if_pos h3]
theorem cr_rng_1 {n : Nat} {f g : Nat → Int32} {k w : Int32} (h1 : ¬ k < 0) (h2 : k < nI n) (h3 : ¬ w = 0) (h4 : w = nI 1) : cr_rng n f g k w = g k.toNatClampNeg := by
  unfold cr_rng
  rw [if_neg (fun h => h.elim h1 (fun q => absurd h2 (Int32.not_lt.mpr q))), if_neg h3, if_pos (show w = 1 from h4)]
theorem cr_rng_2 {n : Nat} {f g : Nat → Int32} {k w : Int32} (h1 : ¬ k < 0) (h2 : k < nI n) (h3 : ¬ w = 0) (h4 : ¬ w = nI 1) : cr_rng n f g k w = -1 := by
  unfold cr_rng
  rw [if_neg (fun h => h.elim h1 (fun q => absurd h2 (Int32.not_lt.mpr q))), if_neg h3, if_neg (show ¬ w = 1 from h4)]
theorem cr_in_of {k : Int32} {n N : Nat} (h1 : ¬ k < 0) (h2 : k < nI n) (hn : n ≤ N) (hN : N < 2 ^ 31 := by decide) : vp_in k N := by
  rw [vp_in_iff]
  rw [cr_lt0] at h1
  rw [cr_ltn (by omega)] at h2
  omega
theorem cr_ne_m1 {c : Nat} (h : c < 2 ^ 31) : ¬ nI c = -1 := by
  intro e
  have h2 := congrArg Int32.toInt e
  rw [nI_toInt h, cr_m1] at h2
  omega
end
section
/-! PURE: what is alike -/
def cr_sl (c : Nat) : Nat := if (65 ≤ c ∧ c ≤ 90) ∨ (192 ≤ c ∧ c ≤ 222 ∧ c ≠ 215) ∨ (913 ≤ c ∧ c ≤ 937) ∨ (1040 ≤ c ∧ c ≤ 1071) then c + 32 else if 1024 ≤ c ∧ c ≤ 1039 then c + 80 else c
def cr_sw (v : Nat) : Nat := if v = 8490 then 107 else if v = 383 then 115 else if v = 8491 then 229 else if v = 181 then 956 else if v = 962 then 963 else v
/-- which one of the alike ones stands for c -/
def cr_sf (c : Nat) : Nat := cr_sw (cr_sl c)
/-- the other letter -/
def cr_lp (x : Nat) : Nat := if (97 ≤ x ∧ x ≤ 122) ∨ (224 ≤ x ∧ x ≤ 246) ∨ (248 ≤ x ∧ x ≤ 254) ∨ (945 ≤ x ∧ x ≤ 969) ∨ (1072 ≤ x ∧ x ≤ 1103) then x - 32 else if 1104 ≤ x ∧ x ≤ 1119 then x - 80 else cr_sl x
/-- the other one of a pair -/
def cr_pp (x : Nat) : Nat := if x = 962 then 963 else if x = 963 then 962 else if x = 107 then 8490 else if x = 8490 then 107 else if x = 115 then 383 else if x = 383 then 115 else if x = 229 then 8491 else if x = 8491 then 229 else if x = 181 then 956 else if x = 956 then 181 else x
/-- which pair, 5: none -/
def cr_pk (x : Nat) : Nat := if x = 962 ∨ x = 963 then 0 else if x = 107 ∨ x = 8490 then 1 else if x = 115 ∨ x = 383 then 2 else if x = 229 ∨ x = 8491 then 3 else if x = 181 ∨ x = 956 then 4 else 5
def cr_fold (S : Nat → Prop) (c : Nat) : Prop := ∃ d, S d ∧ cr_sf d = cr_sf c
def cr_six (x : Nat) : List Nat := [x, cr_lp x, cr_pp x, cr_lp (cr_pp x), cr_pp (cr_lp x), cr_lp (cr_pp (cr_lp x))]
def cr_cand (v : Nat) : List Nat := [v, v - 32, v - 80, 8490, 8491, 383, 181, 962, 930]
theorem cr_sl_in (c : Nat) : (cr_sl c = c + 32 ∧ ((65 ≤ c ∧ c ≤ 90) ∨ (192 ≤ c ∧ c ≤ 222 ∧ c ≠ 215) ∨ (913 ≤ c ∧ c ≤ 937) ∨ (1040 ≤ c ∧ c ≤ 1071))) ∨ (cr_sl c = c + 80 ∧ 1024 ≤ c ∧ c ≤ 1039) ∨ (cr_sl c = c ∧ ¬ ((65 ≤ c ∧ c ≤ 90) ∨ (192 ≤ c ∧ c ≤ 222 ∧ c ≠ 215) ∨ (913 ≤ c ∧ c ≤ 937) ∨ (1040 ≤ c ∧ c ≤ 1071)) ∧ ¬ (1024 ≤ c ∧ c ≤ 1039)) := by
  unfold cr_sl
  split
  · exact Or.inl ⟨rfl, by assumption⟩
  · split
    · exact Or.inr (Or.inl ⟨rfl, by assumption⟩)
    · exact Or.inr (Or.inr ⟨rfl, by assumption, by assumption⟩)
theorem cr_sw_in (v : Nat) : (v = 8490 ∧ cr_sw v = 107) ∨ (v = 383 ∧ cr_sw v = 115) ∨ (v = 8491 ∧ cr_sw v = 229) ∨ (v = 181 ∧ cr_sw v = 956) ∨ (v = 962 ∧ cr_sw v = 963) ∨ (cr_sw v = v ∧ v ≠ 8490 ∧ v ≠ 383 ∧ v ≠ 8491 ∧ v ≠ 181 ∧ v ≠ 962) := by
  unfold cr_sw
  split
  · omega
  · split
    · omega
    · split
      · omega
      · split
        · omega
        · split <;> omega
theorem cr_cand_of (d : Nat) : d ∈ cr_cand (cr_sf d) := by
  have a := cr_sl_in d
  have b := cr_sw_in (cr_sl d)
  unfold cr_cand cr_sf
  simp only [List.mem_cons, List.not_mem_nil, or_false]
  omega
theorem cr_six_ok : ∀ x, x < 1120 → ∀ d ∈ cr_six x, cr_sf d = cr_sf x := by decide +kernel
theorem cr_six_all : ∀ x, x < 1120 → ∀ d ∈ cr_cand (cr_sf x), cr_sf d = cr_sf x → d ∈ cr_six x := by decide +kernel
theorem cr_six_k : (∀ d ∈ cr_six 8490, cr_sf d = cr_sf 8490) ∧ ∀ d ∈ cr_cand (cr_sf 8490), cr_sf d = cr_sf 8490 → d ∈ cr_six 8490 := by decide +kernel
theorem cr_six_a : (∀ d ∈ cr_six 8491, cr_sf d = cr_sf 8491) ∧ ∀ d ∈ cr_cand (cr_sf 8491), cr_sf d = cr_sf 8491 → d ∈ cr_six 8491 := by decide +kernel
theorem cr_lp_big {x : Nat} (h : 1120 ≤ x) : cr_lp x = x := by
  unfold cr_lp cr_sl
  rw [if_neg (by omega), if_neg (by omega), if_neg (by omega), if_neg (by omega)]
theorem cr_pp_big {x : Nat} (h : 1120 ≤ x) (h1 : x ≠ 8490) (h2 : x ≠ 8491) : cr_pp x = x := by
  unfold cr_pp
  rw [if_neg (by omega), if_neg (by omega), if_neg (by omega), if_neg h1, if_neg (by omega), if_neg (by omega), if_neg (by omega), if_neg h2, if_neg (by omega), if_neg (by omega)]
theorem cr_sf_big {x : Nat} (h : 1120 ≤ x) (h1 : x ≠ 8490) (h2 : x ≠ 8491) : cr_sf x = x ∧ ∀ d, cr_sf d = x → d = x := by
  have key : ∀ d, cr_sf d = x → d = x := fun d hd => by
    have a := cr_sl_in d
    have b := cr_sw_in (cr_sl d)
    unfold cr_sf at hd
    omega
  have a := cr_sl_in x
  have b := cr_sw_in (cr_sl x)
  exact ⟨by unfold cr_sf; omega, key⟩
/-- what is alike to x is one of six -/
theorem cr_fold_six (S : Nat → Prop) (x : Nat) : cr_fold S x ↔ ∃ d ∈ cr_six x, S d := by
  by_cases hx : x < 1120
  · constructor
    · rintro ⟨d, hd, e⟩
      exact ⟨d, cr_six_all x hx d (by rw [← e]; exact cr_cand_of d) e, hd⟩
    · rintro ⟨d, hd, e⟩
      exact ⟨d, e, cr_six_ok x hx d hd⟩
  · by_cases h1 : x = 8490
    · subst h1
      constructor
      · rintro ⟨d, hd, e⟩
        exact ⟨d, cr_six_k.2 d (by rw [← e]; exact cr_cand_of d) e, hd⟩
      · rintro ⟨d, hd, e⟩
        exact ⟨d, e, cr_six_k.1 d hd⟩
    · by_cases h2 : x = 8491
      · subst h2
        constructor
        · rintro ⟨d, hd, e⟩
          exact ⟨d, cr_six_a.2 d (by rw [← e]; exact cr_cand_of d) e, hd⟩
        · rintro ⟨d, hd, e⟩
          exact ⟨d, e, cr_six_a.1 d hd⟩
      · have hb := cr_sf_big (x := x) (by omega) h1 h2
        have h3 : cr_six x = [x, x, x, x, x, x] := by
          unfold cr_six
          rw [cr_lp_big (by omega), cr_pp_big (by omega) h1 h2, cr_lp_big (by omega)]
        rw [h3]
        constructor
        · rintro ⟨d, hd, e⟩
          rw [hb.1] at e
          exact ⟨x, List.mem_cons_self, by rw [← hb.2 d e]; exact hd⟩
        · rintro ⟨d, hd, e⟩
          refine ⟨d, e, ?_⟩
          simp only [List.mem_cons, List.not_mem_nil, or_false, or_self] at hd
          rw [hd]
/-- the class's three turns -/
def cr_L (S : Nat → Prop) (x : Nat) : Prop := S x ∨ S (cr_lp x)
def cr_Q (S : Nat → Prop) (x : Nat) : Prop := S x ∨ S (cr_pp x)
theorem cr_lp_lp : ∀ x, cr_lp (cr_lp x) = x := by
  intro x
  by_cases hx : x < 1120
  · have : ∀ x, x < 1120 → cr_lp (cr_lp x) = x := by decide +kernel
    exact this x hx
  · rw [cr_lp_big (x := x) (by omega), cr_lp_big (by omega)]
theorem cr_LQL (S : Nat → Prop) (x : Nat) : cr_L (cr_Q (cr_L S)) x ↔ cr_fold S x := by
  rw [cr_fold_six]
  simp only [cr_L, cr_Q, cr_six, cr_lp_lp, List.mem_cons, List.not_mem_nil, or_false, exists_eq_or_imp, exists_eq_left]
  constructor
  · rintro (((h | h) | (h | h)) | ((h | h) | (h | h)))
    all_goals simp [h]
  · rintro (h | h | h | h | h | h)
    all_goals simp [h]
/-- a step of the letters' turn -/
theorem cr_L_step {S T : Nat → Prop} {c b : Nat} (hT : ∀ x, T x ↔ (S x ∨ (cr_sl x < c ∧ S (cr_lp x)))) (h1 : cr_lp c = b) (h2 : cr_lp b = c) (h3 : cr_sl c = c) (h4 : cr_sl b = c) (h5 : ∀ x, cr_sl x = c → x = c ∨ x = b) (x : Nat) :
    (T x ∨ ((x = c ∨ x = b) ∧ (T c ∨ T b))) ↔ (S x ∨ (cr_sl x < c + 1 ∧ S (cr_lp x))) := by
  have tc := hT c
  have tb := hT b
  have tx := hT x
  rw [h3] at tc
  rw [h4] at tb
  have tc' : T c ↔ S c := by rw [tc]; constructor; exact fun h => h.elim id (fun q => absurd q.1 (by omega)); exact Or.inl
  have tb' : T b ↔ S b := by rw [tb]; constructor; exact fun h => h.elim id (fun q => absurd q.1 (by omega)); exact Or.inl
  rw [tc', tb', tx]
  by_cases e : cr_sl x = c
  · rcases h5 x e with q | q
    · subst q
      rw [h1]
      constructor
      · rintro ((h | h) | h)
        · exact Or.inl h
        · exact absurd h.1 (by omega)
        · rcases h.2 with q | q
          · exact Or.inl q
          · exact Or.inr ⟨by omega, q⟩
      · rintro (h | h)
        · exact Or.inl (Or.inl h)
        · exact Or.inr ⟨Or.inl rfl, Or.inr h.2⟩
    · subst q
      rw [h2]
      constructor
      · rintro ((h | h) | h)
        · exact Or.inl h
        · exact absurd h.1 (by omega)
        · rcases h.2 with q | q
          · exact Or.inr ⟨by omega, q⟩
          · exact Or.inl q
      · rintro (h | h)
        · exact Or.inl (Or.inl h)
        · exact Or.inr ⟨Or.inr rfl, Or.inl h.2⟩
  · have n1 : x ≠ c := fun q => e (by rw [q]; exact h3)
    have n2 : x ≠ b := fun q => e (by rw [q]; exact h4)
    constructor
    · rintro ((h | h) | h)
      · exact Or.inl h
      · exact Or.inr ⟨by omega, h.2⟩
      · exact absurd h.1 (by omega)
    · rintro (h | h)
      · exact Or.inl (Or.inl h)
      · exact Or.inl (Or.inr ⟨by omega, h.2⟩)
/-- between two rows of letters nothing has another letter -/
theorem cr_L_hole {S T : Nat → Prop} {c c' : Nat} (hcc : c ≤ c') (hT : ∀ x, T x ↔ (S x ∨ (cr_sl x < c ∧ S (cr_lp x)))) (hh : ∀ x, c ≤ cr_sl x → cr_sl x < c' → cr_lp x = x) (x : Nat) : T x ↔ (S x ∨ (cr_sl x < c' ∧ S (cr_lp x))) := by
  rw [hT x]
  constructor
  · rintro (h | h)
    · exact Or.inl h
    · exact Or.inr ⟨by omega, h.2⟩
  · rintro (h | h)
    · exact Or.inl h
    · by_cases e : cr_sl x < c
      · exact Or.inr ⟨e, h.2⟩
      · have q := hh x (by omega) h.1
        rw [q] at h
        exact Or.inl h.2
/-- letters and what they are alike to -/
def cr_isL (x : Nat) : Prop := (65 ≤ x ∧ x ≤ 90) ∨ (97 ≤ x ∧ x ≤ 122) ∨ x = 181 ∨ (192 ≤ x ∧ x ≤ 214) ∨ (216 ≤ x ∧ x ≤ 222) ∨ (224 ≤ x ∧ x ≤ 246) ∨ (248 ≤ x ∧ x ≤ 254) ∨ x = 383 ∨ (913 ≤ x ∧ x ≤ 937) ∨ (945 ≤ x ∧ x ≤ 969) ∨ (1024 ≤ x ∧ x ≤ 1119) ∨ x = 8490 ∨ x = 8491
def cr_seg (a k : Nat) : List Nat := (List.range k).map (fun i => a + i)
theorem cr_seg_mem {a k x : Nat} : x ∈ cr_seg a k ↔ a ≤ x ∧ x < a + k := by
  unfold cr_seg
  rw [List.mem_map]
  constructor
  · rintro ⟨i, hi, rfl⟩
    rw [List.mem_range] at hi
    omega
  · intro h
    exact ⟨x - a, by rw [List.mem_range]; omega, by omega⟩
def cr_F : List Nat := cr_seg 65 27 ++ (cr_seg 97 27 ++ (cr_seg 181 2 ++ (cr_seg 192 24 ++ (cr_seg 216 8 ++ (cr_seg 224 24 ++ (cr_seg 248 8 ++ (cr_seg 383 2 ++ (cr_seg 913 26 ++ (cr_seg 945 26 ++ (cr_seg 1024 97 ++ cr_seg 8490 3))))))))))
theorem cr_F_len : cr_F.length = 274 := by decide +kernel
theorem cr_F_not {c : Nat} (h : c + 1 ∉ cr_F) : ¬ cr_isL c ∧ ¬ cr_isL (c + 1) := by
  unfold cr_F at h
  simp only [List.mem_append, cr_seg_mem] at h
  unfold cr_isL
  omega
/-- a set that differs from S in letters alone begins and ends where S does, or at a letter -/
theorem cr_Bd.letters {P : List Nat} {S T : Nat → Prop} (h : cr_Bd P S) (hF : ∀ c, c ∈ cr_F → c ∈ P) (hT : ∀ x, ¬ cr_isL x → (T x ↔ S x)) : cr_Bd P T := by
  refine ⟨h.1, fun c hc => ?_⟩
  have a := cr_F_not (c := c) (fun q => hc (hF _ q))
  rw [hT c a.1, hT (c + 1) a.2]
  exact h.2 c hc
theorem cr_sf_not {x : Nat} (h : ¬ cr_isL x) : cr_sf x = x ∧ ∀ d, cr_sf d = x → d = x := by
  unfold cr_isL at h
  refine ⟨?_, fun d hd => ?_⟩
  · have a := cr_sl_in x
    have b := cr_sw_in (cr_sl x)
    unfold cr_sf
    omega
  · have a := cr_sl_in d
    have b := cr_sw_in (cr_sl d)
    unfold cr_sf at hd
    omega
theorem cr_fold_not {S : Nat → Prop} {x : Nat} (h : ¬ cr_isL x) : cr_fold S x ↔ S x := by
  have a := cr_sf_not h
  constructor
  · rintro ⟨d, hd, e⟩
    rw [a.1] at e
    rw [← a.2 d e]
    exact hd
  · intro q
    exact ⟨x, q, rfl⟩
end
section
/-! PURE: rows -/
def cr_len (c : Nat) : Nat := if c < 128 then 1 else if c < 2048 then 2 else if c < 65536 then 3 else 4
def cr_lol (L : Nat) : Nat := if L = 1 then 127 else if L = 2 then 2047 else if L = 3 then 65535 else 1114111
theorem cr_len_in (c : Nat) : (cr_len c = 1 ∧ c < 128) ∨ (cr_len c = 2 ∧ 128 ≤ c ∧ c < 2048) ∨ (cr_len c = 3 ∧ 2048 ≤ c ∧ c < 65536) ∨ (cr_len c = 4 ∧ 65536 ≤ c) := by
  unfold cr_len
  split
  · omega
  · split
    · omega
    · split <;> omega
/-- where the run of level t (blocks of B) that begins at c may end at the latest -/
def cr_w (B c lim : Nat) : Nat := min lim (c / (64 * B) * (64 * B) + (64 * B - 1))
/-- behind the last whole block of B -/
def cr_e (B c lim : Nat) : Nat := (cr_w B c lim + 1) / B * B
/-- the last of the row that begins at c in a range that ends at high -/
def cr_last (c high : Nat) : Nat :=
  let lim := min high (cr_lol (cr_len c))
  if cr_len c = 1 then lim
  else if cr_len c = 2 then
    if c % 64 = 0 ∧ c < cr_e 64 c lim then cr_e 64 c lim - 1 else min lim (c / 64 * 64 + 63)
  else if cr_len c = 3 then
    if c % 4096 = 0 ∧ c < cr_e 4096 c lim then cr_e 4096 c lim - 1
    else if c % 64 = 0 ∧ c < cr_e 64 c lim then cr_e 64 c lim - 1 else min lim (c / 64 * 64 + 63)
  else
    if c % 262144 = 0 ∧ c < cr_e 262144 c lim then cr_e 262144 c lim - 1
    else if c % 4096 = 0 ∧ c < cr_e 4096 c lim then cr_e 4096 c lim - 1
    else if c % 64 = 0 ∧ c < cr_e 64 c lim then cr_e 64 c lim - 1 else min lim (c / 64 * 64 + 63)
theorem cr_last1 {c high : Nat} (h : c < 128) : cr_last c high = min high 127 := by
  have e : cr_len c = 1 := by unfold cr_len; rw [if_pos h]
  unfold cr_last
  simp only [e, cr_lol, if_true]
theorem cr_last2 {c high : Nat} (h : 128 ≤ c) (h2 : c < 2048) : cr_last c high = if c % 64 = 0 ∧ c < cr_e 64 c (min high 2047) then cr_e 64 c (min high 2047) - 1 else min (min high 2047) (c / 64 * 64 + 63) := by
  have e : cr_len c = 2 := by unfold cr_len; rw [if_neg (by omega), if_pos h2]
  unfold cr_last
  simp only [e, cr_lol, if_true]
  rfl
theorem cr_last3 {c high : Nat} (h : 2048 ≤ c) (h2 : c < 65536) : cr_last c high = if c % 4096 = 0 ∧ c < cr_e 4096 c (min high 65535) then cr_e 4096 c (min high 65535) - 1 else if c % 64 = 0 ∧ c < cr_e 64 c (min high 65535) then cr_e 64 c (min high 65535) - 1 else min (min high 65535) (c / 64 * 64 + 63) := by
  have e : cr_len c = 3 := by unfold cr_len; rw [if_neg (by omega), if_neg (by omega), if_pos h2]
  unfold cr_last
  simp only [e, cr_lol, if_true]
  rfl
theorem cr_last4 {c high : Nat} (h : 65536 ≤ c) : cr_last c high = if c % 262144 = 0 ∧ c < cr_e 262144 c (min high 1114111) then cr_e 262144 c (min high 1114111) - 1 else if c % 4096 = 0 ∧ c < cr_e 4096 c (min high 1114111) then cr_e 4096 c (min high 1114111) - 1 else if c % 64 = 0 ∧ c < cr_e 64 c (min high 1114111) then cr_e 64 c (min high 1114111) - 1 else min (min high 1114111) (c / 64 * 64 + 63) := by
  have e : cr_len c = 4 := by unfold cr_len; rw [if_neg (by omega), if_neg (by omega), if_neg (by omega)]
  unfold cr_last
  simp only [e, cr_lol, if_true]
  rfl
/-- the bytes of c .. d are all that one row takes: all bytes behind one that varies are whole -/
def cr_row (c d : Nat) : Prop := cr_len c = cr_len d ∧ c ≤ d ∧ d ≤ 1114111 ∧ ((c / 64 = d / 64) ∨ (c % 64 = 0 ∧ (d + 1) % 64 = 0 ∧ c / 4096 = d / 4096) ∨ (c % 4096 = 0 ∧ (d + 1) % 4096 = 0 ∧ c / 262144 = d / 262144) ∨ (c % 262144 = 0 ∧ (d + 1) % 262144 = 0) ∨ cr_len c = 1)
theorem cr_e_eq {B c lim : Nat} : cr_e B c lim = (min lim (c / (64 * B) * (64 * B) + (64 * B - 1)) + 1) / B * B := rfl
theorem cr_e64 (c lim : Nat) : cr_e 64 c lim = (min lim (c / 4096 * 4096 + 4095) + 1) / 64 * 64 := rfl
theorem cr_e4096 (c lim : Nat) : cr_e 4096 c lim = (min lim (c / 262144 * 262144 + 262143) + 1) / 4096 * 4096 := rfl
theorem cr_e262144 (c lim : Nat) : cr_e 262144 c lim = (min lim (c / 16777216 * 16777216 + 16777215) + 1) / 262144 * 262144 := rfl
theorem cr_len_eq1 {c : Nat} (h : c < 128) : cr_len c = 1 := by unfold cr_len; rw [if_pos h]
theorem cr_len_eq2 {c : Nat} (h : 128 ≤ c) (h2 : c < 2048) : cr_len c = 2 := by unfold cr_len; rw [if_neg (by omega), if_pos h2]
theorem cr_len_eq3 {c : Nat} (h : 2048 ≤ c) (h2 : c < 65536) : cr_len c = 3 := by unfold cr_len; rw [if_neg (by omega), if_neg (by omega), if_pos h2]
theorem cr_len_eq4 {c : Nat} (h : 65536 ≤ c) : cr_len c = 4 := by unfold cr_len; rw [if_neg (by omega), if_neg (by omega), if_neg (by omega)]
set_option maxRecDepth 8000 in
/-- it lies between c and high, it is a row, and the longest one -/
theorem cr_last_in1 {c high : Nat} (hc : c ≤ high) (hh : high ≤ 1114111) (h : c < 128) : c ≤ cr_last c high ∧ cr_last c high ≤ high ∧ cr_row c (cr_last c high) ∧ ∀ d, cr_row c d → d ≤ high → d ≤ cr_last c high := by
  rw [cr_last1 h]
  refine ⟨by omega, by omega, ⟨?_, by omega, by omega, by rw [cr_len_eq1 h]; exact Or.inr (Or.inr (Or.inr (Or.inr rfl)))⟩, fun d hd hdh => ?_⟩
  · rw [cr_len_eq1 h, cr_len_eq1 (by omega)]
  · have a := hd.1
    rw [cr_len_eq1 h] at a
    have b := cr_len_in d
    omega
set_option maxRecDepth 8000 in
theorem cr_last_in2 {c high : Nat} (hc : c ≤ high) (hh : high ≤ 1114111) (h : 128 ≤ c) (h2 : c < 2048) : c ≤ cr_last c high ∧ cr_last c high ≤ high ∧ cr_row c (cr_last c high) ∧ ∀ d, cr_row c d → d ≤ high → d ≤ cr_last c high := by
  have key : c ≤ cr_last c high ∧ cr_last c high ≤ high ∧ cr_last c high < 2048 ∧ ((c / 64 = cr_last c high / 64) ∨ (c % 64 = 0 ∧ (cr_last c high + 1) % 64 = 0)) ∧ ∀ d, c ≤ d → d < 2048 → ((c / 64 = d / 64) ∨ (c % 64 = 0 ∧ (d + 1) % 64 = 0)) → d ≤ high → d ≤ cr_last c high := by
    rw [cr_last2 h h2, cr_e64]
    split <;> refine ⟨by omega, by omega, by omega, by omega, fun d _ _ _ _ => by omega⟩
  obtain ⟨k1, k2, k3, k4, k5⟩ := key
  refine ⟨k1, k2, ⟨?_, k1, by omega, by omega⟩, fun d hd hdh => ?_⟩
  · rw [cr_len_eq2 h h2, cr_len_eq2 (by omega) k3]
  · obtain ⟨a, b, e, f⟩ := hd
    rw [cr_len_eq2 h h2] at a f
    have g := cr_len_in d
    exact k5 d b (by omega) (by omega) hdh
set_option maxRecDepth 8000 in
theorem cr_last_in3 {c high : Nat} (hc : c ≤ high) (hh : high ≤ 1114111) (h : 2048 ≤ c) (h2 : c < 65536) : c ≤ cr_last c high ∧ cr_last c high ≤ high ∧ cr_row c (cr_last c high) ∧ ∀ d, cr_row c d → d ≤ high → d ≤ cr_last c high := by
  have key : c ≤ cr_last c high ∧ cr_last c high ≤ high ∧ cr_last c high < 65536 ∧ ((c / 64 = cr_last c high / 64) ∨ (c % 64 = 0 ∧ (cr_last c high + 1) % 64 = 0 ∧ c / 4096 = cr_last c high / 4096) ∨ (c % 4096 = 0 ∧ (cr_last c high + 1) % 4096 = 0)) ∧ ∀ d, c ≤ d → d < 65536 → ((c / 64 = d / 64) ∨ (c % 64 = 0 ∧ (d + 1) % 64 = 0 ∧ c / 4096 = d / 4096) ∨ (c % 4096 = 0 ∧ (d + 1) % 4096 = 0)) → d ≤ high → d ≤ cr_last c high := by
    rw [cr_last3 h h2, cr_e64, cr_e4096]
    split
    · refine ⟨by omega, by omega, by omega, by omega, fun d _ _ _ _ => by omega⟩
    · split <;> refine ⟨by omega, by omega, by omega, by omega, fun d _ _ _ _ => by omega⟩
  obtain ⟨k1, k2, k3, k4, k5⟩ := key
  refine ⟨k1, k2, ⟨?_, k1, by omega, by omega⟩, fun d hd hdh => ?_⟩
  · rw [cr_len_eq3 h h2, cr_len_eq3 (by omega) k3]
  · obtain ⟨a, b, e, f⟩ := hd
    rw [cr_len_eq3 h h2] at a f
    have g := cr_len_in d
    exact k5 d b (by omega) (by omega) hdh
set_option maxRecDepth 8000 in
theorem cr_last_in4 {c high : Nat} (hc : c ≤ high) (hh : high ≤ 1114111) (h : 65536 ≤ c) : c ≤ cr_last c high ∧ cr_last c high ≤ high ∧ cr_row c (cr_last c high) ∧ ∀ d, cr_row c d → d ≤ high → d ≤ cr_last c high := by
  have key : c ≤ cr_last c high ∧ cr_last c high ≤ high ∧ ((c / 64 = cr_last c high / 64) ∨ (c % 64 = 0 ∧ (cr_last c high + 1) % 64 = 0 ∧ c / 4096 = cr_last c high / 4096) ∨ (c % 4096 = 0 ∧ (cr_last c high + 1) % 4096 = 0 ∧ c / 262144 = cr_last c high / 262144) ∨ (c % 262144 = 0 ∧ (cr_last c high + 1) % 262144 = 0)) ∧ ∀ d, c ≤ d → ((c / 64 = d / 64) ∨ (c % 64 = 0 ∧ (d + 1) % 64 = 0 ∧ c / 4096 = d / 4096) ∨ (c % 4096 = 0 ∧ (d + 1) % 4096 = 0 ∧ c / 262144 = d / 262144) ∨ (c % 262144 = 0 ∧ (d + 1) % 262144 = 0)) → d ≤ high → d ≤ cr_last c high := by
    rw [cr_last4 h, cr_e64, cr_e4096, cr_e262144]
    split
    · refine ⟨by omega, by omega, by omega, fun d _ _ _ => by omega⟩
    · split
      · refine ⟨by omega, by omega, by omega, fun d _ _ _ => by omega⟩
      · split <;> refine ⟨by omega, by omega, by omega, fun d _ _ _ => by omega⟩
  obtain ⟨k1, k2, k4, k5⟩ := key
  refine ⟨k1, k2, ⟨?_, k1, by omega, by omega⟩, fun d hd hdh => ?_⟩
  · rw [cr_len_eq4 h, cr_len_eq4 (by omega)]
  · obtain ⟨a, b, e, f⟩ := hd
    rw [cr_len_eq4 h] at f
    exact k5 d b (by omega) hdh
set_option maxRecDepth 8000 in
theorem cr_last_in {c high : Nat} (hc : c ≤ high) (hh : high ≤ 1114111) : c ≤ cr_last c high ∧ cr_last c high ≤ high ∧ cr_row c (cr_last c high) ∧ ∀ d, cr_row c d → d ≤ high → d ≤ cr_last c high := by
  rcases cr_len_in c with h | h | h | h
  · exact cr_last_in1 hc hh h.2
  · exact cr_last_in2 hc hh h.2.1 h.2.2
  · exact cr_last_in3 hc hh h.2.1 h.2.2
  · exact cr_last_in4 hc hh h.2
/-! how many rows a range has at most -/
def cr_le : Nat → Nat → Nat → Prop
  | 0, c, high => high < c
  | m + 1, c, high => high < c ∨ cr_le m (cr_last c high + 1) high
theorem cr_le_out {m c high : Nat} (h : high < c) : cr_le m c high := by
  cases m with
  | zero => exact h
  | succ m => exact Or.inl h
theorem cr_le_more : ∀ (m k c high : Nat), m ≤ k → cr_le m c high → cr_le k c high := by
  intro m
  induction m with
  | zero => intro k c high _ h; exact cr_le_out h
  | succ m ih =>
    intro k c high hk h
    cases k with
    | zero => omega
    | succ k =>
      rcases h with h | h
      · exact Or.inl h
      · exact Or.inr (ih k _ _ (by omega) h)
/-- rows go up to the end of the length, M more behind it -/
def cr_M (M e high : Nat) : Prop := cr_le M e high
set_option maxRecDepth 8000 in
theorem cr_f4_0 {c high : Nat} (hh : high ≤ 1114111) (h : 65536 ≤ c) (ha : c % 64 = 0) (hr : high + 1 - c < 64) : cr_le 1 c high := by
  rcases Nat.lt_or_ge high c with q | q
  · exact Or.inl q
  · refine Or.inr ?_
    show high < _
    rw [cr_last4 h, cr_e64, cr_e4096, cr_e262144]
    split
    · omega
    · split
      · omega
      · split <;> omega
set_option maxRecDepth 8000 in
theorem cr_f4_1 {c high : Nat} (hh : high ≤ 1114111) (h : 65536 ≤ c) (ha : c % 4096 = 0) (hr : high + 1 - c < 4096) : cr_le 2 c high := by
  rcases Nat.lt_or_ge high c with q | q
  · exact Or.inl q
  · rcases Nat.lt_or_ge (high + 1 - c) 64 with r | r
    · exact cr_le_more 1 2 _ _ (by omega) (cr_f4_0 hh h (by omega) r)
    · have e : cr_last c high + 1 = (high + 1) / 64 * 64 := by
        rw [cr_last4 h, cr_e64, cr_e4096, cr_e262144]
        split
        · omega
        · split
          · omega
          · split <;> omega
      refine Or.inr ?_
      rw [e]
      exact cr_f4_0 hh (by omega) (by omega) (by omega)
set_option maxRecDepth 8000 in
theorem cr_f4_2 {c high : Nat} (hh : high ≤ 1114111) (h : 65536 ≤ c) (ha : c % 262144 = 0) (hr : high + 1 - c < 262144) : cr_le 3 c high := by
  rcases Nat.lt_or_ge high c with q | q
  · exact Or.inl q
  · rcases Nat.lt_or_ge (high + 1 - c) 4096 with r | r
    · exact cr_le_more 2 3 _ _ (by omega) (cr_f4_1 hh h (by omega) r)
    · have e : cr_last c high + 1 = (high + 1) / 4096 * 4096 := by
        rw [cr_last4 h, cr_e64, cr_e4096, cr_e262144]
        split
        · omega
        · split
          · omega
          · split <;> omega
      refine Or.inr ?_
      rw [e]
      exact cr_f4_1 hh (by omega) (by omega) (by omega)
set_option maxRecDepth 8000 in
theorem cr_r4_3 {c high : Nat} (hh : high ≤ 1114111) (h : 65536 ≤ c) (ha : c % 262144 = 0) : cr_le 4 c high := by
  rcases Nat.lt_or_ge high c with q | q
  · exact Or.inl q
  · rcases Nat.lt_or_ge (high + 1 - c) 262144 with r | r
    · exact cr_le_more 3 4 _ _ (by omega) (cr_f4_2 hh h (by omega) r)
    · have e : cr_last c high + 1 = (high + 1) / 262144 * 262144 := by
        rw [cr_last4 h, cr_e64, cr_e4096, cr_e262144]
        split
        · omega
        · split
          · omega
          · split <;> omega
      refine Or.inr ?_
      rw [e]
      exact cr_f4_2 hh (by omega) (by omega) (by omega)
set_option maxRecDepth 8000 in
theorem cr_r4_2 {c high : Nat} (hh : high ≤ 1114111) (h : 65536 ≤ c) (ha : c % 4096 = 0) : cr_le 5 c high := by
  rcases Nat.lt_or_ge high c with q | q
  · exact Or.inl q
  · by_cases z : c % 262144 = 0
    · exact cr_le_more 4 5 _ _ (by omega) (cr_r4_3 hh h z)
    · rcases Nat.lt_or_ge high (c / 262144 * 262144 + 262143) with r | r
      · rcases Nat.lt_or_ge (high + 1 - c) 4096 with r2 | r2
        · exact cr_le_more 2 5 _ _ (by omega) (cr_f4_1 hh h ha r2)
        · have e : cr_last c high + 1 = (high + 1) / 4096 * 4096 := by
            rw [cr_last4 h, cr_e64, cr_e4096, cr_e262144]
            split
            · omega
            · split
              · omega
              · split <;> omega
          refine Or.inr ?_
          rw [e]
          exact cr_le_more 2 4 _ _ (by omega) (cr_f4_1 hh (by omega) (by omega) (by omega))
      · have e : cr_last c high + 1 = c / 262144 * 262144 + 262144 := by
          rw [cr_last4 h, cr_e64, cr_e4096, cr_e262144]
          split
          · omega
          · split
            · omega
            · split <;> omega
        refine Or.inr ?_
        rw [e]
        exact cr_r4_3 hh (by omega) (by omega)
set_option maxRecDepth 8000 in
theorem cr_r4_1 {c high : Nat} (hh : high ≤ 1114111) (h : 65536 ≤ c) (ha : c % 64 = 0) : cr_le 6 c high := by
  rcases Nat.lt_or_ge high c with q | q
  · exact Or.inl q
  · by_cases z : c % 4096 = 0
    · exact cr_le_more 5 6 _ _ (by omega) (cr_r4_2 hh h z)
    · rcases Nat.lt_or_ge high (c / 4096 * 4096 + 4095) with r | r
      · rcases Nat.lt_or_ge (high + 1 - c) 64 with r2 | r2
        · exact cr_le_more 1 6 _ _ (by omega) (cr_f4_0 hh h ha r2)
        · have e : cr_last c high + 1 = (high + 1) / 64 * 64 := by
            rw [cr_last4 h, cr_e64, cr_e4096, cr_e262144]
            split
            · omega
            · split
              · omega
              · split <;> omega
          refine Or.inr ?_
          rw [e]
          exact cr_le_more 1 5 _ _ (by omega) (cr_f4_0 hh (by omega) (by omega) (by omega))
      · have e : cr_last c high + 1 = c / 4096 * 4096 + 4096 := by
          rw [cr_last4 h, cr_e64, cr_e4096, cr_e262144]
          split
          · omega
          · split
            · omega
            · split <;> omega
        refine Or.inr ?_
        rw [e]
        exact cr_r4_2 hh (by omega) (by omega)
set_option maxRecDepth 8000 in
theorem cr_r4_0 {c high : Nat} (hh : high ≤ 1114111) (h : 65536 ≤ c) : cr_le 7 c high := by
  rcases Nat.lt_or_ge high c with q | q
  · exact Or.inl q
  · by_cases z : c % 64 = 0
    · exact cr_le_more 6 7 _ _ (by omega) (cr_r4_1 hh h z)
    · rcases Nat.lt_or_ge high (c / 64 * 64 + 63) with r | r
      · have e : cr_last c high + 1 = high + 1 := by
          rw [cr_last4 h, cr_e64, cr_e4096, cr_e262144]
          split
          · omega
          · split
            · omega
            · split <;> omega
        refine Or.inr ?_
        rw [e]
        exact cr_le_out (by omega)
      · have e : cr_last c high + 1 = c / 64 * 64 + 64 := by
          rw [cr_last4 h, cr_e64, cr_e4096, cr_e262144]
          split
          · omega
          · split
            · omega
            · split <;> omega
        refine Or.inr ?_
        rw [e]
        exact cr_r4_1 hh (by omega) (by omega)
set_option maxRecDepth 8000 in
/-- three bytes: behind the end of the length, at most 7 more -/
theorem cr_x3 {high : Nat} (hh : high ≤ 1114111) : cr_le 7 (min high 65535 + 1) high := by
  rcases Nat.lt_or_ge high 65536 with q | q
  · exact cr_le_out (by omega)
  · have e : min high 65535 + 1 = 65536 := by omega
    rw [e]
    exact cr_r4_0 hh (by omega)
set_option maxRecDepth 8000 in
theorem cr_f3_0 {c high : Nat} (hh : high ≤ 1114111) (h : 2048 ≤ c) (ha : c % 64 = 0) (hc : c ≤ min high 65535 + 1) (hr : min high 65535 + 1 - c < 64) : cr_le 8 c high := by
  rcases Nat.lt_or_ge (min high 65535) c with q | q
  · have e : c = min high 65535 + 1 := by omega
    rw [e]
    exact cr_le_more 7 8 _ _ (by omega) (cr_x3 hh)
  · refine Or.inr ?_
    have e : cr_last c high + 1 = min high 65535 + 1 := by
      rw [cr_last3 h (by omega), cr_e64, cr_e4096]
      split
      · omega
      · split <;> omega
    rw [e]
    exact cr_x3 hh
set_option maxRecDepth 8000 in
theorem cr_f3_1 {c high : Nat} (hh : high ≤ 1114111) (h : 2048 ≤ c) (ha : c % 4096 = 0) (hc : c ≤ min high 65535 + 1) (hr : min high 65535 + 1 - c < 4096) : cr_le 9 c high := by
  rcases Nat.lt_or_ge (min high 65535 + 1 - c) 64 with r | r
  · exact cr_le_more 8 9 _ _ (by omega) (cr_f3_0 hh h (by omega) hc r)
  · have e : cr_last c high + 1 = (min high 65535 + 1) / 64 * 64 := by
      rw [cr_last3 h (by omega), cr_e64, cr_e4096]
      split
      · omega
      · split <;> omega
    refine Or.inr ?_
    rw [e]
    exact cr_f3_0 hh (by omega) (by omega) (by omega) (by omega)
set_option maxRecDepth 8000 in
theorem cr_r3_2 {c high : Nat} (hh : high ≤ 1114111) (h : 2048 ≤ c) (ha : c % 4096 = 0) (hc : c ≤ min high 65535 + 1) : cr_le 10 c high := by
  rcases Nat.lt_or_ge (min high 65535 + 1 - c) 4096 with r | r
  · exact cr_le_more 9 10 _ _ (by omega) (cr_f3_1 hh h (by omega) hc r)
  · have e : cr_last c high + 1 = (min high 65535 + 1) / 4096 * 4096 := by
      rw [cr_last3 h (by omega), cr_e64, cr_e4096]
      split
      · omega
      · split <;> omega
    refine Or.inr ?_
    rw [e]
    exact cr_f3_1 hh (by omega) (by omega) (by omega) (by omega)
set_option maxRecDepth 8000 in
theorem cr_r3_1 {c high : Nat} (hh : high ≤ 1114111) (h : 2048 ≤ c) (ha : c % 64 = 0) (hc : c ≤ min high 65535 + 1) : cr_le 11 c high := by
  by_cases z : c % 4096 = 0
  · exact cr_le_more 10 11 _ _ (by omega) (cr_r3_2 hh h z hc)
  · rcases Nat.lt_or_ge (min high 65535) (c / 4096 * 4096 + 4095) with r | r
    · rcases Nat.lt_or_ge (min high 65535 + 1 - c) 64 with r2 | r2
      · exact cr_le_more 8 11 _ _ (by omega) (cr_f3_0 hh h ha hc r2)
      · have e : cr_last c high + 1 = (min high 65535 + 1) / 64 * 64 := by
          rw [cr_last3 h (by omega), cr_e64, cr_e4096]
          split
          · omega
          · split <;> omega
        refine Or.inr ?_
        rw [e]
        exact cr_le_more 8 10 _ _ (by omega) (cr_f3_0 hh (by omega) (by omega) (by omega) (by omega))
    · have e : cr_last c high + 1 = c / 4096 * 4096 + 4096 := by
        rw [cr_last3 h (by omega), cr_e64, cr_e4096]
        split
        · omega
        · split <;> omega
      refine Or.inr ?_
      rw [e]
      have hz : c / 4096 * 4096 + 4096 ≤ min high 65535 + 1 := by
        generalize c / 4096 * 4096 = v at r ⊢
        clear e
        omega
      exact cr_r3_2 hh (by omega) (by omega) hz
set_option maxRecDepth 8000 in
theorem cr_r3_0 {c high : Nat} (hh : high ≤ 1114111) (h : 2048 ≤ c) (hc : c ≤ min high 65535 + 1) : cr_le 12 c high := by
  by_cases z : c % 64 = 0
  · exact cr_le_more 11 12 _ _ (by omega) (cr_r3_1 hh h z hc)
  · rcases Nat.lt_or_ge (min high 65535) (c / 64 * 64 + 63) with r | r
    · have e : cr_last c high + 1 = min high 65535 + 1 := by
        rw [cr_last3 h (by omega), cr_e64, cr_e4096]
        split
        · omega
        · split <;> omega
      refine Or.inr ?_
      rw [e]
      exact cr_le_more 7 11 _ _ (by omega) (cr_x3 hh)
    · have e : cr_last c high + 1 = c / 64 * 64 + 64 := by
        rw [cr_last3 h (by omega), cr_e64, cr_e4096]
        split
        · omega
        · split <;> omega
      refine Or.inr ?_
      rw [e]
      exact cr_r3_1 hh (by omega) (by omega) (by omega)
/-- two bytes: behind the end of the length, at most 12 more -/
theorem cr_x2 {high : Nat} (hh : high ≤ 1114111) : cr_le 12 (min high 2047 + 1) high := by
  rcases Nat.lt_or_ge high 2048 with q | q
  · exact cr_le_out (by omega)
  · have e : min high 2047 + 1 = 2048 := by omega
    rw [e]
    exact cr_r3_0 hh (by omega) (by omega)
set_option maxRecDepth 8000 in
theorem cr_f2_0 {c high : Nat} (hh : high ≤ 1114111) (h : 128 ≤ c) (ha : c % 64 = 0) (hc : c ≤ min high 2047 + 1) (hr : min high 2047 + 1 - c < 64) : cr_le 13 c high := by
  rcases Nat.lt_or_ge (min high 2047) c with q | q
  · have e : c = min high 2047 + 1 := by omega
    rw [e]
    exact cr_le_more 12 13 _ _ (by omega) (cr_x2 hh)
  · refine Or.inr ?_
    have e : cr_last c high + 1 = min high 2047 + 1 := by
      rw [cr_last2 h (by omega), cr_e64]
      split <;> omega
    rw [e]
    exact cr_x2 hh
set_option maxRecDepth 8000 in
theorem cr_r2_1 {c high : Nat} (hh : high ≤ 1114111) (h : 128 ≤ c) (ha : c % 64 = 0) (hc : c ≤ min high 2047 + 1) : cr_le 14 c high := by
  rcases Nat.lt_or_ge (min high 2047 + 1 - c) 64 with r | r
  · exact cr_le_more 13 14 _ _ (by omega) (cr_f2_0 hh h (by omega) hc r)
  · have e : cr_last c high + 1 = (min high 2047 + 1) / 64 * 64 := by
      rw [cr_last2 h (by omega), cr_e64]
      split <;> omega
    refine Or.inr ?_
    rw [e]
    exact cr_f2_0 hh (by omega) (by omega) (by omega) (by omega)
set_option maxRecDepth 8000 in
theorem cr_r2_0 {c high : Nat} (hh : high ≤ 1114111) (h : 128 ≤ c) (hc : c ≤ min high 2047 + 1) : cr_le 15 c high := by
  by_cases z : c % 64 = 0
  · exact cr_le_more 14 15 _ _ (by omega) (cr_r2_1 hh h z hc)
  · rcases Nat.lt_or_ge (min high 2047) (c / 64 * 64 + 63) with r | r
    · have e : cr_last c high + 1 = min high 2047 + 1 := by
        rw [cr_last2 h (by omega), cr_e64]
        split <;> omega
      refine Or.inr ?_
      rw [e]
      exact cr_le_more 12 14 _ _ (by omega) (cr_x2 hh)
    · have e : cr_last c high + 1 = c / 64 * 64 + 64 := by
        rw [cr_last2 h (by omega), cr_e64]
        split <;> omega
      refine Or.inr ?_
      rw [e]
      exact cr_r2_1 hh (by omega) (by omega) (by omega)
set_option maxRecDepth 8000 in
theorem cr_le16 {c high : Nat} (hh : high ≤ 1114111) : cr_le 16 c high := by
  rcases Nat.lt_or_ge high c with q | q
  · exact cr_le_out q
  · rcases cr_len_in c with h | h | h | h
    · refine Or.inr ?_
      rw [cr_last1 h.2]
      rcases Nat.lt_or_ge high 128 with r | r
      · exact cr_le_out (by omega)
      · have e : min high 127 + 1 = 128 := by omega
        rw [e]
        exact cr_r2_0 hh (by omega) (by omega)
    · exact cr_le_more 15 16 _ _ (by omega) (cr_r2_0 hh h.2.1 (by omega))
    · exact cr_le_more 12 16 _ _ (by omega) (cr_r3_0 hh h.2.1 (by omega))
    · exact cr_le_more 7 16 _ _ (by omega) (cr_r4_0 hh h.2)
end
section
/-! PURE: bytes, and whether c .. d are one row -/
def cr_by (c i : Nat) : Nat := if i = 0 then (if c < 128 then c else if c < 2048 then 192 + c / 64 else if c < 65536 then 224 + c / 4096 else 240 + c / 262144) else 128 + c / 64 ^ (cr_len c - 1 - i) % 64
/-- the first i bytes are the same -/
def cr_sm (c d : Nat) : Nat → Bool
  | 0 => true
  | i + 1 => cr_sm c d i && (cr_by c i == cr_by d i)
def cr_fr (c d i : Nat) : Nat := if cr_sm c d i then cr_by c i else 128
def cr_to (c d i : Nat) : Nat := if cr_sm c d i then cr_by d i else 191
def cr_all (c d : Nat) : Nat → Nat
  | 0 => 1
  | i + 1 => cr_all c d i * (cr_to c d i - cr_fr c d i + 1)
theorem cr_by1 {c : Nat} (h : c < 128) : cr_by c 0 = c := by unfold cr_by; rw [if_pos rfl, if_pos h]
theorem cr_by2 {c : Nat} (h : 128 ≤ c) (h2 : c < 2048) : cr_by c 0 = 192 + c / 64 ∧ cr_by c 1 = 128 + c % 64 := by
  have e := cr_len_eq2 h h2
  unfold cr_by
  rw [if_pos rfl, if_neg (by omega), if_pos h2, e]
  exact ⟨rfl, by simp⟩
theorem cr_by3 {c : Nat} (h : 2048 ≤ c) (h2 : c < 65536) : cr_by c 0 = 224 + c / 4096 ∧ cr_by c 1 = 128 + c / 64 % 64 ∧ cr_by c 2 = 128 + c % 64 := by
  have e := cr_len_eq3 h h2
  unfold cr_by
  rw [if_pos rfl, if_neg (by omega), if_neg (by omega), if_pos h2, e]
  exact ⟨rfl, by simp, by simp⟩
theorem cr_by4 {c : Nat} (h : 65536 ≤ c) : cr_by c 0 = 240 + c / 262144 ∧ cr_by c 1 = 128 + c / 4096 % 64 ∧ cr_by c 2 = 128 + c / 64 % 64 ∧ cr_by c 3 = 128 + c % 64 := by
  have e := cr_len_eq4 h
  unfold cr_by
  rw [if_pos rfl, if_neg (by omega), if_neg (by omega), if_neg (by omega), e]
  exact ⟨rfl, by simp, by simp, by simp⟩
/-- bytes of two characters of one length: the later one has the greater byte where they first differ; and the count tells whether they are one row -/
def cr_good (c d L : Nat) : Prop := (∀ i, i < L → cr_fr c d i ≤ cr_to c d i ∧ cr_to c d i ≤ 255) ∧ (cr_all c d L = d - c + 1 ↔ cr_row c d) ∧ (cr_row c d → ∀ i, i < L → cr_fr c d i = cr_by c i ∧ cr_to c d i = cr_by d i)
theorem cr_good1 {c d : Nat} (h : c ≤ d) (hd : d < 128) : cr_good c d 1 := by
  have a := cr_by1 (c := c) (by omega)
  have b := cr_by1 hd
  refine ⟨fun i hi => ?_, ?_, fun _ i hi => ?_⟩
  · have : i = 0 := by omega
    subst this
    simp only [cr_fr, cr_to, cr_sm, if_true, a, b]
    omega
  · simp only [cr_all, cr_fr, cr_to, cr_sm, if_true, a, b, Nat.one_mul]
    constructor
    · intro _
      exact ⟨by rw [cr_len_eq1 (by omega), cr_len_eq1 hd], h, by omega, Or.inr (Or.inr (Or.inr (Or.inr (cr_len_eq1 (by omega)))))⟩
    · intro _
      trivial
  · have : i = 0 := by omega
    subst this
    simp [cr_fr, cr_to, cr_sm]
theorem cr_good2 {c d : Nat} (h : c ≤ d) (hc : 128 ≤ c) (hd : d < 2048) : cr_good c d 2 := by
  obtain ⟨a0, a1⟩ := cr_by2 hc (show c < 2048 by omega)
  obtain ⟨b0, b1⟩ := cr_by2 (show 128 ≤ d by omega) hd
  have hl : cr_len c = cr_len d := by rw [cr_len_eq2 hc (by omega), cr_len_eq2 (by omega) hd]
  have hr : cr_row c d ↔ ((c / 64 = d / 64) ∨ (c % 64 = 0 ∧ (d + 1) % 64 = 0)) := by
    unfold cr_row
    rw [cr_len_eq2 hc (by omega), cr_len_eq2 (by omega) hd]
    omega
  unfold cr_good
  rw [hr]
  by_cases e0 : c / 64 = d / 64
  · have s1 : cr_sm c d 1 = true := by simp [cr_sm, a0, b0, e0]
    have s0 : cr_sm c d 0 = true := rfl
    refine ⟨fun i hi => ?_, ?_, fun _ i hi => ?_⟩
    · rcases (show i = 0 ∨ i = 1 by omega) with q | q <;> subst q <;> simp only [cr_fr, cr_to, s0, s1, if_true, a0, a1, b0, b1] <;> omega
    · simp only [cr_all, cr_fr, cr_to, s0, s1, if_true, a0, a1, b0, b1]
      rw [e0]
      have : 192 + d / 64 - (192 + d / 64) + 1 = 1 := by omega
      rw [this]
      omega
    · rcases (show i = 0 ∨ i = 1 by omega) with q | q <;> subst q <;> simp only [cr_fr, cr_to, s0, s1, if_true] <;> exact ⟨trivial, trivial⟩
  · have s1 : cr_sm c d 1 = false := by simp [cr_sm, a0, b0, e0]
    have s0 : cr_sm c d 0 = true := rfl
    refine ⟨fun i hi => ?_, ?_, fun hq i hi => ?_⟩
    · rcases (show i = 0 ∨ i = 1 by omega) with q | q <;> subst q <;> simp only [cr_fr, cr_to, s0, s1, if_true, a0, a1, b0, b1] <;> simp <;> omega
    · simp only [cr_all, cr_fr, cr_to, s0, s1, if_true, a0, a1, b0, b1]
      simp
      omega
    · rcases (show i = 0 ∨ i = 1 by omega) with q | q
      · subst q; simp [cr_fr, cr_to, s0]
      · subst q
        simp only [cr_fr, cr_to, s1, a1, b1]
        simp
        omega
set_option maxRecDepth 8000 in
set_option maxHeartbeats 2000000 in
theorem cr_good3 {c d : Nat} (h : c ≤ d) (hc : 2048 ≤ c) (hd : d < 65536) : cr_good c d 3 := by
  obtain ⟨a0, a1, a2⟩ := cr_by3 hc (show c < 65536 by omega)
  obtain ⟨b0, b1, b2⟩ := cr_by3 (show 2048 ≤ d by omega) hd
  have y1 : c / 64 / 64 = c / 4096 := by rw [Nat.div_div_eq_div_mul]
  have y2 : d / 64 / 64 = d / 4096 := by rw [Nat.div_div_eq_div_mul]
  have hr : cr_row c d ↔ ((c / 64 = d / 64) ∨ (c % 64 = 0 ∧ (d + 1) % 64 = 0 ∧ c / 4096 = d / 4096) ∨ (c % 4096 = 0 ∧ (d + 1) % 4096 = 0)) := by
    unfold cr_row
    rw [cr_len_eq3 hc (by omega), cr_len_eq3 (by omega) hd]
    omega
  unfold cr_good
  rw [hr]
  by_cases e0 : c / 4096 = d / 4096
  · by_cases e1 : c / 64 % 64 = d / 64 % 64
    · have s0 : cr_sm c d 0 = true := rfl
      have s1 : cr_sm c d 1 = true := by simp [cr_sm, a0, a1, a2, b0, b1, b2, e0]
      have s2 : cr_sm c d 2 = true := by simp [cr_sm, a0, a1, a2, b0, b1, b2, e0, e1]
      refine ⟨fun i hi => ?_, ?_, fun hq i hi => ?_⟩
      · rcases (show i = 0 ∨ i = 1 ∨ i = 2 by omega) with q | q | q <;> subst q <;> simp only [cr_fr, cr_to, s0, s1, s2, if_true, a0, a1, a2, b0, b1, b2, Bool.false_eq_true, if_false] <;> omega
      · simp only [cr_all, cr_fr, cr_to, s0, s1, s2, if_true, a0, a1, a2, b0, b1, b2, Bool.false_eq_true, if_false]
        have z0 : 224 + d / 4096 - (224 + c / 4096) + 1 = 1 := by omega
        rw [z0]
        have z1 : 128 + d / 64 % 64 - (128 + c / 64 % 64) + 1 = 1 := by omega
        rw [z1]
        omega
      · rcases (show i = 0 ∨ i = 1 ∨ i = 2 by omega) with q | q | q <;> subst q <;> simp only [cr_fr, cr_to, s0, s1, s2, if_true, a0, a1, a2, b0, b1, b2, Bool.false_eq_true, if_false] <;> (refine ⟨?_, ?_⟩ <;> first | trivial | omega)
    · have s0 : cr_sm c d 0 = true := rfl
      have s1 : cr_sm c d 1 = true := by simp [cr_sm, a0, a1, a2, b0, b1, b2, e0]
      have s2 : cr_sm c d 2 = false := by simp [cr_sm, a0, a1, a2, b0, b1, b2, e0, e1]
      refine ⟨fun i hi => ?_, ?_, fun hq i hi => ?_⟩
      · rcases (show i = 0 ∨ i = 1 ∨ i = 2 by omega) with q | q | q <;> subst q <;> simp only [cr_fr, cr_to, s0, s1, s2, if_true, a0, a1, a2, b0, b1, b2, Bool.false_eq_true, if_false] <;> omega
      · simp only [cr_all, cr_fr, cr_to, s0, s1, s2, if_true, a0, a1, a2, b0, b1, b2, Bool.false_eq_true, if_false]
        have z0 : 224 + d / 4096 - (224 + c / 4096) + 1 = 1 := by omega
        rw [z0]
        omega
      · rcases (show i = 0 ∨ i = 1 ∨ i = 2 by omega) with q | q | q <;> subst q <;> simp only [cr_fr, cr_to, s0, s1, s2, if_true, a0, a1, a2, b0, b1, b2, Bool.false_eq_true, if_false] <;> (refine ⟨?_, ?_⟩ <;> first | trivial | omega)
  · have s0 : cr_sm c d 0 = true := rfl
    have s1 : cr_sm c d 1 = false := by simp [cr_sm, a0, a1, a2, b0, b1, b2, e0]
    have s2 : cr_sm c d 2 = false := by simp [cr_sm, a0, a1, a2, b0, b1, b2, e0]
    refine ⟨fun i hi => ?_, ?_, fun hq i hi => ?_⟩
    · rcases (show i = 0 ∨ i = 1 ∨ i = 2 by omega) with q | q | q <;> subst q <;> simp only [cr_fr, cr_to, s0, s1, s2, if_true, a0, a1, a2, b0, b1, b2, Bool.false_eq_true, if_false] <;> omega
    · simp only [cr_all, cr_fr, cr_to, s0, s1, s2, if_true, a0, a1, a2, b0, b1, b2, Bool.false_eq_true, if_false]
      omega
    · rcases (show i = 0 ∨ i = 1 ∨ i = 2 by omega) with q | q | q <;> subst q <;> simp only [cr_fr, cr_to, s0, s1, s2, if_true, a0, a1, a2, b0, b1, b2, Bool.false_eq_true, if_false] <;> (refine ⟨?_, ?_⟩ <;> first | trivial | omega)
set_option maxRecDepth 8000 in
set_option maxHeartbeats 2000000 in
theorem cr_good4 {c d : Nat} (h : c ≤ d) (hc : 65536 ≤ c) (hd : d ≤ 1114111) : cr_good c d 4 := by
  obtain ⟨a0, a1, a2, a3⟩ := cr_by4 hc
  obtain ⟨b0, b1, b2, b3⟩ := cr_by4 (show 65536 ≤ d by omega)
  have y1 : c / 64 / 64 = c / 4096 := by rw [Nat.div_div_eq_div_mul]
  have y2 : d / 64 / 64 = d / 4096 := by rw [Nat.div_div_eq_div_mul]
  have y3 : c / 4096 / 64 = c / 262144 := by rw [Nat.div_div_eq_div_mul]
  have y4 : d / 4096 / 64 = d / 262144 := by rw [Nat.div_div_eq_div_mul]
  have hr : cr_row c d ↔ ((c / 64 = d / 64) ∨ (c % 64 = 0 ∧ (d + 1) % 64 = 0 ∧ c / 4096 = d / 4096) ∨ (c % 4096 = 0 ∧ (d + 1) % 4096 = 0 ∧ c / 262144 = d / 262144) ∨ (c % 262144 = 0 ∧ (d + 1) % 262144 = 0)) := by
    unfold cr_row
    rw [cr_len_eq4 hc, cr_len_eq4 (by omega)]
    omega
  unfold cr_good
  rw [hr]
  by_cases e0 : c / 262144 = d / 262144
  · by_cases e1 : c / 4096 % 64 = d / 4096 % 64
    · by_cases e2 : c / 64 % 64 = d / 64 % 64
      · have s0 : cr_sm c d 0 = true := rfl
        have s1 : cr_sm c d 1 = true := by simp [cr_sm, a0, a1, a2, a3, b0, b1, b2, b3, e0]
        have s2 : cr_sm c d 2 = true := by simp [cr_sm, a0, a1, a2, a3, b0, b1, b2, b3, e0, e1]
        have s3 : cr_sm c d 3 = true := by simp [cr_sm, a0, a1, a2, a3, b0, b1, b2, b3, e0, e1, e2]
        refine ⟨fun i hi => ?_, ?_, fun hq i hi => ?_⟩
        · rcases (show i = 0 ∨ i = 1 ∨ i = 2 ∨ i = 3 by omega) with q | q | q | q <;> subst q <;> simp only [cr_fr, cr_to, s0, s1, s2, s3, if_true, a0, a1, a2, a3, b0, b1, b2, b3, Bool.false_eq_true, if_false] <;> omega
        · simp only [cr_all, cr_fr, cr_to, s0, s1, s2, s3, if_true, a0, a1, a2, a3, b0, b1, b2, b3, Bool.false_eq_true, if_false]
          have z0 : 240 + d / 262144 - (240 + c / 262144) + 1 = 1 := by omega
          rw [z0]
          have z1 : 128 + d / 4096 % 64 - (128 + c / 4096 % 64) + 1 = 1 := by omega
          rw [z1]
          have z2 : 128 + d / 64 % 64 - (128 + c / 64 % 64) + 1 = 1 := by omega
          rw [z2]
          omega
        · rcases (show i = 0 ∨ i = 1 ∨ i = 2 ∨ i = 3 by omega) with q | q | q | q <;> subst q <;> simp only [cr_fr, cr_to, s0, s1, s2, s3, if_true, a0, a1, a2, a3, b0, b1, b2, b3, Bool.false_eq_true, if_false] <;> (refine ⟨?_, ?_⟩ <;> first | trivial | omega)
      · have s0 : cr_sm c d 0 = true := rfl
        have s1 : cr_sm c d 1 = true := by simp [cr_sm, a0, a1, a2, a3, b0, b1, b2, b3, e0]
        have s2 : cr_sm c d 2 = true := by simp [cr_sm, a0, a1, a2, a3, b0, b1, b2, b3, e0, e1]
        have s3 : cr_sm c d 3 = false := by simp [cr_sm, a0, a1, a2, a3, b0, b1, b2, b3, e0, e1, e2]
        refine ⟨fun i hi => ?_, ?_, fun hq i hi => ?_⟩
        · rcases (show i = 0 ∨ i = 1 ∨ i = 2 ∨ i = 3 by omega) with q | q | q | q <;> subst q <;> simp only [cr_fr, cr_to, s0, s1, s2, s3, if_true, a0, a1, a2, a3, b0, b1, b2, b3, Bool.false_eq_true, if_false] <;> omega
        · simp only [cr_all, cr_fr, cr_to, s0, s1, s2, s3, if_true, a0, a1, a2, a3, b0, b1, b2, b3, Bool.false_eq_true, if_false]
          have z0 : 240 + d / 262144 - (240 + c / 262144) + 1 = 1 := by omega
          rw [z0]
          have z1 : 128 + d / 4096 % 64 - (128 + c / 4096 % 64) + 1 = 1 := by omega
          rw [z1]
          omega
        · rcases (show i = 0 ∨ i = 1 ∨ i = 2 ∨ i = 3 by omega) with q | q | q | q <;> subst q <;> simp only [cr_fr, cr_to, s0, s1, s2, s3, if_true, a0, a1, a2, a3, b0, b1, b2, b3, Bool.false_eq_true, if_false] <;> (refine ⟨?_, ?_⟩ <;> first | trivial | omega)
    · have s0 : cr_sm c d 0 = true := rfl
      have s1 : cr_sm c d 1 = true := by simp [cr_sm, a0, a1, a2, a3, b0, b1, b2, b3, e0]
      have s2 : cr_sm c d 2 = false := by simp [cr_sm, a0, a1, a2, a3, b0, b1, b2, b3, e0, e1]
      have s3 : cr_sm c d 3 = false := by simp [cr_sm, a0, a1, a2, a3, b0, b1, b2, b3, e0, e1]
      refine ⟨fun i hi => ?_, ?_, fun hq i hi => ?_⟩
      · rcases (show i = 0 ∨ i = 1 ∨ i = 2 ∨ i = 3 by omega) with q | q | q | q <;> subst q <;> simp only [cr_fr, cr_to, s0, s1, s2, s3, if_true, a0, a1, a2, a3, b0, b1, b2, b3, Bool.false_eq_true, if_false] <;> omega
      · simp only [cr_all, cr_fr, cr_to, s0, s1, s2, s3, if_true, a0, a1, a2, a3, b0, b1, b2, b3, Bool.false_eq_true, if_false]
        have z0 : 240 + d / 262144 - (240 + c / 262144) + 1 = 1 := by omega
        rw [z0]
        omega
      · rcases (show i = 0 ∨ i = 1 ∨ i = 2 ∨ i = 3 by omega) with q | q | q | q <;> subst q <;> simp only [cr_fr, cr_to, s0, s1, s2, s3, if_true, a0, a1, a2, a3, b0, b1, b2, b3, Bool.false_eq_true, if_false] <;> (refine ⟨?_, ?_⟩ <;> first | trivial | omega)
  · have s0 : cr_sm c d 0 = true := rfl
    have s1 : cr_sm c d 1 = false := by simp [cr_sm, a0, a1, a2, a3, b0, b1, b2, b3, e0]
    have s2 : cr_sm c d 2 = false := by simp [cr_sm, a0, a1, a2, a3, b0, b1, b2, b3, e0]
    have s3 : cr_sm c d 3 = false := by simp [cr_sm, a0, a1, a2, a3, b0, b1, b2, b3, e0]
    refine ⟨fun i hi => ?_, ?_, fun hq i hi => ?_⟩
    · rcases (show i = 0 ∨ i = 1 ∨ i = 2 ∨ i = 3 by omega) with q | q | q | q <;> subst q <;> simp only [cr_fr, cr_to, s0, s1, s2, s3, if_true, a0, a1, a2, a3, b0, b1, b2, b3, Bool.false_eq_true, if_false] <;> omega
    · simp only [cr_all, cr_fr, cr_to, s0, s1, s2, s3, if_true, a0, a1, a2, a3, b0, b1, b2, b3, Bool.false_eq_true, if_false]
      omega
    · rcases (show i = 0 ∨ i = 1 ∨ i = 2 ∨ i = 3 by omega) with q | q | q | q <;> subst q <;> simp only [cr_fr, cr_to, s0, s1, s2, s3, if_true, a0, a1, a2, a3, b0, b1, b2, b3, Bool.false_eq_true, if_false] <;> (refine ⟨?_, ?_⟩ <;> first | trivial | omega)
theorem cr_good_of {c d : Nat} (h : c ≤ d) (hd : d ≤ 1114111) (hl : cr_len c = cr_len d) : cr_good c d (cr_len c) := by
  rcases cr_len_in c with q | q | q | q <;> rcases cr_len_in d with r | r | r | r <;> first | (exfalso; omega) | (rw [q.1]; first | exact cr_good1 h (by omega) | exact cr_good2 h (by omega) (by omega) | exact cr_good3 h (by omega) (by omega) | exact cr_good4 h (by omega) hd)
end
section
/-! PURE: how many rows, where they begin, bytes of an int -/
def cr_nr : Nat → Nat → Nat → Nat
  | 0, _, _ => 0
  | m + 1, c, h => if c ≤ h then 1 + cr_nr m (cr_last c h + 1) h else 0
def cr_N (c h : Nat) : Nat := cr_nr 16 c h
/-- where row k begins -/
def cr_go : Nat → Nat → Nat → Nat
  | 0, c, _ => c
  | k + 1, c, h => cr_last (cr_go k c h) h + 1
theorem cr_go_succ (k c h : Nat) : cr_go (k + 1) c h = cr_last (cr_go k c h) h + 1 := rfl
theorem cr_go_next : ∀ (k c h : Nat), cr_go (k + 1) c h = cr_go k (cr_last c h + 1) h := by
  intro k
  induction k with
  | zero => intro c h; rfl
  | succ k ih =>
    intro c h
    rw [cr_go_succ, ih, ← cr_go_succ]
theorem cr_nr_out {m d h : Nat} (hd : h < d) : cr_nr m d h = 0 := by
  cases m with
  | zero => rfl
  | succ m => unfold cr_nr; rw [if_neg (by omega)]
theorem cr_nr_in {m d h : Nat} (hd : d ≤ h) : cr_nr (m + 1) d h = 1 + cr_nr m (cr_last d h + 1) h := by
  rw [cr_nr, if_pos hd]
theorem cr_nr_step {k d h : Nat} (hk : k < 16) (hd : d ≤ h) : k + 1 + cr_nr (16 - (k + 1)) (cr_last d h + 1) h = k + cr_nr (16 - k) d h := by
  have e : 16 - k = 16 - (k + 1) + 1 := by omega
  rw [e, cr_nr_in hd]
  omega
theorem cr_go_in : ∀ {m k c h : Nat}, k < cr_nr m c h → cr_go k c h ≤ h := by
  intro m
  induction m with
  | zero => intro k c h hk; exact absurd hk (Nat.not_lt_zero _)
  | succ m ih =>
    intro k c h hk
    rcases Nat.lt_or_ge h c with q | q
    · rw [cr_nr_out q] at hk
      exact absurd hk (Nat.not_lt_zero _)
    · rw [cr_nr_in q] at hk
      cases k with
      | zero => exact q
      | succ k =>
        rw [cr_go_next]
        exact ih (by omega)
/-- behind all of its rows the range is at its end -/
theorem cr_go_end : ∀ {m c h : Nat}, cr_le m c h → h < cr_go (cr_nr m c h) c h := by
  intro m
  induction m with
  | zero => intro c h hl; exact hl
  | succ m ih =>
    intro c h hl
    rcases Nat.lt_or_ge h c with q | q
    · rw [cr_nr_out q]
      exact q
    · rw [cr_nr_in q, Nat.add_comm, cr_go_next]
      rcases hl with hl | hl
      · omega
      · exact ih hl
theorem cr_N_end {c h : Nat} (hh : h ≤ 1114111) : h < cr_go (cr_N c h) c h := cr_go_end (cr_le16 hh)
theorem cr_N_in {k c h : Nat} (hk : k < cr_N c h) : cr_go k c h ≤ h := cr_go_in hk
theorem cr_nr_le : ∀ (m c h : Nat), cr_nr m c h ≤ m := by
  intro m
  induction m with
  | zero => intro c h; exact Nat.le_refl _
  | succ m ih =>
    intro c h
    have := ih (cr_last c h + 1) h
    rw [cr_nr]
    split <;> omega
theorem cr_N_le (c h : Nat) : cr_N c h ≤ 16 := cr_nr_le 16 c h
/-- rows ahead of range j -/
def cr_tot (lo hi : Nat → Nat) : Nat → Nat
  | 0 => 0
  | j + 1 => cr_tot lo hi j + cr_N (lo j) (hi j)
theorem cr_tot_le (lo hi : Nat → Nat) : ∀ j, cr_tot lo hi j ≤ 16 * j := by
  intro j
  induction j with
  | zero => exact Nat.le_refl _
  | succ j ih =>
    have := cr_N_le (lo j) (hi j)
    show cr_tot lo hi j + cr_N (lo j) (hi j) ≤ _
    omega
theorem cr_tot_mono (lo hi : Nat → Nat) {i j : Nat} (h : i ≤ j) : cr_tot lo hi i ≤ cr_tot lo hi j := by
  induction h with
  | refl => exact Nat.le_refl _
  | step _ ih => exact Nat.le_trans ih (Nat.le_add_right _ _)
def cr_lm (L : Nat) : Nat := if L = 2 then 192 else if L = 3 then 224 else 240
theorem cr_or128 {x : Nat} (h : x < 64) : nI 128 ||| nI x = nI (128 + x) := by
  rw [cr_or, show (128 : Nat) = 2 ^ 6 * 2 by decide, cr_orl 6 2 x h]
theorem cr_orlead2 {x : Nat} (h : x < 64) : nI (cr_lm 2) ||| nI x = nI (192 + x) := by
  rw [cr_or, show cr_lm 2 = 2 ^ 6 * 3 by decide, cr_orl 6 3 x h]
theorem cr_orlead3 {x : Nat} (h : x < 32) : nI (cr_lm 3) ||| nI x = nI (224 + x) := by
  rw [cr_or, show cr_lm 3 = 2 ^ 5 * 7 by decide, cr_orl 5 7 x h]
theorem cr_orlead4 {x : Nat} (h : x < 16) : nI (cr_lm 4) ||| nI x = nI (240 + x) := by
  rw [cr_or, show cr_lm 4 = 2 ^ 4 * 15 by decide, cr_orl 4 15 x h]
theorem cr_or6 {c x : Nat} (h : x < 64) : nI (c * 64) ||| nI x = nI (c * 64 + x) := by
  rw [cr_or, show c * 64 = 2 ^ 6 * c by omega, cr_orl 6 c x h]
/-- byte i (1: the highest) of an int -/
def cr_ba (x : Int32) (i : Nat) : Nat := x.toBitVec.toNat / 2 ^ (32 - 8 * i) % 2 ^ 8
theorem cr_ba_lt (x : Int32) (i : Nat) : cr_ba x i < 256 := Nat.mod_lt _ (by decide)
def cr_dec (x : Int32) (n : Nat) : Nat := if n = 1 then cr_ba x 1 else if n = 2 then cr_ba x 1 % 32 * 64 + cr_ba x 2 % 64 else if n = 3 then (cr_ba x 1 % 16 * 64 + cr_ba x 2 % 64) * 64 + cr_ba x 3 % 64 else ((cr_ba x 1 % 8 * 64 + cr_ba x 2 % 64) * 64 + cr_ba x 3 % 64) * 64 + cr_ba x 4 % 64
theorem cr_by_lt (c i : Nat) (hc : c ≤ 1114111) : cr_by c i < 256 := by
  unfold cr_by
  split
  · split
    · omega
    · split
      · omega
      · split <;> omega
  · omega
theorem cr_starts {c : Nat} {x : Int32} {i : Nat} (h1 : 1 ≤ i) (h : ∀ j, j + 1 < i → cr_by c j = cr_ba x (j + 1)) (he : cr_by c (i - 1) = cr_ba x i) : ∀ j, j + 1 < i + 1 → cr_by c j = cr_ba x (j + 1) := by
  intro j hj
  rcases Nat.lt_or_ge (j + 1) i with q | q
  · exact h j q
  · have e : j = i - 1 := by omega
    have e2 : j + 1 = i := by omega
    rw [e2, e]
    exact he
end
section
/-! PURE: steps of the class's methods on sets -/
theorem cr_Hs_nI {S : Nat → Prop} {c : Nat} (h : c ≤ 1114111) : cr_Hs S (nI c) ↔ S c := by
  constructor
  · rintro ⟨d, hd, e, hs⟩
    rw [nI_eq (by omega) (by omega)] at e
    rw [e]
    exact hs
  · intro hs
    exact ⟨c, h, rfl, hs⟩
theorem cr_two_11 {S : Nat → Prop} {p q : Nat} (h1 : S p) (h2 : S q) (c : Nat) : S c ↔ (S c ∨ ((c = p ∨ c = q) ∧ (S p ∨ S q))) := by
  constructor
  · exact Or.inl
  · rintro (h | ⟨e | e, _⟩)
    · exact h
    · rw [e]; exact h1
    · rw [e]; exact h2
theorem cr_two_00 {S : Nat → Prop} {p q : Nat} (h1 : ¬ S p) (h2 : ¬ S q) (c : Nat) : S c ↔ (S c ∨ ((c = p ∨ c = q) ∧ (S p ∨ S q))) := by
  constructor
  · exact Or.inl
  · rintro (h | ⟨_, e | e⟩)
    · exact h
    · exact absurd e h1
    · exact absurd e h2
theorem cr_two_10 {S : Nat → Prop} {p q : Nat} (h1 : S p) (_h2 : ¬ S q) (hq : q < 2 ^ 31) (c : Nat) : (S c ∨ ((nI q).toInt ≤ (c : Int) ∧ (c : Int) ≤ (nI q).toInt)) ↔ (S c ∨ ((c = p ∨ c = q) ∧ (S p ∨ S q))) := by
  rw [nI_toInt hq]
  constructor
  · rintro (h | h)
    · exact Or.inl h
    · exact Or.inr ⟨Or.inr (by omega), Or.inl h1⟩
  · rintro (h | ⟨e | e, _⟩)
    · exact Or.inl h
    · rw [e]; exact Or.inl h1
    · exact Or.inr (by omega)
theorem cr_two_01 {S : Nat → Prop} {p q : Nat} (_h1 : ¬ S p) (h2 : S q) (hp : p < 2 ^ 31) (c : Nat) : (S c ∨ ((nI p).toInt ≤ (c : Int) ∧ (c : Int) ≤ (nI p).toInt)) ↔ (S c ∨ ((c = p ∨ c = q) ∧ (S p ∨ S q))) := by
  rw [nI_toInt hp]
  constructor
  · rintro (h | h)
    · exact Or.inl h
    · exact Or.inr ⟨Or.inl (by omega), Or.inr h2⟩
  · rintro (h | ⟨e | e, _⟩)
    · exact Or.inl h
    · exact Or.inr (by omega)
    · rw [e]; exact Or.inl h2
theorem cr_In_zero {S : Nat → Prop} {lo hi : Nat → Nat} {c : Nat} : S c ↔ (S c ∨ cr_In 0 lo hi c) := by
  constructor
  · exact Or.inl
  · rintro (h | ⟨j, hj, _⟩)
    · exact h
    · exact absurd hj (Nat.not_lt_zero _)
/-- behind the first k ranges -/
def cr_fm (hi : Nat → Nat) (k : Nat) : Nat := if k = 0 then 0 else hi (k - 1) + 1
theorem cr_fm_succ (hi : Nat → Nat) (k : Nat) : cr_fm hi (k + 1) = hi k + 1 := by
  unfold cr_fm
  rw [if_neg (by omega)]
  rfl
theorem cr_In_below {n : Nat} {lo hi : Nat → Nat} (hO : cr_Ok n lo hi) {k : Nat} (hk : k ≤ n) (c : Nat) : cr_In k lo hi c ↔ (cr_In n lo hi c ∧ c < cr_fm hi k) := by
  unfold cr_fm
  constructor
  · rintro ⟨j, hj, a, b⟩
    refine ⟨⟨j, by omega, a, b⟩, ?_⟩
    rw [if_neg (by omega)]
    have := (hO.mono (show j ≤ k - 1 by omega) (by omega)).1
    omega
  · rintro ⟨⟨j, hj, a, b⟩, h⟩
    rcases Nat.eq_zero_or_pos k with e | e
    · rw [if_pos e] at h
      exact absurd h (Nat.not_lt_zero _)
    · rw [if_neg (by omega)] at h
      refine ⟨j, ?_, a, b⟩
      rcases Nat.lt_or_ge j k with q | q
      · exact q
      · have := hO.lt (show k - 1 < j by omega) hj
        omega
theorem cr_Bd_below {P : List Nat} {S : Nat → Prop} (h : cr_Bd P S) (a : Nat) : cr_Bd (a :: P) (fun c => S c ∧ c < a) :=
  (h.more (fun _ q => List.mem_cons_of_mem _ q)).and1 (cr_Bd.below (List.mem_cons_of_mem _ h.1) List.mem_cons_self)
theorem cr_Bd_join {n : Nat} {lo hi : Nat → Nat} {S K : Nat → Prop} {P : List Nat} (hO : cr_Ok n lo hi) (hI : ∀ c, cr_In n lo hi c ↔ K c) (hB : cr_Bd P S) (hBK : cr_Bd P K) {k : Nat} (hk : k ≤ n) : cr_Bd (cr_fm hi k :: P) (fun c => S c ∨ cr_In k lo hi c) := by
  have a : cr_Bd (cr_fm hi k :: P) S := hB.more (fun _ q => List.mem_cons_of_mem _ q)
  have b := cr_Bd_below hBK (cr_fm hi k)
  exact (a.or1 b).iff (fun c => by rw [cr_In_below hO hk, hI c])
theorem cr_join_step {n : Nat} {lo hi : Nat → Nat} {S : Nat → Prop} (hO : cr_Ok n lo hi) {k : Nat} (hk : k < n) (c : Nat) : ((S c ∨ cr_In k lo hi c) ∨ ((nI (lo k)).toInt ≤ (c : Int) ∧ (c : Int) ≤ (nI (hi k)).toInt)) ↔ (S c ∨ cr_In (k + 1) lo hi c) := by
  have q := hO.1 k hk
  rw [nI_toInt (by omega), nI_toInt (by omega)]
  constructor
  · rintro ((h | ⟨j, hj, a, b⟩) | h)
    · exact Or.inl h
    · exact Or.inr ⟨j, by omega, a, b⟩
    · exact Or.inr ⟨k, by omega, by omega, by omega⟩
  · rintro (h | ⟨j, hj, a, b⟩)
    · exact Or.inl (Or.inl h)
    · rcases Nat.lt_or_ge j k with e | e
      · exact Or.inl (Or.inr ⟨j, e, a, b⟩)
      · have : j = k := by omega
        subst this
        exact Or.inr (by omega)
/-- what firstOfRow answers -/
def cr_first_of (n : Nat) (lo hi : Nat → Nat) (z r : Int32) : Prop := (z < 0 ∧ r = -1) ∨ ∃ zz : Nat, zz < 2 ^ 31 ∧ z = nI zz ∧ ((cr_tot lo hi n ≤ zz ∧ r = -1) ∨ ∃ k t, k < n ∧ t < cr_N (lo k) (hi k) ∧ zz = cr_tot lo hi k + t ∧ r = nI (cr_go t (lo k) (hi k)))
theorem cr_Set.copy {n : Nat} {f g f3 g3 : Nat → Int32} {S : Nat → Prop} (h : cr_Set n f g S) : cr_Set n (va_cpy f f3 0 0 n) (va_cpy g g3 0 0 n) S := by
  obtain ⟨lo, hi, a, b, d⟩ := h
  exact ⟨lo, hi, fun j hj => by rw [sb_cpy0 hj, sb_cpy0 hj]; exact a j hj, b, d⟩
/-- turning: what was not in it, up to range k -/
def cr_Tn (S : Nat → Prop) (a c : Nat) : Prop := (cr_ch c ∧ ¬ S c) ∧ c < a
theorem cr_Bd_turn {S : Nat → Prop} {P : List Nat} (hB : cr_Bd P S) (hp : ∀ c, c ∈ cr_base → c ∈ P) (a : Nat) : cr_Bd (a :: P) (cr_Tn S a) :=
  cr_Bd_below ((cr_Bd.ch hp).and1 hB.not1) a
theorem cr_turn_step {n : Nat} {lo hi : Nat → Nat} {S : Nat → Prop} (hO : cr_Ok n lo hi) (hI : ∀ c, cr_In n lo hi c ↔ S c) {k : Nat} (hk : k < n) (c : Nat) : (cr_Tn S (cr_fm hi k) c ∨ (cr_fm hi k ≤ c ∧ (c : Int) ≤ (lo k : Int) - 1 ∧ cr_ch c)) ↔ cr_Tn S (cr_fm hi (k + 1)) c := by
  have q := hO.1 k hk
  rw [cr_fm_succ]
  have hf : cr_fm hi k ≤ lo k := by
    unfold cr_fm
    split
    · omega
    · have := hO.lt (show k - 1 < k by omega) hk
      omega
  have mid : ∀ c, cr_fm hi k ≤ c → c < lo k → ¬ S c := by
    intro c h1 h2 h3
    obtain ⟨j, hj, a, b⟩ := (hI c).2 h3
    rcases Nat.lt_or_ge j k with e | e
    · have := ((cr_In_below hO (Nat.le_of_lt hk) c).1 ⟨j, e, a, b⟩).2
      omega
    · have := (hO.mono e hj).2
      omega
  have ins : ∀ c, lo k ≤ c → c ≤ hi k → S c := fun c h1 h2 => (hI c).1 ⟨k, hk, h1, h2⟩
  unfold cr_Tn
  constructor
  · rintro (⟨h, h1⟩ | ⟨h1, h2, h3⟩)
    · exact ⟨h, by omega⟩
    · exact ⟨⟨h3, mid c h1 (by omega)⟩, by omega⟩
  · rintro ⟨⟨h1, h2⟩, h3⟩
    rcases Nat.lt_or_ge c (cr_fm hi k) with e | e
    · exact Or.inl ⟨⟨h1, h2⟩, e⟩
    · rcases Nat.lt_or_ge c (lo k) with e2 | e2
      · exact Or.inr ⟨e, by omega, h1⟩
      · exact absurd (ins c e2 (by omega)) h2
theorem cr_turn_end {n : Nat} {lo hi : Nat → Nat} {S : Nat → Prop} (hO : cr_Ok n lo hi) (hI : ∀ c, cr_In n lo hi c ↔ S c) (c : Nat) : (cr_Tn S (cr_fm hi n) c ∨ (cr_fm hi n ≤ c ∧ (c : Int) ≤ 1114111 ∧ cr_ch c)) ↔ (cr_ch c ∧ ¬ S c) := by
  unfold cr_Tn
  constructor
  · rintro (⟨h, _⟩ | ⟨h1, _, h3⟩)
    · exact h
    · refine ⟨h3, fun hs => ?_⟩
      have := ((cr_In_below hO (Nat.le_refl n) c).1 ((hI c).2 hs)).2
      omega
  · intro h
    rcases Nat.lt_or_ge c (cr_fm hi n) with e | e
    · exact Or.inl ⟨h, e⟩
    · exact Or.inr ⟨e, by have := h.1; unfold cr_ch at this; omega, h.1⟩
theorem cr_or3 {P A B C : Prop} (h : (A ∨ B) ↔ C) : ((P ∨ A) ∨ B) ↔ (P ∨ C) := by
  rw [or_assoc]
  exact or_congr_right h
end
section
/-! PURE: what row and takes answer -/
theorem cr_fm_le {n : Nat} {lo hi : Nat → Nat} (hO : cr_Ok n lo hi) {k : Nat} (hk : k ≤ n) : cr_fm hi k ≤ 1114112 := by
  unfold cr_fm
  split
  · omega
  · have := hO.1 (k - 1) (by omega)
    omega
theorem cr_N_ge {h : Nat} (hh : h ≤ 1114111) : ∀ {k c : Nat}, k < cr_N c h → c ≤ cr_go k c h := by
  intro k
  induction k with
  | zero => intro c _; exact Nat.le_refl _
  | succ k ih =>
    intro c hk
    have a := ih (c := c) (by omega)
    have b := cr_N_in (show k < cr_N c h by omega)
    have d := (cr_last_in b hh).1
    rw [cr_go_succ]
    omega
def cr_ra (c d : Nat) (i w : Int32) : Int32 := if i = 0 then nI (cr_len c) else if i < 0 ∨ nI (cr_len c) < i then -1 else if w = 0 then nI (cr_by c (i.toNatClampNeg - 1)) else if w = 1 then nI (cr_by d (i.toNatClampNeg - 1)) else -1
theorem cr_ra_0 {c d : Nat} {i w : Int32} (h : i = 0) : cr_ra c d i w = nI (cr_len c) := by unfold cr_ra; rw [if_pos h]
theorem cr_ra_neg {c d : Nat} {i w : Int32} (h : ¬ i = 0) (h2 : i < 0 ∨ nI (cr_len c) < i) : cr_ra c d i w = -1 := by unfold cr_ra; rw [if_neg h, if_pos h2]
theorem cr_len_le (c : Nat) : 1 ≤ cr_len c ∧ cr_len c ≤ 4 := by
  have := cr_len_in c
  omega
theorem cr_ra_in {c ii : Nat} (h1 : ii < 2 ^ 31) (h2 : 1 ≤ ii) (h3 : ii ≤ cr_len c) : ¬ nI ii = 0 ∧ ¬ (nI ii < 0 ∨ nI (cr_len c) < nI ii) := by
  have hl := cr_len_le c
  refine ⟨nI_ne0 h2 h1, fun h => ?_⟩
  rcases h with h | h
  · exact nI_pos h1 h
  · rw [nI_ltI (by omega) h1] at h
    omega
theorem cr_ra_w0 {c d ii : Nat} {w : Int32} (h1 : ii < 2 ^ 31) (h2 : 1 ≤ ii) (h3 : ii ≤ cr_len c) (hw : w = 0) : cr_ra c d (nI ii) w = nI (cr_by c (ii - 1)) := by
  have a := cr_ra_in h1 h2 h3
  unfold cr_ra
  rw [if_neg a.1, if_neg a.2, if_pos hw, nI_clamp h1]
theorem cr_ra_w1 {c d ii : Nat} {w : Int32} (h1 : ii < 2 ^ 31) (h2 : 1 ≤ ii) (h3 : ii ≤ cr_len c) (hw : w = nI 1) : cr_ra c d (nI ii) w = nI (cr_by d (ii - 1)) := by
  have a := cr_ra_in h1 h2 h3
  unfold cr_ra
  rw [if_neg a.1, if_neg a.2, if_neg (by rw [hw]; decide), if_pos (show w = 1 from hw), nI_clamp h1]
theorem cr_ra_w2 {c d : Nat} {i w : Int32} (h1 : ¬ i = 0) (h2 : ¬ i < 0) (h3 : i ≤ nI (cr_len c)) (h4 : ¬ w = 0) (h5 : ¬ w = nI 1) : cr_ra c d i w = -1 := by
  unfold cr_ra
  rw [if_neg h1, if_neg (fun h => h.elim h2 (fun q => absurd h3 (Int32.not_le.mpr q))), if_neg h4, if_neg (show ¬ w = 1 from h5)]
def cr_rowSpec (n : Nat) (lo hi : Nat → Nat) (z i w r : Int32) : Prop := ((z < 0 ∨ ∃ zz : Nat, zz < 2 ^ 31 ∧ z = nI zz ∧ cr_tot lo hi n ≤ zz) ∧ r = -1) ∨ ∃ zz j t : Nat, zz < 2 ^ 31 ∧ z = nI zz ∧ j < n ∧ t < cr_N (lo j) (hi j) ∧ zz = cr_tot lo hi j + t ∧ r = cr_ra (cr_go t (lo j) (hi j)) (cr_last (cr_go t (lo j) (hi j)) (hi j)) i w
theorem cr_tot_at {lo hi : Nat → Nat} {n j t : Nat} (hj : j < n) (ht : t < cr_N (lo j) (hi j)) : cr_tot lo hi j + t < cr_tot lo hi n := by
  have a := cr_tot_mono lo hi (show j + 1 ≤ n by omega)
  have b : cr_tot lo hi (j + 1) = cr_tot lo hi j + cr_N (lo j) (hi j) := rfl
  omega
theorem cr_tot_uniq {lo hi : Nat → Nat} {j t j' t' : Nat} (ht : t < cr_N (lo j) (hi j)) (ht' : t' < cr_N (lo j') (hi j')) (h : cr_tot lo hi j + t = cr_tot lo hi j' + t') : j = j' ∧ t = t' := by
  rcases Nat.lt_trichotomy j j' with e | e | e
  · have := cr_tot_at (lo := lo) (hi := hi) e ht
    omega
  · subst e
    exact ⟨rfl, by omega⟩
  · have := cr_tot_at (lo := lo) (hi := hi) e ht'
    omega
theorem cr_rowSpec_det {n : Nat} {lo hi : Nat → Nat} {z i w r r' : Int32} (h : cr_rowSpec n lo hi z i w r) (h' : cr_rowSpec n lo hi z i w r') : r = r' := by
  have excl : (z < 0 ∨ ∃ zz : Nat, zz < 2 ^ 31 ∧ z = nI zz ∧ cr_tot lo hi n ≤ zz) → ∀ zz j t : Nat, zz < 2 ^ 31 → z = nI zz → j < n → t < cr_N (lo j) (hi j) → zz = cr_tot lo hi j + t → False := by
    intro q zz j t h1 h2 h3 h4 h5
    have a := cr_tot_at (lo := lo) (hi := hi) h3 h4
    rcases q with q | ⟨z2, k1, k2, k3⟩
    · rw [h2] at q
      exact nI_pos h1 q
    · rw [h2, nI_eq h1 k1] at k2
      omega
  rcases h with ⟨a, b⟩ | ⟨zz, j, t, h1, h2, h3, h4, h5, h6⟩
  · rcases h' with ⟨_, b'⟩ | ⟨zz, j, t, h1, h2, h3, h4, h5, _⟩
    · rw [b, b']
    · exact (excl a zz j t h1 h2 h3 h4 h5).elim
  · rcases h' with ⟨a', _⟩ | ⟨z2, j2, t2, k1, k2, k3, k4, k5, k6⟩
    · exact (excl a' zz j t h1 h2 h3 h4 h5).elim
    · rw [h2, nI_eq h1 k1] at k2
      obtain ⟨e1, e2⟩ := cr_tot_uniq h4 k4 (by omega)
      subst e1
      subst e2
      rw [h6, k6]
def cr_Tk (S : Nat → Prop) (y z : Int32) : Prop := ∃ zz c : Nat, z = nI zz ∧ 1 ≤ zz ∧ zz ≤ 4 ∧ S c ∧ cr_len c = zz ∧ ∀ i, i < zz → cr_by c i = cr_ba y (i + 1)
theorem cr_Tk_out {S : Nat → Prop} {y z : Int32} (h : z.toInt < 1 ∨ 4 < z.toInt) : ¬ cr_Tk S y z := by
  rintro ⟨zz, c, e, h1, h2, _⟩
  rw [e, nI_toInt (by omega)] at h
  omega
theorem cr_dec_by {y : Int32} {c zz : Nat} (hc : c ≤ 1114111) (h1 : 1 ≤ zz) (h2 : zz ≤ 4) (hl : cr_len c = zz) (hb : ∀ i, i < zz → cr_by c i = cr_ba y (i + 1)) : cr_dec y zz = c := by
  have hin := cr_len_in c
  rcases (show zz = 1 ∨ zz = 2 ∨ zz = 3 ∨ zz = 4 by omega) with e | e | e | e
  · subst e
    have b0 := hb 0 (by omega)
    rw [cr_by1 (by omega)] at b0
    show cr_ba y 1 = c
    exact b0.symm
  · subst e
    have q := cr_by2 (c := c) (by omega) (by omega)
    have b0 := hb 0 (by omega)
    have b1 := hb 1 (by omega)
    show cr_ba y (0 + 1) % 32 * 64 + cr_ba y (1 + 1) % 64 = c
    omega
  · subst e
    have q := cr_by3 (c := c) (by omega) (by omega)
    have b0 := hb 0 (by omega)
    have b1 := hb 1 (by omega)
    have b2 := hb 2 (by omega)
    show (cr_ba y (0 + 1) % 16 * 64 + cr_ba y (1 + 1) % 64) * 64 + cr_ba y (2 + 1) % 64 = c
    omega
  · subst e
    have q := cr_by4 (c := c) (by omega)
    have b0 := hb 0 (by omega)
    have b1 := hb 1 (by omega)
    have b2 := hb 2 (by omega)
    have b3 := hb 3 (by omega)
    show ((cr_ba y (0 + 1) % 8 * 64 + cr_ba y (1 + 1) % 64) * 64 + cr_ba y (2 + 1) % 64) * 64 + cr_ba y (3 + 1) % 64 = c
    omega
theorem cr_Tk_dec {n : Nat} {f g : Nat → Int32} {S : Nat → Prop} (hSet : cr_Set n f g S) {y : Int32} {zz : Nat} (h1 : 1 ≤ zz) (h2 : zz ≤ 4) (h : cr_Tk S y (nI zz)) : S (cr_dec y zz) ∧ cr_len (cr_dec y zz) = zz ∧ ∀ i, i < zz → cr_by (cr_dec y zz) i = cr_ba y (i + 1) := by
  obtain ⟨z2, c, e, k1, k2, k3, k4, k5⟩ := h
  rw [nI_eq (by omega) (by omega)] at e
  subst e
  have q := cr_dec_by (hSet.char k3).1 h1 h2 k4 k5
  rw [q]
  exact ⟨k3, k4, k5⟩
theorem cr_Tk_S {n : Nat} {f g : Nat → Int32} {S : Nat → Prop} (hSet : cr_Set n f g S) {y : Int32} {zz : Nat} (h1 : 1 ≤ zz) (h2 : zz ≤ 4) (h : cr_Tk S y (nI zz)) : S (cr_dec y zz) := (cr_Tk_dec hSet h1 h2 h).1
theorem cr_Tk_len {n : Nat} {f g : Nat → Int32} {S : Nat → Prop} (hSet : cr_Set n f g S) {y : Int32} {zz : Nat} (h1 : 1 ≤ zz) (h2 : zz ≤ 4) (h : cr_Tk S y (nI zz)) : cr_len (cr_dec y zz) = zz := (cr_Tk_dec hSet h1 h2 h).2.1
theorem cr_Tk_by {n : Nat} {f g : Nat → Int32} {S : Nat → Prop} (hSet : cr_Set n f g S) {y : Int32} {zz : Nat} (h1 : 1 ≤ zz) (h2 : zz ≤ 4) (h : cr_Tk S y (nI zz)) : ∀ i, i < zz → cr_by (cr_dec y zz) i = cr_ba y (i + 1) := (cr_Tk_dec hSet h1 h2 h).2.2
theorem cr_dec_lt (y : Int32) (zz : Nat) : cr_dec y zz < 2097152 := by
  have h1 := cr_ba_lt y 1
  unfold cr_dec
  split
  · omega
  · split
    · omega
    · split <;> omega
theorem cr_Hs_big {n : Nat} {f g : Nat → Int32} {S : Nat → Prop} (hSet : cr_Set n f g S) {c : Nat} (h : c < 2 ^ 31) : cr_Hs S (nI c) ↔ S c := by
  constructor
  · rintro ⟨d, hd, e, hs⟩
    rw [nI_eq h (by omega)] at e
    rw [e]
    exact hs
  · intro hs
    exact ⟨c, (hSet.char hs).1, rfl, hs⟩
end
section
/-! PURE: what the reference gathers -/
def cr_Vr (lo hi : Nat) : Prop := lo ≤ hi ∧ hi ≤ 1114111 ∧ (hi < 55296 ∨ 57344 ≤ lo)
def cr_En (mn : Nat) (ef eg : Nat → Int32) (elo ehi : Nat → Nat) : Prop := ∀ k, k < mn → ef k = nI (elo k) ∧ eg k = nI (ehi k) ∧ cr_Vr (elo k) (ehi k)
/-- the entries tell the set E -/
def cr_Ent (mn : Nat) (ef eg : Nat → Int32) (E : Nat → Prop) : Prop := ∃ elo ehi : Nat → Nat, cr_En mn ef eg elo ehi ∧ ∀ c, cr_In mn elo ehi c ↔ E c
theorem cr_Ent.iff {n : Nat} {f g : Nat → Int32} {S T : Nat → Prop} (h : cr_Ent n f g S) (hs : ∀ c, S c ↔ T c) : cr_Ent n f g T := by
  obtain ⟨lo, hi, a, b⟩ := h
  exact ⟨lo, hi, a, fun x => (b x).trans (hs x)⟩
theorem cr_Ent.zero {f g : Nat → Int32} : cr_Ent 0 f g (fun _ => False) := ⟨fun _ => 0, fun _ => 0, fun j hj => absurd hj (by omega), fun c => ⟨fun ⟨j, hj, _⟩ => absurd hj (by omega), fun h => h.elim⟩⟩
theorem cr_Ent.push {n : Nat} {f g : Nat → Int32} {E : Nat → Prop} (h : cr_Ent n f g E) {a b : Nat} (hv : cr_Vr a b) : cr_Ent (n + 1) (upd f n (nI a)) (upd g n (nI b)) (fun c => E c ∨ (a ≤ c ∧ c ≤ b)) := by
  obtain ⟨lo, hi, q, r⟩ := h
  refine ⟨va_up lo n a, va_up hi n b, fun k hk => ?_, fun c => ?_⟩
  · rcases Nat.lt_or_ge k n with e | e
    · rw [pk_un (by omega), pk_un (by omega), va_up_ne _ _ (by omega), va_up_ne _ _ (by omega)]
      exact q k e
    · have : k = n := by omega
      subst this
      rw [pk_us, pk_us, va_up_self, va_up_self]
      exact ⟨rfl, rfl, hv⟩
  · show _ ↔ (E c ∨ (a ≤ c ∧ c ≤ b))
    rw [← r c]
    constructor
    · rintro ⟨k, hk, h1, h2⟩
      rcases Nat.lt_or_ge k n with e | e
      · rw [va_up_ne _ _ (by omega)] at h1 h2
        exact Or.inl ⟨k, e, h1, h2⟩
      · have : k = n := by omega
        subst this
        rw [va_up_self] at h1 h2
        exact Or.inr ⟨h1, h2⟩
    · rintro (⟨k, hk, h1, h2⟩ | ⟨h1, h2⟩)
      · exact ⟨k, by omega, by rw [va_up_ne _ _ (by omega)]; exact h1, by rw [va_up_ne _ _ (by omega)]; exact h2⟩
      · exact ⟨n, by omega, by rw [va_up_self]; exact h1, by rw [va_up_self]; exact h2⟩
def cr_cntb (dn : Nat → Bool) : Nat → Nat
  | 0 => 0
  | m + 1 => cr_cntb dn m + (if dn m then 1 else 0)
theorem cr_cntb_le (dn : Nat → Bool) : ∀ m, cr_cntb dn m ≤ m := by
  intro m
  induction m with
  | zero => exact Nat.le_refl _
  | succ m ih =>
    show cr_cntb dn m + _ ≤ _
    split <;> omega
theorem cr_cntb_out (dn : Nat → Bool) (b : Nat) (v : Bool) : ∀ m, m ≤ b → cr_cntb (va_up dn b v) m = cr_cntb dn m := by
  intro m
  induction m with
  | zero => intro _; rfl
  | succ m ih =>
    intro h
    show cr_cntb (va_up dn b v) m + (if va_up dn b v m then 1 else 0) = cr_cntb dn m + _
    rw [ih (by omega), va_up_ne _ _ (by omega)]
theorem cr_cntb_up (dn : Nat → Bool) (b : Nat) (hb : dn b = false) : ∀ m, b < m → cr_cntb (va_up dn b true) m = cr_cntb dn m + 1 := by
  intro m
  induction m with
  | zero => intro h; exact absurd h (Nat.not_lt_zero _)
  | succ m ih =>
    intro h
    show cr_cntb (va_up dn b true) m + (if va_up dn b true m then 1 else 0) = cr_cntb dn m + (if dn m then 1 else 0) + 1
    rcases Nat.lt_or_ge b m with e | e
    · rw [ih e, va_up_ne _ _ (by omega)]
      omega
    · have : m = b := by omega
      subst this
      rw [cr_cntb_out dn m true m (Nat.le_refl _), va_up_self, hb]
      simp
theorem cr_cntb_lt (dn : Nat → Bool) (b m : Nat) (hb : dn b = false) (hm : b < m) : cr_cntb dn m < m := by
  have a := cr_cntb_up dn b hb m hm
  have c := cr_cntb_le (va_up dn b true) m
  omega
def cr_GI (mn : Nat) (elo ehi : Nat → Nat) (n1 : Nat) (lo1 hi1 : Nat → Nat) (f1 g1 ef1 : Nat → Int32) (la : Int32) (dn : Nat → Bool) : Prop :=
  (∀ k, k < mn → ef1 k = if dn k then -1 else nI (elo k)) ∧ cr_Rp n1 lo1 hi1 f1 g1 ∧ cr_Ok n1 lo1 hi1 ∧ (∀ c, cr_In n1 lo1 hi1 c ↔ ∃ k, k < mn ∧ dn k = true ∧ elo k ≤ c ∧ c ≤ ehi k) ∧ n1 ≤ cr_cntb dn mn ∧ (0 < n1 → la = nI (hi1 (n1 - 1)) ∧ ∀ k, k < mn → dn k = false → lo1 (n1 - 1) ≤ elo k)
theorem cr_GI_0 {mn : Nat} {ef eg : Nat → Int32} {elo ehi : Nat → Nat} (h : cr_En mn ef eg elo ehi) {f g : Nat → Int32} {la : Int32} : cr_GI mn elo ehi 0 (fun _ => 0) (fun _ => 0) f g ef la (fun _ => false) := by
  refine ⟨fun k hk => ?_, fun j hj => absurd hj (Nat.not_lt_zero _), ⟨fun j hj => absurd hj (Nat.not_lt_zero _), fun j hj => absurd hj (Nat.not_lt_zero _)⟩, fun c => ⟨?_, ?_⟩, Nat.zero_le _, fun h => absurd h (Nat.lt_irrefl _)⟩
  · show ef k = if false = true then -1 else nI (elo k)
    rw [if_neg (by decide)]
    exact (h k hk).1
  · rintro ⟨j, hj, _⟩
    exact absurd hj (Nat.not_lt_zero _)
  · rintro ⟨k, _, h2, _⟩
    exact absurd (show false = true from h2) (by decide)
theorem cr_GI_done {mn : Nat} {elo : Nat → Nat} {ef1 : Nat → Int32} {dn : Nat → Bool} (h : ∀ k, k < mn → ef1 k = if dn k then -1 else nI (elo k)) (b : Nat) : ∀ k, k < mn → upd ef1 b (-1) k = if va_up dn b true k then -1 else nI (elo k) := by
  intro k hk
  by_cases e : k = b
  · subst e
    rw [pk_us, va_up_self, if_pos rfl]
  · rw [pk_un e, va_up_ne _ _ e]
    exact h k hk
theorem cr_GI_push {mn : Nat} {elo ehi : Nat → Nat} (hV : ∀ k, k < mn → cr_Vr (elo k) (ehi k)) {n1 : Nat} {lo1 hi1 : Nat → Nat} {f1 g1 ef1 : Nat → Int32} {la : Int32} {dn : Nat → Bool} (h : cr_GI mn elo ehi n1 lo1 hi1 f1 g1 ef1 la dn) {b : Nat} (hb : b < mn) (hd : dn b = false) (hmin : ∀ j, j < mn → dn j = false → elo b ≤ elo j) (hn : n1 = 0 ∨ hi1 (n1 - 1) + 1 < elo b) :
    cr_GI mn elo ehi (n1 + 1) (va_up lo1 n1 (elo b)) (va_up hi1 n1 (ehi b)) (upd f1 n1 (nI (elo b))) (upd g1 n1 (nI (ehi b))) (upd ef1 b (-1)) (nI (ehi b)) (va_up dn b true) := by
  obtain ⟨h1, h2, h3, h4, h5, h6⟩ := h
  refine ⟨cr_GI_done h1 b, fun j hj => ?_, ⟨fun j hj => ?_, fun j hj => ?_⟩, fun c => ⟨?_, ?_⟩, ?_, fun _ => ⟨?_, fun k hk hdk => ?_⟩⟩
  · rcases Nat.lt_or_ge j n1 with e | e
    · rw [pk_un (by omega), pk_un (by omega), va_up_ne _ _ (by omega), va_up_ne _ _ (by omega)]
      exact h2 j e
    · have : j = n1 := by omega
      subst this
      rw [pk_us, pk_us, va_up_self, va_up_self]
      exact ⟨rfl, rfl⟩
  · rcases Nat.lt_or_ge j n1 with e | e
    · rw [va_up_ne _ _ (by omega), va_up_ne _ _ (by omega)]
      exact h3.1 j e
    · have : j = n1 := by omega
      subst this
      rw [va_up_self, va_up_self]
      exact hV b hb
  · rcases Nat.lt_or_ge (j + 1) n1 with e | e
    · rw [va_up_ne _ _ (by omega), va_up_ne _ _ (by omega)]
      exact h3.2 j e
    · have e2 : j + 1 = n1 := by omega
      rw [e2, va_up_self, va_up_ne _ _ (by omega)]
      rcases hn with q | q
      · omega
      · have e3 : n1 - 1 = j := by omega
        rw [e3] at q
        exact q
  · rintro ⟨j, hj, q1, q2⟩
    rcases Nat.lt_or_ge j n1 with e | e
    · rw [va_up_ne _ _ (by omega)] at q1 q2
      obtain ⟨k, k1, k2, k3⟩ := (h4 c).1 ⟨j, e, q1, q2⟩
      have kb : k ≠ b := fun q => by rw [q, hd] at k2; exact absurd k2 (by decide)
      exact ⟨k, k1, by rw [va_up_ne _ _ kb]; exact k2, k3⟩
    · have : j = n1 := by omega
      subst this
      rw [va_up_self] at q1 q2
      exact ⟨b, hb, va_up_self _ _ _, q1, q2⟩
  · rintro ⟨k, k1, k2, k3, k4⟩
    by_cases kb : k = b
    · subst kb
      exact ⟨n1, by omega, by rw [va_up_self]; exact k3, by rw [va_up_self]; exact k4⟩
    · rw [va_up_ne _ _ kb] at k2
      obtain ⟨j, hj, q1, q2⟩ := (h4 c).2 ⟨k, k1, k2, k3, k4⟩
      exact ⟨j, by omega, by rw [va_up_ne _ _ (by omega)]; exact q1, by rw [va_up_ne _ _ (by omega)]; exact q2⟩
  · rw [cr_cntb_up dn b hd mn hb]
    omega
  · rw [show n1 + 1 - 1 = n1 by omega, va_up_self]
  · rw [show n1 + 1 - 1 = n1 by omega, va_up_self]
    by_cases kb : k = b
    · subst kb
      rw [va_up_self] at hdk
      exact absurd hdk (by decide)
    · rw [va_up_ne _ _ kb] at hdk
      exact hmin k hk hdk
theorem cr_GI_merge {mn : Nat} {elo ehi : Nat → Nat} (hV : ∀ k, k < mn → cr_Vr (elo k) (ehi k)) {n1 : Nat} {lo1 hi1 : Nat → Nat} {f1 g1 ef1 : Nat → Int32} {la : Int32} {dn : Nat → Bool} (h : cr_GI mn elo ehi n1 lo1 hi1 f1 g1 ef1 la dn) {b : Nat} (hb : b < mn) (hd : dn b = false) (hmin : ∀ j, j < mn → dn j = false → elo b ≤ elo j) (hn : 0 < n1) (he : elo b ≤ hi1 (n1 - 1) + 1) :
    cr_GI mn elo ehi n1 lo1 (va_up hi1 (n1 - 1) (max (hi1 (n1 - 1)) (ehi b))) f1 (upd g1 (n1 - 1) (nI (max (hi1 (n1 - 1)) (ehi b)))) (upd ef1 b (-1)) (nI (max (hi1 (n1 - 1)) (ehi b))) (va_up dn b true) := by
  obtain ⟨h1, h2, h3, h4, h5, h6⟩ := h
  have hlb := (h6 hn).2 b hb hd
  have hv := hV b hb
  unfold cr_Vr at hv
  refine ⟨cr_GI_done h1 b, fun j hj => ?_, ⟨fun j hj => ?_, fun j hj => ?_⟩, fun c => ⟨?_, ?_⟩, ?_, fun _ => ⟨?_, fun k hk hdk => ?_⟩⟩
  · by_cases e : j = n1 - 1
    · subst e
      rw [pk_us, va_up_self]
      exact ⟨(h2 _ hj).1, rfl⟩
    · rw [pk_un e, va_up_ne _ _ e]
      exact h2 j hj
  · have q := h3.1 j hj
    by_cases e : j = n1 - 1
    · subst e
      rw [va_up_self]
      omega
    · rw [va_up_ne _ _ e]
      exact q
  · rw [va_up_ne _ _ (by omega)]
    exact h3.2 j hj
  · rintro ⟨j, hj, q1, q2⟩
    have old : cr_In n1 lo1 hi1 c → ∃ k, k < mn ∧ va_up dn b true k = true ∧ elo k ≤ c ∧ c ≤ ehi k := fun q => by
      obtain ⟨k, k1, k2, k3⟩ := (h4 c).1 q
      have kb : k ≠ b := fun q => by rw [q, hd] at k2; exact absurd k2 (by decide)
      exact ⟨k, k1, by rw [va_up_ne _ _ kb]; exact k2, k3⟩
    by_cases e : j = n1 - 1
    · subst e
      rw [va_up_self] at q2
      rcases Nat.lt_or_ge (hi1 (n1 - 1)) c with r | r
      · exact ⟨b, hb, va_up_self _ _ _, by omega, by omega⟩
      · exact old ⟨n1 - 1, hj, q1, r⟩
    · rw [va_up_ne _ _ e] at q2
      exact old ⟨j, hj, q1, q2⟩
  · rintro ⟨k, k1, k2, k3, k4⟩
    by_cases kb : k = b
    · subst kb
      exact ⟨n1 - 1, by omega, by omega, by rw [va_up_self]; omega⟩
    · rw [va_up_ne _ _ kb] at k2
      obtain ⟨j, hj, q1, q2⟩ := (h4 c).2 ⟨k, k1, k2, k3, k4⟩
      by_cases e : j = n1 - 1
      · subst e
        exact ⟨n1 - 1, hj, q1, by rw [va_up_self]; omega⟩
      · exact ⟨j, hj, q1, by rw [va_up_ne _ _ e]; exact q2⟩
  · rw [cr_cntb_up dn b hd mn hb]
    omega
  · rw [va_up_self]
  · by_cases kb : k = b
    · subst kb
      rw [va_up_self] at hdk
      exact absurd hdk (by decide)
    · rw [va_up_ne _ _ kb] at hdk
      exact (h6 hn).2 k hk hdk
theorem cr_GI_set {mn : Nat} {elo ehi : Nat → Nat} {n1 : Nat} {lo1 hi1 : Nat → Nat} {f1 g1 ef1 : Nat → Int32} {la : Int32} {dn : Nat → Bool} {E : Nat → Prop} (h : cr_GI mn elo ehi n1 lo1 hi1 f1 g1 ef1 la dn) (hall : ∀ k, k < mn → dn k = true) (hE : ∀ c, cr_In mn elo ehi c ↔ E c) : cr_Set n1 f1 g1 E := by
  obtain ⟨h1, h2, h3, h4, h5, h6⟩ := h
  refine ⟨lo1, hi1, h2, h3, fun c => ?_⟩
  rw [h4 c, ← hE c]
  constructor
  · rintro ⟨k, k1, _, k3, k4⟩
    exact ⟨k, k1, k3, k4⟩
  · rintro ⟨k, k1, k3, k4⟩
    exact ⟨k, k1, hall k k1, k3, k4⟩
end
section
set_option maxHeartbeats 4000000 in
set_option maxRecDepth 100000 in
theorem c_empty (l : Launch) (dC : Nat → ClassId) (dI : Nat → Nat → Nat) (sz : Nat) (r a b : Nat) (cI : ClassId) (n0 : Int32) (f g : Nat → Int32) : Met l yX0_empty wsX0_empty ({ frames := 1, cells := 0, slots := 0, locals := 20 }) (va_Pc [.ref r] (cr_pre dC dI [(cI, .int)] [(r, .inr (0, [.ref a, .ref b, .int n0])), (a, .inl (cI, 768, .inl f)), (b, .inl (cI, 768, .inl g))] sz)) (va_Qv (fun (u : va_W) => u = [(r, .inr (0, [.ref a, .ref b, .int (nI 0)])), (a, .inl (cI, 768, .inl f)), (b, .inl (cI, 768, .inl g))]) (cr_at dC dI [(cI, .int)] (va_A [(r, .inr (0, [.ref a, .ref b, .int n0])), (a, .inl (cI, 768, .inl f)), (b, .inl (cI, 768, .inl g))] sz)) (va_A [(r, .inr (0, [.ref a, .ref b, .int n0])), (a, .inl (cI, 768, .inl f)), (b, .inl (cI, 768, .inl g))] sz)) 0 0 (va_A [(r, .inr (0, [.ref a, .ref b, .int n0])), (a, .inl (cI, 768, .inl f)), (b, .inl (cI, 768, .inl g))] sz) := by
  refine Met.ofW (cc := cX0_empty) (maxL := 1) (ret := none) (by decide) rfl ?_
  intro p e s m args below meth c s₁ B hml hv
  obtain ⟨rfl, hsz, hP, hK, hD0⟩ := hv
  have hx := B.exec
  have hb := B.bytes
  have hr := B.returns
  have hts := atoms_spec (ws := wsX0_empty) B.pre
  have hown : s.vm.findClass RX0 = some m.cls := findClass_of_methodNamed B.named
  have hlocks := B.notSynchronized
  subst hsz
  have hD := hD0.self (sz := s.heap.size)
  generalize hAe : va_A [(r, .inr (0, [.ref a, .ref b, .int n0])), (a, .inl (cI, 768, .inl f)), (b, .inl (cI, 768, .inl g))] s.heap.size = A at hD ⊢
  have hA : ∀ q : Nat, s.heap.size ≤ q → A q := fun q h => by rw [← hAe]; exact Or.inr h
  have hS : va_S A s.heap s.heap [] := va_S.rf
  have hP : va_P (dC, dI) crCl [(r, .inr (0, [.ref a, .ref b, .int n0])), (a, .inl (cI, 768, .inl f)), (b, .inl (cI, 768, .inl g))] s.heap := hP
  have hl := lv_entry ([.ref r]) (n := 1) (Nat.le_of_ble_eq_true rfl)
  rw [lg_entry_eq]
  generalize (lg_sl ([.ref r]) ++ List.replicate (1 - (lg_sl ([.ref r])).length) Slot.unset).toArray = ls at hl ⊢
  have hl : lv_has ls 1 [(0, .ref r)] := hl
  refine lv_aload_n hx hb dX0_empty_0 rfl (lv_at hl 0 rfl) ?_
  refine lv_iconst (v := nI 0) hx hb dX0_empty_1 (by decide) ?_
  refine va_put (D := (dC, dI)) (ci := 0) (v := .int (nI 0)) (ty := .int) (C := RX0) (T := TX0) (N := 3) hx hb hts (by decide +kernel) tyX0 tyX0_ok nmX0 hown hK hP hD hS 0 rfl rfl 2 (by decide) (hts (.fieldLink RX0 16 "CharRows$Ranges" "count" "I") (by decide +kernel)) (fun _ h9 => h9) rfl (by decide +kernel) rfl rfl (Nat.le_of_ble_eq_true rfl) dX0_empty_2 (fun H locs hP hD hS => ?_)
  have hP : va_P (dC, dI) crCl [(r, .inr (0, [.ref a, .ref b, .int (nI 0)])), (a, .inl (cI, 768, .inl f)), (b, .inl (cI, 768, .inl g))] H := hP
  have hD : va_D A [(r, .inr (0, [.ref a, .ref b, .int (nI 0)])), (a, .inl (cI, 768, .inl f)), (b, .inl (cI, 768, .inl g))] := hD
  exact W.vret hx hb hr (fun t9 ht9 hW9 => ⟨⟨[(r, .inr (0, [.ref a, .ref b, .int (nI 0)])), (a, .inl (cI, 768, .inl f)), (b, .inl (cI, 768, .inl g))], rfl, rfl, by rw [ht9]; exact hP, va_K.moved hW9.alike hK, hD⟩, hS.F ht9⟩) hS.2.2 dX0_empty_5

set_option maxHeartbeats 4000000 in
set_option maxRecDepth 100000 in
theorem c_firstEndingFrom (l : Launch) (dC : Nat → ClassId) (dI : Nat → Nat → Nat) (sz : Nat) (r a b : Nat) (cI : ClassId) (n : Nat) (f g : Nat → Int32) (lo hi : Nat → Nat) (hR : cr_Rp n lo hi f g) (hO : cr_Ok n lo hi) (hn : n ≤ 768) (x : Int32) : Met l yX0_firstEndingFrom wsX0_firstEndingFrom ({ frames := 1, cells := 0, slots := 0, locals := 20 }) (va_Pc [.ref r, .int x] (cr_pre dC dI [(cI, .int)] [(r, .inr (0, [.ref a, .ref b, .int (nI n)])), (a, .inl (cI, 768, .inl f)), (b, .inl (cI, 768, .inl g))] sz)) (va_Qi (fun (rr : Int32) (u : va_W) => u = [(r, .inr (0, [.ref a, .ref b, .int (nI n)])), (a, .inl (cI, 768, .inl f)), (b, .inl (cI, 768, .inl g))] ∧ ∃ k : Nat, rr = nI k ∧ k ≤ n ∧ (∀ j, j < k → (hi j : Int) < x.toInt) ∧ (k < n → x.toInt ≤ hi k)) (cr_at dC dI [(cI, .int)] (va_A [(r, .inr (0, [.ref a, .ref b, .int (nI n)])), (a, .inl (cI, 768, .inl f)), (b, .inl (cI, 768, .inl g))] sz)) (va_A [(r, .inr (0, [.ref a, .ref b, .int (nI n)])), (a, .inl (cI, 768, .inl f)), (b, .inl (cI, 768, .inl g))] sz)) 0 0 (va_A [(r, .inr (0, [.ref a, .ref b, .int (nI n)])), (a, .inl (cI, 768, .inl f)), (b, .inl (cI, 768, .inl g))] sz) := by
  refine Met.ofW (cc := cX0_firstEndingFrom) (maxL := 5) (ret := (some .int)) (by decide) rfl ?_
  intro p e s m args below meth c s₁ B hml hv
  obtain ⟨rfl, hsz, hP, hK, hD0⟩ := hv
  have hx := B.exec
  have hb := B.bytes
  have hr := B.returns
  have hts := atoms_spec (ws := wsX0_firstEndingFrom) B.pre
  have hown : s.vm.findClass RX0 = some m.cls := findClass_of_methodNamed B.named
  have hlocks := B.notSynchronized
  subst hsz
  have hD := hD0.self (sz := s.heap.size)
  generalize hAe : va_A [(r, .inr (0, [.ref a, .ref b, .int (nI n)])), (a, .inl (cI, 768, .inl f)), (b, .inl (cI, 768, .inl g))] s.heap.size = A at hD ⊢
  have hA : ∀ q : Nat, s.heap.size ≤ q → A q := fun q h => by rw [← hAe]; exact Or.inr h
  have hS : va_S A s.heap s.heap [] := va_S.rf
  have hP : va_P (dC, dI) crCl [(r, .inr (0, [.ref a, .ref b, .int (nI n)])), (a, .inl (cI, 768, .inl f)), (b, .inl (cI, 768, .inl g))] s.heap := hP
  have hl := lv_entry ([.ref r, .int x]) (n := 5) (Nat.le_of_ble_eq_true rfl)
  rw [lg_entry_eq]
  generalize (lg_sl ([.ref r, .int x]) ++ List.replicate (5 - (lg_sl ([.ref r, .int x])).length) Slot.unset).toArray = ls at hl ⊢
  have hl : lv_has ls 5 [(0, .ref r), (1, .int x)] := hl
  refine lv_iconst (v := nI 0) hx hb dX0_firstEndingFrom_0 (by decide) ?_
  refine lv_istore_n (lv' := [(2, .int (nI 0)), (0, .ref r), (1, .int x)]) hx hb dX0_firstEndingFrom_1 rfl hl (by decide) rfl (fun ls hl => ?_)
  refine lv_aload_n hx hb dX0_firstEndingFrom_2 rfl (lv_at hl 1 rfl) ?_
  refine va_get (D := (dC, dI)) (ci := 0) (v := .int (nI n)) (C := RX0) (T := TX0) (N := 3) hx hb hts (by decide +kernel) hown hK hP 0 rfl rfl 2 (by decide) (hts (.fieldLink RX0 16 "CharRows$Ranges" "count" "I") (by decide +kernel)) (fun _ h9 => h9) rfl dX0_firstEndingFrom_3 ?_
  refine lv_istore_n (lv' := [(3, .int (nI n)), (2, .int (nI 0)), (0, .ref r), (1, .int x)]) hx hb dX0_firstEndingFrom_6 rfl hl (by decide) rfl (fun ls hl => ?_)
  refine cr_lp2 (fun (i : Nat) (j : Nat) => j - i) (fun (i : Nat) (j : Nat) H locs ls => (i ≤ j ∧ j ≤ n ∧ (∀ q, q < i → (hi q : Int) < x.toInt) ∧ (j < n → x.toInt ≤ hi j)) ∧ va_P (dC, dI) crCl [(r, .inr (0, [.ref a, .ref b, .int (nI n)])), (a, .inl (cI, 768, .inl f)), (b, .inl (cI, 768, .inl g))] H ∧ va_D A [(r, .inr (0, [.ref a, .ref b, .int (nI n)])), (a, .inl (cI, 768, .inl f)), (b, .inl (cI, 768, .inl g))] ∧ va_S A s.heap H locs ∧ lv_has ls 5 [(0, .ref r), (1, .int x), (2, .int (nI i)), (3, .int (nI j))]) ?_ 0 n ⟨⟨Nat.zero_le _, Nat.le_refl _, fun q h => absurd h (Nat.not_lt_zero q), fun h => absurd h (Nat.lt_irrefl n)⟩, hP, hD, hS, lv_sub hl [2, 3, 1, 0] rfl⟩
  intro i j H locs ls hI7 ih7
  obtain ⟨⟨h1, h2, h3, h4⟩, hP, hD, hS, hl⟩ := hI7
  refine lv_iload_n hx hb dX0_firstEndingFrom_7 rfl (lv_at hl 2 rfl) ?_
  refine lv_iload_n hx hb dX0_firstEndingFrom_8 rfl (lv_at hl 3 rfl) ?_
  refine lv_icmp_ge (tgt := 44) hx hb dX0_firstEndingFrom_9 (by decide) (fun c_9 => ?_) (fun c_9 => ?_)
  · rw [nI_leI (by omega) (by omega)] at c_9
    refine lv_iload_n hx hb dX0_firstEndingFrom_44 rfl (lv_at hl 2 rfl) ?_
    exact W.iret (v := nI i) hx hb hr (fun t9 ht9 hW9 => ⟨⟨nI i, [(r, .inr (0, [.ref a, .ref b, .int (nI n)])), (a, .inl (cI, 768, .inl f)), (b, .inl (cI, 768, .inl g))], rfl, ⟨rfl, i, rfl, by omega, h3, fun h => by rw [show i = j from (by omega)]; exact h4 (by omega)⟩, by rw [ht9]; exact hP, va_K.moved hW9.alike hK, hD⟩, hS.F ht9⟩) hS.2.2 dX0_firstEndingFrom_45
  · rw [nI_leI (by omega) (by omega)] at c_9
    refine lv_iload_n hx hb dX0_firstEndingFrom_12 rfl (lv_at hl 2 rfl) ?_
    refine lv_iload_n hx hb dX0_firstEndingFrom_13 rfl (lv_at hl 3 rfl) ?_
    refine lv_iadd hx hb dX0_firstEndingFrom_14 ?_
    refine cr_top (y := nI (i + j)) (nI_add i j) ?_
    refine lv_iconst (v := nI 1) hx hb dX0_firstEndingFrom_15 (by decide) ?_
    refine lv_iushr (v := nI ((i + j) / 2)) hx hb dX0_firstEndingFrom_16 (pk_ushrN (by omega) (nI 1) 1 (by decide)) ?_
    refine lv_istore (lv' := [(4, .int (nI ((i + j) / 2))), (0, .ref r), (1, .int x), (2, .int (nI i)), (3, .int (nI j))]) hx hb dX0_firstEndingFrom_17 hl (by decide) rfl (fun ls hl => ?_)
    refine lv_aload_n hx hb dX0_firstEndingFrom_19 rfl (lv_at hl 1 rfl) ?_
    refine va_get (D := (dC, dI)) (ci := 0) (v := .ref b) (C := RX0) (T := TX0) (N := 3) hx hb hts (by decide +kernel) hown hK hP 0 rfl rfl 1 (by decide) (hts (.fieldLink RX0 13 "CharRows$Ranges" "highs" "[I") (by decide +kernel)) (fun _ h9 => h9) rfl dX0_firstEndingFrom_20 ?_
    refine lv_iload hx hb dX0_firstEndingFrom_23 (lv_at hl 0 rfl) ?_
    refine va_iald hx hb hK hP 2 0 rfl rfl (vp_in_nI (by omega) (by omega)) dX0_firstEndingFrom_25 ?_
    refine cr_top (y := nI (hi ((i + j) / 2))) (by rw [nI_clamp (by omega)]; exact (hR _ (by omega)).2) ?_
    refine lv_iload_n hx hb dX0_firstEndingFrom_26 rfl (lv_at hl 2 rfl) ?_
    refine lv_icmp_ge (tgt := 38) hx hb dX0_firstEndingFrom_27 (by decide) (fun c_27 => ?_) (fun c_27 => ?_)
    · rw [cr_len' (by have := hO.1 ((i + j) / 2) (by omega); omega)] at c_27
      refine lv_iload hx hb dX0_firstEndingFrom_38 (lv_at hl 0 rfl) ?_
      refine lv_istore_n (lv' := [(3, .int (nI ((i + j) / 2))), (4, .int (nI ((i + j) / 2))), (0, .ref r), (1, .int x), (2, .int (nI i))]) hx hb dX0_firstEndingFrom_40 rfl hl (by decide) rfl (fun ls hl => ?_)
      refine lv_goto (tgt := 7) hx hb dX0_firstEndingFrom_41 (by decide) ?_
      exact ih7 i ((i + j) / 2) _ _ _ ⟨⟨by omega, by omega, h3, fun _ => c_27⟩, hP, hD, hS, lv_sub hl [2, 3, 4, 0] rfl⟩ (by omega)
    · rw [cr_len' (by have := hO.1 ((i + j) / 2) (by omega); omega)] at c_27
      refine lv_iload hx hb dX0_firstEndingFrom_30 (lv_at hl 0 rfl) ?_
      refine lv_iconst (v := nI 1) hx hb dX0_firstEndingFrom_32 (by decide) ?_
      refine lv_iadd hx hb dX0_firstEndingFrom_33 ?_
      refine cr_top (y := nI (((i + j) / 2) + 1)) (nI_add ((i + j) / 2) 1) ?_
      refine lv_istore_n (lv' := [(2, .int (nI (((i + j) / 2) + 1))), (4, .int (nI ((i + j) / 2))), (0, .ref r), (1, .int x), (3, .int (nI j))]) hx hb dX0_firstEndingFrom_34 rfl hl (by decide) rfl (fun ls hl => ?_)
      refine lv_goto (tgt := 41) hx hb dX0_firstEndingFrom_35 (by decide) ?_
      refine lv_goto (tgt := 7) hx hb dX0_firstEndingFrom_41 (by decide) ?_
      exact ih7 (((i + j) / 2) + 1) j _ _ _ ⟨⟨by omega, by omega, fun q hq => (by have := (hO.mono (show q ≤ (i + j) / 2 from (by omega)) (by omega)).1; omega), h4⟩, hP, hD, hS, lv_sub hl [2, 3, 0, 4] rfl⟩ (by omega)

set_option maxHeartbeats 4000000 in
set_option maxRecDepth 100000 in
theorem c_shift (l : Launch) (dC : Nat → ClassId) (dI : Nat → Nat → Nat) (sz : Nat) (r a b : Nat) (cI : ClassId) (n : Nat) (f g : Nat → Int32) (k t : Nat) (hn : n ≤ 768) (hk : k ≤ n) (ht0 : t ≤ 768) (ht1 : t + (n - k) ≤ 768) : Met l yX0_shift wsX0_shift ({ frames := 2, cells := 0, slots := 0, locals := 60 }) (va_Pc [.ref r, .int (nI k), .int (nI t)] (cr_pre dC dI [(cI, .int)] [(r, .inr (0, [.ref a, .ref b, .int (nI n)])), (a, .inl (cI, 768, .inl f)), (b, .inl (cI, 768, .inl g))] sz)) (va_Qv (fun (u : va_W) => u = [(r, .inr (0, [.ref a, .ref b, .int (nI (t + (n - k)))])), (a, .inl (cI, 768, .inl (va_cpy f f k t (n - k)))), (b, .inl (cI, 768, .inl (va_cpy g g k t (n - k))))]) (cr_at dC dI [(cI, .int)] (va_A [(r, .inr (0, [.ref a, .ref b, .int (nI n)])), (a, .inl (cI, 768, .inl f)), (b, .inl (cI, 768, .inl g))] sz)) (va_A [(r, .inr (0, [.ref a, .ref b, .int (nI n)])), (a, .inl (cI, 768, .inl f)), (b, .inl (cI, 768, .inl g))] sz)) 0 0 (va_A [(r, .inr (0, [.ref a, .ref b, .int (nI n)])), (a, .inl (cI, 768, .inl f)), (b, .inl (cI, 768, .inl g))] sz) := by
  refine Met.ofW (cc := cX0_shift) (maxL := 3) (ret := none) (by decide) rfl ?_
  intro p e s m args below meth c s₁ B hml hv
  obtain ⟨rfl, hsz, hP, hK, hD0⟩ := hv
  have hx := B.exec
  have hb := B.bytes
  have hr := B.returns
  have hts := atoms_spec (ws := wsX0_shift) B.pre
  have hown : s.vm.findClass RX0 = some m.cls := findClass_of_methodNamed B.named
  have hlocks := B.notSynchronized
  subst hsz
  have hD := hD0.self (sz := s.heap.size)
  generalize hAe : va_A [(r, .inr (0, [.ref a, .ref b, .int (nI n)])), (a, .inl (cI, 768, .inl f)), (b, .inl (cI, 768, .inl g))] s.heap.size = A at hD ⊢
  have hA : ∀ q : Nat, s.heap.size ≤ q → A q := fun q h => by rw [← hAe]; exact Or.inr h
  have hS : va_S A s.heap s.heap [] := va_S.rf
  have hP : va_P (dC, dI) crCl [(r, .inr (0, [.ref a, .ref b, .int (nI n)])), (a, .inl (cI, 768, .inl f)), (b, .inl (cI, 768, .inl g))] s.heap := hP
  have hl := lv_entry ([.ref r, .int (nI k), .int (nI t)]) (n := 3) (Nat.le_of_ble_eq_true rfl)
  rw [lg_entry_eq]
  generalize (lg_sl ([.ref r, .int (nI k), .int (nI t)]) ++ List.replicate (3 - (lg_sl ([.ref r, .int (nI k), .int (nI t)])).length) Slot.unset).toArray = ls at hl ⊢
  have hl : lv_has ls 3 [(0, .ref r), (1, .int (nI k)), (2, .int (nI t))] := hl
  refine lv_aload_n hx hb dX0_shift_0 rfl (lv_at hl 0 rfl) ?_
  refine va_get (D := (dC, dI)) (ci := 0) (v := .ref a) (C := RX0) (T := TX0) (N := 3) hx hb hts (by decide +kernel) hown hK hP 0 rfl rfl 0 (by decide) (hts (.fieldLink RX0 9 "CharRows$Ranges" "lows" "[I") (by decide +kernel)) (fun _ h9 => h9) rfl dX0_shift_1 ?_
  refine lv_iload_n hx hb dX0_shift_4 rfl (lv_at hl 1 rfl) ?_
  refine lv_aload_n hx hb dX0_shift_5 rfl (lv_at hl 0 rfl) ?_
  refine va_get (D := (dC, dI)) (ci := 0) (v := .ref a) (C := RX0) (T := TX0) (N := 3) hx hb hts (by decide +kernel) hown hK hP 0 rfl rfl 0 (by decide) (hts (.fieldLink RX0 9 "CharRows$Ranges" "lows" "[I") (by decide +kernel)) (fun _ h9 => h9) rfl dX0_shift_6 ?_
  refine lv_iload_n hx hb dX0_shift_9 rfl (lv_at hl 2 rfl) ?_
  refine lv_aload_n hx hb dX0_shift_10 rfl (lv_at hl 0 rfl) ?_
  refine va_get (D := (dC, dI)) (ci := 0) (v := .int (nI n)) (C := RX0) (T := TX0) (N := 3) hx hb hts (by decide +kernel) hown hK hP 0 rfl rfl 2 (by decide) (hts (.fieldLink RX0 16 "CharRows$Ranges" "count" "I") (by decide +kernel)) (fun _ h9 => h9) rfl dX0_shift_11 ?_
  refine lv_iload_n hx hb dX0_shift_14 rfl (lv_at hl 1 rfl) ?_
  refine lv_isub hx hb dX0_shift_15 ?_
  refine cr_top (y := nI (n - k)) (pk_sub (by omega)) ?_
  refine va_copyi hx hb (hml.trans hl.1.symm) hown (hts (.methodLink RX0 20 arraycopyName) (by decide +kernel)) (hts (.native arraycopyName) (by decide +kernel)) (hts (.static arraycopyName) (by decide +kernel)) (hts (.initialized "java/lang/System") (by decide +kernel)) hK hP hD hS 1 1 0 0 rfl rfl rfl rfl rfl (nI_pos (by omega)) (nI_pos (by omega)) (nI_pos (by omega)) (by rw [nI_clamp (by omega), nI_clamp (by omega)]; omega) (by rw [nI_clamp (by omega), nI_clamp (by omega)]; omega) (fun _ _ => rfl) (Nat.le_of_ble_eq_true rfl) (by decide +kernel) dX0_shift_16 (fun H locs hP hD hS => ?_)
  rw [nI_clamp (show k < 2 ^ 31 by omega), nI_clamp (show t < 2 ^ 31 by omega), nI_clamp (show (n - k) < 2 ^ 31 by omega)] at hP hD
  have hP : va_P (dC, dI) crCl [(r, .inr (0, [.ref a, .ref b, .int (nI n)])), (a, .inl (cI, 768, .inl (va_cpy f f k t (n - k)))), (b, .inl (cI, 768, .inl g))] H := hP
  have hD : va_D A [(r, .inr (0, [.ref a, .ref b, .int (nI n)])), (a, .inl (cI, 768, .inl (va_cpy f f k t (n - k)))), (b, .inl (cI, 768, .inl g))] := hD
  refine lv_aload_n hx hb dX0_shift_19 rfl (lv_at hl 0 rfl) ?_
  refine va_get (D := (dC, dI)) (ci := 0) (v := .ref b) (C := RX0) (T := TX0) (N := 3) hx hb hts (by decide +kernel) hown hK hP 0 rfl rfl 1 (by decide) (hts (.fieldLink RX0 13 "CharRows$Ranges" "highs" "[I") (by decide +kernel)) (fun _ h9 => h9) rfl dX0_shift_20 ?_
  refine lv_iload_n hx hb dX0_shift_23 rfl (lv_at hl 1 rfl) ?_
  refine lv_aload_n hx hb dX0_shift_24 rfl (lv_at hl 0 rfl) ?_
  refine va_get (D := (dC, dI)) (ci := 0) (v := .ref b) (C := RX0) (T := TX0) (N := 3) hx hb hts (by decide +kernel) hown hK hP 0 rfl rfl 1 (by decide) (hts (.fieldLink RX0 13 "CharRows$Ranges" "highs" "[I") (by decide +kernel)) (fun _ h9 => h9) rfl dX0_shift_25 ?_
  refine lv_iload_n hx hb dX0_shift_28 rfl (lv_at hl 2 rfl) ?_
  refine lv_aload_n hx hb dX0_shift_29 rfl (lv_at hl 0 rfl) ?_
  refine va_get (D := (dC, dI)) (ci := 0) (v := .int (nI n)) (C := RX0) (T := TX0) (N := 3) hx hb hts (by decide +kernel) hown hK hP 0 rfl rfl 2 (by decide) (hts (.fieldLink RX0 16 "CharRows$Ranges" "count" "I") (by decide +kernel)) (fun _ h9 => h9) rfl dX0_shift_30 ?_
  refine lv_iload_n hx hb dX0_shift_33 rfl (lv_at hl 1 rfl) ?_
  refine lv_isub hx hb dX0_shift_34 ?_
  refine cr_top (y := nI (n - k)) (pk_sub (by omega)) ?_
  refine va_copyi hx hb (hml.trans hl.1.symm) hown (hts (.methodLink RX0 20 arraycopyName) (by decide +kernel)) (hts (.native arraycopyName) (by decide +kernel)) (hts (.static arraycopyName) (by decide +kernel)) (hts (.initialized "java/lang/System") (by decide +kernel)) hK hP hD hS 2 2 0 0 rfl rfl rfl rfl rfl (nI_pos (by omega)) (nI_pos (by omega)) (nI_pos (by omega)) (by rw [nI_clamp (by omega), nI_clamp (by omega)]; omega) (by rw [nI_clamp (by omega), nI_clamp (by omega)]; omega) (fun _ _ => rfl) (Nat.le_of_ble_eq_true rfl) (by decide +kernel) dX0_shift_35 (fun H locs hP hD hS => ?_)
  rw [nI_clamp (show k < 2 ^ 31 by omega), nI_clamp (show t < 2 ^ 31 by omega), nI_clamp (show (n - k) < 2 ^ 31 by omega)] at hP hD
  have hP : va_P (dC, dI) crCl [(r, .inr (0, [.ref a, .ref b, .int (nI n)])), (a, .inl (cI, 768, .inl (va_cpy f f k t (n - k)))), (b, .inl (cI, 768, .inl (va_cpy g g k t (n - k))))] H := hP
  have hD : va_D A [(r, .inr (0, [.ref a, .ref b, .int (nI n)])), (a, .inl (cI, 768, .inl (va_cpy f f k t (n - k)))), (b, .inl (cI, 768, .inl (va_cpy g g k t (n - k))))] := hD
  refine lv_aload_n hx hb dX0_shift_38 rfl (lv_at hl 0 rfl) ?_
  refine lv_dup hx hb dX0_shift_39 rfl ?_
  refine va_get (D := (dC, dI)) (ci := 0) (v := .int (nI n)) (C := RX0) (T := TX0) (N := 3) hx hb hts (by decide +kernel) hown hK hP 0 rfl rfl 2 (by decide) (hts (.fieldLink RX0 16 "CharRows$Ranges" "count" "I") (by decide +kernel)) (fun _ h9 => h9) rfl dX0_shift_40 ?_
  refine lv_iload_n hx hb dX0_shift_43 rfl (lv_at hl 2 rfl) ?_
  refine lv_iload_n hx hb dX0_shift_44 rfl (lv_at hl 1 rfl) ?_
  refine lv_isub hx hb dX0_shift_45 ?_
  refine lv_iadd hx hb dX0_shift_46 ?_
  refine cr_top (y := nI (t + (n - k))) (cr_move hk) ?_
  refine va_put (D := (dC, dI)) (ci := 0) (v := .int (nI (t + (n - k)))) (ty := .int) (C := RX0) (T := TX0) (N := 3) hx hb hts (by decide +kernel) tyX0 tyX0_ok nmX0 hown hK hP hD hS 0 rfl rfl 2 (by decide) (hts (.fieldLink RX0 16 "CharRows$Ranges" "count" "I") (by decide +kernel)) (fun _ h9 => h9) rfl (by decide +kernel) rfl rfl (Nat.le_of_ble_eq_true rfl) dX0_shift_47 (fun H locs hP hD hS => ?_)
  have hP : va_P (dC, dI) crCl [(r, .inr (0, [.ref a, .ref b, .int (nI (t + (n - k)))])), (a, .inl (cI, 768, .inl (va_cpy f f k t (n - k)))), (b, .inl (cI, 768, .inl (va_cpy g g k t (n - k))))] H := hP
  have hD : va_D A [(r, .inr (0, [.ref a, .ref b, .int (nI (t + (n - k)))])), (a, .inl (cI, 768, .inl (va_cpy f f k t (n - k)))), (b, .inl (cI, 768, .inl (va_cpy g g k t (n - k))))] := hD
  exact W.vret hx hb hr (fun t9 ht9 hW9 => ⟨⟨[(r, .inr (0, [.ref a, .ref b, .int (nI (t + (n - k)))])), (a, .inl (cI, 768, .inl (va_cpy f f k t (n - k)))), (b, .inl (cI, 768, .inl (va_cpy g g k t (n - k))))], rfl, rfl, by rw [ht9]; exact hP, va_K.moved hW9.alike hK, hD⟩, hS.F ht9⟩) hS.2.2 dX0_shift_50

set_option maxHeartbeats 4000000 in
set_option maxRecDepth 100000 in
theorem c_insert (l : Launch) (dC : Nat → ClassId) (dI : Nat → Nat → Nat) (sz : Nat) (r a b : Nat) (cI : ClassId) (n : Nat) (f g : Nat → Int32) (k : Nat) (x y : Int32) (hn : n < 768) (hk : k ≤ n) : Met l yX0_insert wsX0_insert ({ frames := 3, cells := 0, slots := 0, locals := 100 }) (va_Pc [.ref r, .int (nI k), .int x, .int y] (cr_pre dC dI [(cI, .int)] [(r, .inr (0, [.ref a, .ref b, .int (nI n)])), (a, .inl (cI, 768, .inl f)), (b, .inl (cI, 768, .inl g))] sz)) (va_Qv (fun (u : va_W) => u = [(r, .inr (0, [.ref a, .ref b, .int (nI (n + 1))])), (a, .inl (cI, 768, .inl (upd (va_cpy f f k (k + 1) (n - k)) k x))), (b, .inl (cI, 768, .inl (upd (va_cpy g g k (k + 1) (n - k)) k y)))]) (cr_at dC dI [(cI, .int)] (va_A [(r, .inr (0, [.ref a, .ref b, .int (nI n)])), (a, .inl (cI, 768, .inl f)), (b, .inl (cI, 768, .inl g))] sz)) (va_A [(r, .inr (0, [.ref a, .ref b, .int (nI n)])), (a, .inl (cI, 768, .inl f)), (b, .inl (cI, 768, .inl g))] sz)) 0 0 (va_A [(r, .inr (0, [.ref a, .ref b, .int (nI n)])), (a, .inl (cI, 768, .inl f)), (b, .inl (cI, 768, .inl g))] sz) := by
  refine Met.ofW (cc := cX0_insert) (maxL := 4) (ret := none) (by decide) rfl ?_
  intro p e s m args below meth c s₁ B hml hv
  obtain ⟨rfl, hsz, hP, hK, hD0⟩ := hv
  have hx := B.exec
  have hb := B.bytes
  have hr := B.returns
  have hts := atoms_spec (ws := wsX0_insert) B.pre
  have hown : s.vm.findClass RX0 = some m.cls := findClass_of_methodNamed B.named
  have hlocks := B.notSynchronized
  subst hsz
  have hD := hD0.self (sz := s.heap.size)
  generalize hAe : va_A [(r, .inr (0, [.ref a, .ref b, .int (nI n)])), (a, .inl (cI, 768, .inl f)), (b, .inl (cI, 768, .inl g))] s.heap.size = A at hD ⊢
  have hA : ∀ q : Nat, s.heap.size ≤ q → A q := fun q h => by rw [← hAe]; exact Or.inr h
  have hS : va_S A s.heap s.heap [] := va_S.rf
  have hP : va_P (dC, dI) crCl [(r, .inr (0, [.ref a, .ref b, .int (nI n)])), (a, .inl (cI, 768, .inl f)), (b, .inl (cI, 768, .inl g))] s.heap := hP
  have hl := lv_entry ([.ref r, .int (nI k), .int x, .int y]) (n := 4) (Nat.le_of_ble_eq_true rfl)
  rw [lg_entry_eq]
  generalize (lg_sl ([.ref r, .int (nI k), .int x, .int y]) ++ List.replicate (4 - (lg_sl ([.ref r, .int (nI k), .int x, .int y])).length) Slot.unset).toArray = ls at hl ⊢
  have hl : lv_has ls 4 [(0, .ref r), (1, .int (nI k)), (2, .int x), (3, .int y)] := hl
  refine lv_aload_n hx hb dX0_insert_0 rfl (lv_at hl 0 rfl) ?_
  refine va_get (D := (dC, dI)) (ci := 0) (v := .int (nI n)) (C := RX0) (T := TX0) (N := 3) hx hb hts (by decide +kernel) hown hK hP 0 rfl rfl 2 (by decide) (hts (.fieldLink RX0 16 "CharRows$Ranges" "count" "I") (by decide +kernel)) (fun _ h9 => h9) rfl dX0_insert_1 ?_
  refine lv_sipush (v := nI 768) hx hb dX0_insert_4 (by decide) ?_
  refine lv_icmp_lt (tgt := 11) hx hb dX0_insert_7 (by decide) (fun c_7 => ?_) (fun c_7 => ?_)
  · refine lv_aload_n hx hb dX0_insert_11 rfl (lv_at hl 0 rfl) ?_
    refine lv_iload_n hx hb dX0_insert_12 rfl (lv_at hl 1 rfl) ?_
    refine lv_iload_n hx hb dX0_insert_13 rfl (lv_at hl 1 rfl) ?_
    refine lv_iconst (v := nI 1) hx hb dX0_insert_14 (by decide) ?_
    refine lv_iadd hx hb dX0_insert_15 ?_
    refine cr_top (y := nI (k + 1)) (nI_add k 1) ?_
    have hPc := hP.sub (ws' := [(r, .inr (0, [.ref a, .ref b, .int (nI n)])), (a, .inl (cI, 768, .inl f)), (b, .inl (cI, 768, .inl g))]) [0, 1, 2] rfl
    have hDc := hD.sub (ws' := [(r, .inr (0, [.ref a, .ref b, .int (nI n)])), (a, .inl (cI, 768, .inl f)), (b, .inl (cI, 768, .inl g))]) [0, 1, 2] (by decide) rfl
    have hFc := va_free (wc := [(r, .inr (0, [.ref a, .ref b, .int (nI n)])), (a, .inl (cI, 768, .inl f)), (b, .inl (cI, 768, .inl g))]) hD hS hA [0, 1, 2] rfl
    refine va_callv (va_runV (As := [.int (nI k), .int (nI (k + 1))]) (rest := []) ⟨hx, hb, hml, hown, hts⟩ (c_shift l dC dI _ r a b cI n f g k (k + 1) (by omega) hk (by omega) (by omega)) (cwV 2 hts gX0_insert_X0_shift rfl rfl rfl (by decide +kernel) ⟨Nat.le_of_ble_eq_true rfl, Nat.le_of_ble_eq_true rfl⟩) (cr_preV hPc hK hDc (ci := 0) (q0 := 0) rfl rfl) rfl rfl hl.1 rfl (lv_room (Nat.le_of_ble_eq_true rfl)) dX0_insert_16 ⟨Nat.zero_le _, Nat.zero_le _⟩) hS (fun q _ h => hFc q h) hFc (fun u_16 t_16 H_16 locs ht_16 hvm_16 hw_16 hB_16 hz_16 hk_16 hS => ?_)
    subst hw_16
    obtain ⟨hP, hD⟩ := cr_back (wr := []) (w1 := [(r, .inr (0, [.ref a, .ref b, .int (nI (k + 1 + (n - k)))])), (a, .inl (cI, 768, .inl (va_cpy f f k (k + 1) (n - k)))), (b, .inl (cI, 768, .inl (va_cpy g g k (k + 1) (n - k))))]) hP hD [0, 1, 2] [] rfl rfl (by decide) (by decide) hk_16 hFc hB_16 ht_16
    clear hPc hDc hFc
    generalize H_16 = H at hP hS ⊢
    have hP := hP.sub (ws' := [(r, .inr (0, [.ref a, .ref b, .int (nI (k + 1 + (n - k)))])), (a, .inl (cI, 768, .inl (va_cpy f f k (k + 1) (n - k)))), (b, .inl (cI, 768, .inl (va_cpy g g k (k + 1) (n - k))))]) [0, 1, 2] rfl
    have hD := hD.sub (ws' := [(r, .inr (0, [.ref a, .ref b, .int (nI (k + 1 + (n - k)))])), (a, .inl (cI, 768, .inl (va_cpy f f k (k + 1) (n - k)))), (b, .inl (cI, 768, .inl (va_cpy g g k (k + 1) (n - k))))]) [0, 1, 2] (by decide) rfl
    rw [show k + 1 + (n - k) = n + 1 by omega] at hP hD
    refine lv_aload_n hx hb dX0_insert_19 rfl (lv_at hl 0 rfl) ?_
    refine va_get (D := (dC, dI)) (ci := 0) (v := .ref a) (C := RX0) (T := TX0) (N := 3) hx hb hts (by decide +kernel) hown hK hP 0 rfl rfl 0 (by decide) (hts (.fieldLink RX0 9 "CharRows$Ranges" "lows" "[I") (by decide +kernel)) (fun _ h9 => h9) rfl dX0_insert_20 ?_
    refine lv_iload_n hx hb dX0_insert_23 rfl (lv_at hl 1 rfl) ?_
    refine lv_iload_n hx hb dX0_insert_24 rfl (lv_at hl 2 rfl) ?_
    refine va_iast hx hb hK hP hD hS 1 0 rfl rfl (vp_in_nI (by omega) (by omega)) dX0_insert_25 (fun H locs hP hD hS => ?_)
    have hP : va_P (dC, dI) crCl [(r, .inr (0, [.ref a, .ref b, .int (nI (n + 1))])), (a, .inl (cI, 768, .inl (upd (va_cpy f f k (k + 1) (n - k)) (nI k).toNatClampNeg x))), (b, .inl (cI, 768, .inl (va_cpy g g k (k + 1) (n - k))))] H := hP
    have hD : va_D A [(r, .inr (0, [.ref a, .ref b, .int (nI (n + 1))])), (a, .inl (cI, 768, .inl (upd (va_cpy f f k (k + 1) (n - k)) (nI k).toNatClampNeg x))), (b, .inl (cI, 768, .inl (va_cpy g g k (k + 1) (n - k))))] := hD
    rw [nI_clamp (show k < 2 ^ 31 by omega)] at hP hD
    refine lv_aload_n hx hb dX0_insert_26 rfl (lv_at hl 0 rfl) ?_
    refine va_get (D := (dC, dI)) (ci := 0) (v := .ref b) (C := RX0) (T := TX0) (N := 3) hx hb hts (by decide +kernel) hown hK hP 0 rfl rfl 1 (by decide) (hts (.fieldLink RX0 13 "CharRows$Ranges" "highs" "[I") (by decide +kernel)) (fun _ h9 => h9) rfl dX0_insert_27 ?_
    refine lv_iload_n hx hb dX0_insert_30 rfl (lv_at hl 1 rfl) ?_
    refine lv_iload_n hx hb dX0_insert_31 rfl (lv_at hl 3 rfl) ?_
    refine va_iast hx hb hK hP hD hS 2 0 rfl rfl (vp_in_nI (by omega) (by omega)) dX0_insert_32 (fun H locs hP hD hS => ?_)
    have hP : va_P (dC, dI) crCl [(r, .inr (0, [.ref a, .ref b, .int (nI (n + 1))])), (a, .inl (cI, 768, .inl (upd (va_cpy f f k (k + 1) (n - k)) k x))), (b, .inl (cI, 768, .inl (upd (va_cpy g g k (k + 1) (n - k)) (nI k).toNatClampNeg y)))] H := hP
    have hD : va_D A [(r, .inr (0, [.ref a, .ref b, .int (nI (n + 1))])), (a, .inl (cI, 768, .inl (upd (va_cpy f f k (k + 1) (n - k)) k x))), (b, .inl (cI, 768, .inl (upd (va_cpy g g k (k + 1) (n - k)) (nI k).toNatClampNeg y)))] := hD
    rw [nI_clamp (show k < 2 ^ 31 by omega)] at hP hD
    exact W.vret hx hb hr (fun t9 ht9 hW9 => ⟨⟨[(r, .inr (0, [.ref a, .ref b, .int (nI (n + 1))])), (a, .inl (cI, 768, .inl (upd (va_cpy f f k (k + 1) (n - k)) k x))), (b, .inl (cI, 768, .inl (upd (va_cpy g g k (k + 1) (n - k)) k y)))], rfl, rfl, by rw [ht9]; exact hP, va_K.moved hW9.alike hK, hD⟩, hS.F ht9⟩) hS.2.2 dX0_insert_33
  · exact absurd ((nI_ltI (by omega) (by omega)).2 hn) c_7

set_option maxHeartbeats 4000000 in
set_option maxRecDepth 100000 in
theorem c_unite (l : Launch) (dC : Nat → ClassId) (dI : Nat → Nat → Nat) (sz : Nat) (r a b : Nat) (cI : ClassId) (n : Nat) (f g : Nat → Int32) (lo hi : Nat → Nat) (hR : cr_Rp n lo hi f g) (hO : cr_Ok n lo hi) (hn : n ≤ 768) (k q x y : Nat) (hk : k < q) (hq : q ≤ n) (hx0 : x < 2 ^ 31) (hy0 : y < 2 ^ 31) : Met l yX0_unite wsX0_unite ({ frames := 3, cells := 0, slots := 0, locals := 100 }) (va_Pc [.ref r, .int (nI k), .int (nI q), .int (nI x), .int (nI y)] (cr_pre dC dI [(cI, .int)] [(r, .inr (0, [.ref a, .ref b, .int (nI n)])), (a, .inl (cI, 768, .inl f)), (b, .inl (cI, 768, .inl g))] sz)) (va_Qv (fun (u : va_W) => u = [(r, .inr (0, [.ref a, .ref b, .int (nI (k + 1 + (n - q)))])), (a, .inl (cI, 768, .inl (va_cpy (upd f k (nI (min (lo k) x))) (upd f k (nI (min (lo k) x))) q (k + 1) (n - q)))), (b, .inl (cI, 768, .inl (va_cpy (upd g k (nI (max (hi (q - 1)) y))) (upd g k (nI (max (hi (q - 1)) y))) q (k + 1) (n - q))))]) (cr_at dC dI [(cI, .int)] (va_A [(r, .inr (0, [.ref a, .ref b, .int (nI n)])), (a, .inl (cI, 768, .inl f)), (b, .inl (cI, 768, .inl g))] sz)) (va_A [(r, .inr (0, [.ref a, .ref b, .int (nI n)])), (a, .inl (cI, 768, .inl f)), (b, .inl (cI, 768, .inl g))] sz)) 0 0 (va_A [(r, .inr (0, [.ref a, .ref b, .int (nI n)])), (a, .inl (cI, 768, .inl f)), (b, .inl (cI, 768, .inl g))] sz) := by
  refine Met.ofW (cc := cX0_unite) (maxL := 5) (ret := none) (by decide) rfl ?_
  intro p e s m args below meth c s₁ B hml hv
  obtain ⟨rfl, hsz, hP, hK, hD0⟩ := hv
  have hx := B.exec
  have hb := B.bytes
  have hr := B.returns
  have hts := atoms_spec (ws := wsX0_unite) B.pre
  have hown : s.vm.findClass RX0 = some m.cls := findClass_of_methodNamed B.named
  have hlocks := B.notSynchronized
  subst hsz
  have hD := hD0.self (sz := s.heap.size)
  generalize hAe : va_A [(r, .inr (0, [.ref a, .ref b, .int (nI n)])), (a, .inl (cI, 768, .inl f)), (b, .inl (cI, 768, .inl g))] s.heap.size = A at hD ⊢
  have hA : ∀ q : Nat, s.heap.size ≤ q → A q := fun q h => by rw [← hAe]; exact Or.inr h
  have hS : va_S A s.heap s.heap [] := va_S.rf
  have hP : va_P (dC, dI) crCl [(r, .inr (0, [.ref a, .ref b, .int (nI n)])), (a, .inl (cI, 768, .inl f)), (b, .inl (cI, 768, .inl g))] s.heap := hP
  have hl := lv_entry ([.ref r, .int (nI k), .int (nI q), .int (nI x), .int (nI y)]) (n := 5) (Nat.le_of_ble_eq_true rfl)
  rw [lg_entry_eq]
  generalize (lg_sl ([.ref r, .int (nI k), .int (nI q), .int (nI x), .int (nI y)]) ++ List.replicate (5 - (lg_sl ([.ref r, .int (nI k), .int (nI q), .int (nI x), .int (nI y)])).length) Slot.unset).toArray = ls at hl ⊢
  have hl : lv_has ls 5 [(0, .ref r), (1, .int (nI k)), (2, .int (nI q)), (3, .int (nI x)), (4, .int (nI y))] := hl
  have hlo := hO.1 k (by omega)
  have hhi := hO.1 (q - 1) (by omega)
  refine lv_aload_n hx hb dX0_unite_0 rfl (lv_at hl 0 rfl) ?_
  refine va_get (D := (dC, dI)) (ci := 0) (v := .ref a) (C := RX0) (T := TX0) (N := 3) hx hb hts (by decide +kernel) hown hK hP 0 rfl rfl 0 (by decide) (hts (.fieldLink RX0 9 "CharRows$Ranges" "lows" "[I") (by decide +kernel)) (fun _ h9 => h9) rfl dX0_unite_1 ?_
  refine lv_iload_n hx hb dX0_unite_4 rfl (lv_at hl 1 rfl) ?_
  refine lv_aload_n hx hb dX0_unite_5 rfl (lv_at hl 0 rfl) ?_
  refine va_get (D := (dC, dI)) (ci := 0) (v := .ref a) (C := RX0) (T := TX0) (N := 3) hx hb hts (by decide +kernel) hown hK hP 0 rfl rfl 0 (by decide) (hts (.fieldLink RX0 9 "CharRows$Ranges" "lows" "[I") (by decide +kernel)) (fun _ h9 => h9) rfl dX0_unite_6 ?_
  refine lv_iload_n hx hb dX0_unite_9 rfl (lv_at hl 1 rfl) ?_
  refine va_iald hx hb hK hP 1 0 rfl rfl (vp_in_nI (by omega) (by omega)) dX0_unite_10 ?_
  refine cr_top (y := nI (lo k)) (by rw [nI_clamp (by omega)]; exact (hR _ (by omega)).1) ?_
  refine lv_iload_n hx hb dX0_unite_11 rfl (lv_at hl 3 rfl) ?_
  refine va_mmin hx hb (hml.trans hl.1.symm) hown (hts (.methodLink RX0 42 Lib.Math.min.name) (by decide +kernel)) (hts (.static Lib.Math.min.name) (by decide +kernel)) (hts (.initialized "java/lang/Math") (by decide +kernel)) (hts (.code Lib.Math.min.name Lib.Math.min.code 2 (some .int)) (by decide +kernel)) (Nat.le_of_ble_eq_true rfl) (Nat.le_of_ble_eq_true rfl) (Nat.zero_le _) (Nat.zero_le _) dX0_unite_12 ?_
  refine cr_top (y := nI (min (lo k) x)) (cr_min _ _ (by omega) (by omega)) ?_
  refine va_iast hx hb hK hP hD hS 1 0 rfl rfl (vp_in_nI (by omega) (by omega)) dX0_unite_15 (fun H locs hP hD hS => ?_)
  have hP : va_P (dC, dI) crCl [(r, .inr (0, [.ref a, .ref b, .int (nI n)])), (a, .inl (cI, 768, .inl (upd f (nI k).toNatClampNeg (nI (min (lo k) x))))), (b, .inl (cI, 768, .inl g))] H := hP
  have hD : va_D A [(r, .inr (0, [.ref a, .ref b, .int (nI n)])), (a, .inl (cI, 768, .inl (upd f (nI k).toNatClampNeg (nI (min (lo k) x))))), (b, .inl (cI, 768, .inl g))] := hD
  rw [nI_clamp (show k < 2 ^ 31 by omega)] at hP hD
  refine lv_aload_n hx hb dX0_unite_16 rfl (lv_at hl 0 rfl) ?_
  refine va_get (D := (dC, dI)) (ci := 0) (v := .ref b) (C := RX0) (T := TX0) (N := 3) hx hb hts (by decide +kernel) hown hK hP 0 rfl rfl 1 (by decide) (hts (.fieldLink RX0 13 "CharRows$Ranges" "highs" "[I") (by decide +kernel)) (fun _ h9 => h9) rfl dX0_unite_17 ?_
  refine lv_iload_n hx hb dX0_unite_20 rfl (lv_at hl 1 rfl) ?_
  refine lv_aload_n hx hb dX0_unite_21 rfl (lv_at hl 0 rfl) ?_
  refine va_get (D := (dC, dI)) (ci := 0) (v := .ref b) (C := RX0) (T := TX0) (N := 3) hx hb hts (by decide +kernel) hown hK hP 0 rfl rfl 1 (by decide) (hts (.fieldLink RX0 13 "CharRows$Ranges" "highs" "[I") (by decide +kernel)) (fun _ h9 => h9) rfl dX0_unite_22 ?_
  refine lv_iload_n hx hb dX0_unite_25 rfl (lv_at hl 2 rfl) ?_
  refine lv_iconst (v := nI 1) hx hb dX0_unite_26 (by decide) ?_
  refine lv_isub hx hb dX0_unite_27 ?_
  refine cr_top (y := nI (q - 1)) (pk_sub (by omega)) ?_
  refine va_iald hx hb hK hP 2 0 rfl rfl (vp_in_nI (by omega) (by omega)) dX0_unite_28 ?_
  refine cr_top (y := nI (hi (q - 1))) (by rw [nI_clamp (by omega)]; exact (hR _ (by omega)).2) ?_
  refine lv_iload hx hb dX0_unite_29 (lv_at hl 4 rfl) ?_
  refine va_mmax hx hb (hml.trans hl.1.symm) hown (hts (.methodLink RX0 48 Lib.Math.max.name) (by decide +kernel)) (hts (.static Lib.Math.max.name) (by decide +kernel)) (hts (.initialized "java/lang/Math") (by decide +kernel)) (hts (.code Lib.Math.max.name Lib.Math.max.code 2 (some .int)) (by decide +kernel)) (Nat.le_of_ble_eq_true rfl) (Nat.le_of_ble_eq_true rfl) (Nat.zero_le _) (Nat.zero_le _) dX0_unite_31 ?_
  refine cr_top (y := nI (max (hi (q - 1)) y)) (cr_max _ _ (by omega) (by omega)) ?_
  refine va_iast hx hb hK hP hD hS 2 0 rfl rfl (vp_in_nI (by omega) (by omega)) dX0_unite_34 (fun H locs hP hD hS => ?_)
  have hP : va_P (dC, dI) crCl [(r, .inr (0, [.ref a, .ref b, .int (nI n)])), (a, .inl (cI, 768, .inl (upd f k (nI (min (lo k) x))))), (b, .inl (cI, 768, .inl (upd g (nI k).toNatClampNeg (nI (max (hi (q - 1)) y)))))] H := hP
  have hD : va_D A [(r, .inr (0, [.ref a, .ref b, .int (nI n)])), (a, .inl (cI, 768, .inl (upd f k (nI (min (lo k) x))))), (b, .inl (cI, 768, .inl (upd g (nI k).toNatClampNeg (nI (max (hi (q - 1)) y)))))] := hD
  rw [nI_clamp (show k < 2 ^ 31 by omega)] at hP hD
  refine lv_aload_n hx hb dX0_unite_35 rfl (lv_at hl 0 rfl) ?_
  refine lv_iload_n hx hb dX0_unite_36 rfl (lv_at hl 2 rfl) ?_
  refine lv_iload_n hx hb dX0_unite_37 rfl (lv_at hl 1 rfl) ?_
  refine lv_iconst (v := nI 1) hx hb dX0_unite_38 (by decide) ?_
  refine lv_iadd hx hb dX0_unite_39 ?_
  refine cr_top (y := nI (k + 1)) (nI_add k 1) ?_
  have hPc := hP.sub (ws' := [(r, .inr (0, [.ref a, .ref b, .int (nI n)])), (a, .inl (cI, 768, .inl (upd f k (nI (min (lo k) x))))), (b, .inl (cI, 768, .inl (upd g k (nI (max (hi (q - 1)) y)))))]) [0, 1, 2] rfl
  have hDc := hD.sub (ws' := [(r, .inr (0, [.ref a, .ref b, .int (nI n)])), (a, .inl (cI, 768, .inl (upd f k (nI (min (lo k) x))))), (b, .inl (cI, 768, .inl (upd g k (nI (max (hi (q - 1)) y)))))]) [0, 1, 2] (by decide) rfl
  have hFc := va_free (wc := [(r, .inr (0, [.ref a, .ref b, .int (nI n)])), (a, .inl (cI, 768, .inl (upd f k (nI (min (lo k) x))))), (b, .inl (cI, 768, .inl (upd g k (nI (max (hi (q - 1)) y)))))]) hD hS hA [0, 1, 2] rfl
  refine va_callv (va_runV (As := [.int (nI q), .int (nI (k + 1))]) (rest := []) ⟨hx, hb, hml, hown, hts⟩ (c_shift l dC dI _ r a b cI n (upd f k (nI (min (lo k) x))) (upd g k (nI (max (hi (q - 1)) y))) q (k + 1) (by omega) (by omega) (by omega) (by omega)) (cwV 2 hts gX0_unite_X0_shift rfl rfl rfl (by decide +kernel) ⟨Nat.le_of_ble_eq_true rfl, Nat.le_of_ble_eq_true rfl⟩) (cr_preV hPc hK hDc (ci := 0) (q0 := 0) rfl rfl) rfl rfl hl.1 rfl (lv_room (Nat.le_of_ble_eq_true rfl)) dX0_unite_40 ⟨Nat.zero_le _, Nat.zero_le _⟩) hS (fun q _ h => hFc q h) hFc (fun u_40 t_40 H_40 locs ht_40 hvm_40 hw_40 hB_40 hz_40 hk_40 hS => ?_)
  subst hw_40
  obtain ⟨hP, hD⟩ := cr_back (wr := []) (w1 := [(r, .inr (0, [.ref a, .ref b, .int (nI (k + 1 + (n - q)))])), (a, .inl (cI, 768, .inl (va_cpy (upd f k (nI (min (lo k) x))) (upd f k (nI (min (lo k) x))) q (k + 1) (n - q)))), (b, .inl (cI, 768, .inl (va_cpy (upd g k (nI (max (hi (q - 1)) y))) (upd g k (nI (max (hi (q - 1)) y))) q (k + 1) (n - q))))]) hP hD [0, 1, 2] [] rfl rfl (by decide) (by decide) hk_40 hFc hB_40 ht_40
  clear hPc hDc hFc
  generalize H_40 = H at hP hS ⊢
  have hP := hP.sub (ws' := [(r, .inr (0, [.ref a, .ref b, .int (nI (k + 1 + (n - q)))])), (a, .inl (cI, 768, .inl (va_cpy (upd f k (nI (min (lo k) x))) (upd f k (nI (min (lo k) x))) q (k + 1) (n - q)))), (b, .inl (cI, 768, .inl (va_cpy (upd g k (nI (max (hi (q - 1)) y))) (upd g k (nI (max (hi (q - 1)) y))) q (k + 1) (n - q))))]) [0, 1, 2] rfl
  have hD := hD.sub (ws' := [(r, .inr (0, [.ref a, .ref b, .int (nI (k + 1 + (n - q)))])), (a, .inl (cI, 768, .inl (va_cpy (upd f k (nI (min (lo k) x))) (upd f k (nI (min (lo k) x))) q (k + 1) (n - q)))), (b, .inl (cI, 768, .inl (va_cpy (upd g k (nI (max (hi (q - 1)) y))) (upd g k (nI (max (hi (q - 1)) y))) q (k + 1) (n - q))))]) [0, 1, 2] (by decide) rfl
  exact W.vret hx hb hr (fun t9 ht9 hW9 => ⟨⟨[(r, .inr (0, [.ref a, .ref b, .int (nI (k + 1 + (n - q)))])), (a, .inl (cI, 768, .inl (va_cpy (upd f k (nI (min (lo k) x))) (upd f k (nI (min (lo k) x))) q (k + 1) (n - q)))), (b, .inl (cI, 768, .inl (va_cpy (upd g k (nI (max (hi (q - 1)) y))) (upd g k (nI (max (hi (q - 1)) y))) q (k + 1) (n - q))))], rfl, rfl, by rw [ht9]; exact hP, va_K.moved hW9.alike hK, hD⟩, hS.F ht9⟩) hS.2.2 dX0_unite_43

set_option maxHeartbeats 4000000 in
set_option maxRecDepth 100000 in
theorem c_put (l : Launch) (dC : Nat → ClassId) (dI : Nat → Nat → Nat) (sz : Nat) (r a b : Nat) (cI : ClassId) (n : Nat) (f g : Nat → Int32) (S : Nat → Prop) (hSet : cr_Set n f g S) (hn : n < 768) (x y : Int32) (hxy : y.toInt < x.toInt ∨ (0 ≤ x.toInt ∧ y.toInt ≤ 1114111 ∧ (y.toInt < 55296 ∨ 57344 ≤ x.toInt))) : Met l yX0_put wsX0_put ({ frames := 4, cells := 0, slots := 0, locals := 140 }) (va_Pc [.ref r, .int x, .int y] (cr_pre dC dI [(cI, .int)] [(r, .inr (0, [.ref a, .ref b, .int (nI n)])), (a, .inl (cI, 768, .inl f)), (b, .inl (cI, 768, .inl g))] sz)) (va_Qv (fun (u : va_W) => ∃ (n' : Nat) (f' g' : Nat → Int32), u = [(r, .inr (0, [.ref a, .ref b, .int (nI n')])), (a, .inl (cI, 768, .inl f')), (b, .inl (cI, 768, .inl g'))] ∧ n' ≤ n + 1 ∧ cr_Set n' f' g' (fun c => S c ∨ (x.toInt ≤ (c : Int) ∧ (c : Int) ≤ y.toInt))) (cr_at dC dI [(cI, .int)] (va_A [(r, .inr (0, [.ref a, .ref b, .int (nI n)])), (a, .inl (cI, 768, .inl f)), (b, .inl (cI, 768, .inl g))] sz)) (va_A [(r, .inr (0, [.ref a, .ref b, .int (nI n)])), (a, .inl (cI, 768, .inl f)), (b, .inl (cI, 768, .inl g))] sz)) 0 0 (va_A [(r, .inr (0, [.ref a, .ref b, .int (nI n)])), (a, .inl (cI, 768, .inl f)), (b, .inl (cI, 768, .inl g))] sz) := by
  refine Met.ofW (cc := cX0_put) (maxL := 5) (ret := none) (by decide) rfl ?_
  intro p e s m args below meth c s₁ B hml hv
  obtain ⟨rfl, hsz, hP, hK, hD0⟩ := hv
  have hx := B.exec
  have hb := B.bytes
  have hr := B.returns
  have hts := atoms_spec (ws := wsX0_put) B.pre
  have hown : s.vm.findClass RX0 = some m.cls := findClass_of_methodNamed B.named
  have hlocks := B.notSynchronized
  subst hsz
  have hD := hD0.self (sz := s.heap.size)
  generalize hAe : va_A [(r, .inr (0, [.ref a, .ref b, .int (nI n)])), (a, .inl (cI, 768, .inl f)), (b, .inl (cI, 768, .inl g))] s.heap.size = A at hD ⊢
  have hA : ∀ q : Nat, s.heap.size ≤ q → A q := fun q h => by rw [← hAe]; exact Or.inr h
  have hS : va_S A s.heap s.heap [] := va_S.rf
  have hP : va_P (dC, dI) crCl [(r, .inr (0, [.ref a, .ref b, .int (nI n)])), (a, .inl (cI, 768, .inl f)), (b, .inl (cI, 768, .inl g))] s.heap := hP
  have hl := lv_entry ([.ref r, .int x, .int y]) (n := 5) (Nat.le_of_ble_eq_true rfl)
  rw [lg_entry_eq]
  generalize (lg_sl ([.ref r, .int x, .int y]) ++ List.replicate (5 - (lg_sl ([.ref r, .int x, .int y])).length) Slot.unset).toArray = ls at hl ⊢
  have hl : lv_has ls 5 [(0, .ref r), (1, .int x), (2, .int y)] := hl
  obtain ⟨lo, hi, hR, hO, hI⟩ := hSet
  refine lv_iload_n hx hb dX0_put_0 rfl (lv_at hl 1 rfl) ?_
  refine lv_iload_n hx hb dX0_put_1 rfl (lv_at hl 2 rfl) ?_
  refine lv_icmp_le (tgt := 6) hx hb dX0_put_2 (by decide) (fun c_2 => ?_) (fun c_2 => ?_)
  · rw [Int32.le_iff_toInt_le] at c_2
    obtain ⟨xa, hxa, rfl⟩ := cr_of (x := x) (by omega)
    obtain ⟨yb, hyb, rfl⟩ := cr_of (x := y) (by omega)
    rw [nI_toInt hxa, nI_toInt hyb] at hxy c_2
    have hyb2 : yb ≤ 1114111 := by omega
    have hlow : (nI xa - nI 1).toInt = (xa : Int) - 1 := pk_sub_toInt (by omega) (by omega)
    refine lv_aload_n hx hb dX0_put_6 rfl (lv_at hl 0 rfl) ?_
    refine lv_iload_n hx hb dX0_put_7 rfl (lv_at hl 1 rfl) ?_
    refine lv_iconst (v := nI 1) hx hb dX0_put_8 (by decide) ?_
    refine lv_isub hx hb dX0_put_9 ?_
    have hPc := hP.sub (ws' := [(r, .inr (0, [.ref a, .ref b, .int (nI n)])), (a, .inl (cI, 768, .inl f)), (b, .inl (cI, 768, .inl g))]) [0, 1, 2] rfl
    have hDc := hD.sub (ws' := [(r, .inr (0, [.ref a, .ref b, .int (nI n)])), (a, .inl (cI, 768, .inl f)), (b, .inl (cI, 768, .inl g))]) [0, 1, 2] (by decide) rfl
    have hFc := va_free (wc := [(r, .inr (0, [.ref a, .ref b, .int (nI n)])), (a, .inl (cI, 768, .inl f)), (b, .inl (cI, 768, .inl g))]) hD hS hA [0, 1, 2] rfl
    refine va_calli (va_runV (As := [.int ((nI xa) - (nI 1))]) (rest := []) ⟨hx, hb, hml, hown, hts⟩ (c_firstEndingFrom l dC dI _ r a b cI n f g lo hi hR hO (by omega) (nI xa - nI 1)) (cwV 1 hts gX0_put_X0_firstEndingFrom rfl rfl rfl (by decide +kernel) ⟨Nat.le_of_ble_eq_true rfl, Nat.le_of_ble_eq_true rfl⟩) (cr_preV hPc hK hDc (ci := 0) (q0 := 0) rfl rfl) rfl rfl hl.1 rfl (lv_room (Nat.le_of_ble_eq_true rfl)) dX0_put_10 ⟨Nat.zero_le _, Nat.zero_le _⟩) hS (fun q _ h => hFc q h) hFc (fun r_10 u_10 t_10 H_10 locs ht_10 hvm_10 hw_10 hB_10 hz_10 hk_10 hS => ?_)
    obtain ⟨rfl, k, rfl, hk1, hk2, hk3⟩ := hw_10
    rw [hlow] at hk2 hk3
    obtain ⟨hP, hD⟩ := cr_back (wr := []) (w1 := [(r, .inr (0, [.ref a, .ref b, .int (nI n)])), (a, .inl (cI, 768, .inl f)), (b, .inl (cI, 768, .inl g))]) hP hD [0, 1, 2] [] rfl rfl (by decide) (by decide) hk_10 hFc hB_10 ht_10
    clear hPc hDc hFc
    generalize H_10 = H at hP hS ⊢
    have hP := hP.sub (ws' := [(r, .inr (0, [.ref a, .ref b, .int (nI n)])), (a, .inl (cI, 768, .inl f)), (b, .inl (cI, 768, .inl g))]) [0, 1, 2] rfl
    have hD := hD.sub (ws' := [(r, .inr (0, [.ref a, .ref b, .int (nI n)])), (a, .inl (cI, 768, .inl f)), (b, .inl (cI, 768, .inl g))]) [0, 1, 2] (by decide) rfl
    refine lv_istore_n (lv' := [(3, .int (nI k)), (0, .ref r), (1, .int (nI xa)), (2, .int (nI yb))]) hx hb dX0_put_13 rfl hl (by decide) rfl (fun ls hl => ?_)
    refine lv_iload_n hx hb dX0_put_14 rfl (lv_at hl 0 rfl) ?_
    refine lv_istore (lv' := [(4, .int (nI k)), (3, .int (nI k)), (0, .ref r), (1, .int (nI xa)), (2, .int (nI yb))]) hx hb dX0_put_15 hl (by decide) rfl (fun ls hl => ?_)
    refine cr_lp1 (fun (q : Nat) => n - q) (fun (q : Nat) H locs ls => (k ≤ q ∧ q ≤ n ∧ ∀ j, k ≤ j → j < q → lo j ≤ yb + 1) ∧ va_P (dC, dI) crCl [(r, .inr (0, [.ref a, .ref b, .int (nI n)])), (a, .inl (cI, 768, .inl f)), (b, .inl (cI, 768, .inl g))] H ∧ va_D A [(r, .inr (0, [.ref a, .ref b, .int (nI n)])), (a, .inl (cI, 768, .inl f)), (b, .inl (cI, 768, .inl g))] ∧ va_S A s.heap H locs ∧ lv_has ls 5 [(0, .ref r), (1, .int (nI xa)), (2, .int (nI yb)), (3, .int (nI k)), (4, .int (nI q))]) ?_ k ⟨⟨Nat.le_refl _, hk1, fun j h h2 => absurd h (by omega)⟩, hP, hD, hS, lv_sub hl [2, 3, 4, 1, 0] rfl⟩
    intro q H locs ls hI17 ih17
    obtain ⟨⟨h1, h2, h3⟩, hP, hD, hS, hl⟩ := hI17
    refine lv_iload hx hb dX0_put_17 (lv_at hl 4 rfl) ?_
    refine lv_aload_n hx hb dX0_put_19 rfl (lv_at hl 0 rfl) ?_
    refine va_get (D := (dC, dI)) (ci := 0) (v := .int (nI n)) (C := RX0) (T := TX0) (N := 3) hx hb hts (by decide +kernel) hown hK hP 0 rfl rfl 2 (by decide) (hts (.fieldLink RX0 16 "CharRows$Ranges" "count" "I") (by decide +kernel)) (fun _ h9 => h9) rfl dX0_put_20 ?_
    refine lv_icmp_ge (tgt := 45) hx hb dX0_put_23 (by decide) (fun c_23 => ?_) (fun c_23 => ?_)
    · rw [nI_leI (by omega) (by omega)] at c_23
      have h4 : ∀ j, q ≤ j → j < n → yb + 1 < lo j := fun j hj1 hj2 => by omega
      refine lv_iload_n hx hb dX0_put_45 rfl (lv_at hl 3 rfl) ?_
      refine lv_iload hx hb dX0_put_46 (lv_at hl 4 rfl) ?_
      refine lv_icmp_ne (tgt := 61) hx hb dX0_put_48 (by decide) (fun c_48 => ?_) (fun c_48 => ?_)
      · rw [nI_eq (by omega) (by omega)] at c_48
        refine lv_aload_n hx hb dX0_put_61 rfl (lv_at hl 0 rfl) ?_
        refine lv_iload_n hx hb dX0_put_62 rfl (lv_at hl 3 rfl) ?_
        refine lv_iload hx hb dX0_put_63 (lv_at hl 4 rfl) ?_
        refine lv_iload_n hx hb dX0_put_65 rfl (lv_at hl 1 rfl) ?_
        refine lv_iload_n hx hb dX0_put_66 rfl (lv_at hl 2 rfl) ?_
        have hPc := hP.sub (ws' := [(r, .inr (0, [.ref a, .ref b, .int (nI n)])), (a, .inl (cI, 768, .inl f)), (b, .inl (cI, 768, .inl g))]) [0, 1, 2] rfl
        have hDc := hD.sub (ws' := [(r, .inr (0, [.ref a, .ref b, .int (nI n)])), (a, .inl (cI, 768, .inl f)), (b, .inl (cI, 768, .inl g))]) [0, 1, 2] (by decide) rfl
        have hFc := va_free (wc := [(r, .inr (0, [.ref a, .ref b, .int (nI n)])), (a, .inl (cI, 768, .inl f)), (b, .inl (cI, 768, .inl g))]) hD hS hA [0, 1, 2] rfl
        refine va_callv (va_runV (As := [.int (nI k), .int (nI q), .int (nI xa), .int (nI yb)]) (rest := []) ⟨hx, hb, hml, hown, hts⟩ (c_unite l dC dI _ r a b cI n f g lo hi hR hO (by omega) k q xa yb (by omega) (by omega) (by omega) (by omega)) (cwV 4 hts gX0_put_X0_unite rfl rfl rfl (by decide +kernel) ⟨Nat.le_of_ble_eq_true rfl, Nat.le_of_ble_eq_true rfl⟩) (cr_preV hPc hK hDc (ci := 0) (q0 := 0) rfl rfl) rfl rfl hl.1 rfl (lv_room (Nat.le_of_ble_eq_true rfl)) dX0_put_67 ⟨Nat.zero_le _, Nat.zero_le _⟩) hS (fun q _ h => hFc q h) hFc (fun u_67 t_67 H_67 locs ht_67 hvm_67 hw_67 hB_67 hz_67 hk_67 hS => ?_)
        subst hw_67
        obtain ⟨hP, hD⟩ := cr_back (wr := []) (w1 := [(r, .inr (0, [.ref a, .ref b, .int (nI (k + 1 + (n - q)))])), (a, .inl (cI, 768, .inl (va_cpy (upd f k (nI (min (lo k) xa))) (upd f k (nI (min (lo k) xa))) q (k + 1) (n - q)))), (b, .inl (cI, 768, .inl (va_cpy (upd g k (nI (max (hi (q - 1)) yb))) (upd g k (nI (max (hi (q - 1)) yb))) q (k + 1) (n - q))))]) hP hD [0, 1, 2] [] rfl rfl (by decide) (by decide) hk_67 hFc hB_67 ht_67
        clear hPc hDc hFc
        generalize H_67 = H at hP hS ⊢
        have hP := hP.sub (ws' := [(r, .inr (0, [.ref a, .ref b, .int (nI (k + 1 + (n - q)))])), (a, .inl (cI, 768, .inl (va_cpy (upd f k (nI (min (lo k) xa))) (upd f k (nI (min (lo k) xa))) q (k + 1) (n - q)))), (b, .inl (cI, 768, .inl (va_cpy (upd g k (nI (max (hi (q - 1)) yb))) (upd g k (nI (max (hi (q - 1)) yb))) q (k + 1) (n - q))))]) [0, 1, 2] rfl
        have hD := hD.sub (ws' := [(r, .inr (0, [.ref a, .ref b, .int (nI (k + 1 + (n - q)))])), (a, .inl (cI, 768, .inl (va_cpy (upd f k (nI (min (lo k) xa))) (upd f k (nI (min (lo k) xa))) q (k + 1) (n - q)))), (b, .inl (cI, 768, .inl (va_cpy (upd g k (nI (max (hi (q - 1)) yb))) (upd g k (nI (max (hi (q - 1)) yb))) q (k + 1) (n - q))))]) [0, 1, 2] (by decide) rfl
        exact W.vret hx hb hr (fun t9 ht9 hW9 => ⟨⟨[(r, .inr (0, [.ref a, .ref b, .int (nI (k + 1 + (n - q)))])), (a, .inl (cI, 768, .inl (va_cpy (upd f k (nI (min (lo k) xa))) (upd f k (nI (min (lo k) xa))) q (k + 1) (n - q)))), (b, .inl (cI, 768, .inl (va_cpy (upd g k (nI (max (hi (q - 1)) yb))) (upd g k (nI (max (hi (q - 1)) yb))) q (k + 1) (n - q))))], rfl, ⟨k + 1 + (n - q), _, _, rfl, by omega, cr_put_uni hR hO hI (by omega) (by omega) (by omega) (by omega) (by omega) (fun j hj => by have := hk2 j hj; omega) (by have := hk3 (by omega); omega) h3 h4 hxa hyb⟩, by rw [ht9]; exact hP, va_K.moved hW9.alike hK, hD⟩, hS.F ht9⟩) hS.2.2 dX0_put_70
      · rw [nI_eq (by omega) (by omega)] at c_48
        refine lv_aload_n hx hb dX0_put_51 rfl (lv_at hl 0 rfl) ?_
        refine lv_iload_n hx hb dX0_put_52 rfl (lv_at hl 3 rfl) ?_
        refine lv_iload_n hx hb dX0_put_53 rfl (lv_at hl 1 rfl) ?_
        refine lv_iload_n hx hb dX0_put_54 rfl (lv_at hl 2 rfl) ?_
        have hPc := hP.sub (ws' := [(r, .inr (0, [.ref a, .ref b, .int (nI n)])), (a, .inl (cI, 768, .inl f)), (b, .inl (cI, 768, .inl g))]) [0, 1, 2] rfl
        have hDc := hD.sub (ws' := [(r, .inr (0, [.ref a, .ref b, .int (nI n)])), (a, .inl (cI, 768, .inl f)), (b, .inl (cI, 768, .inl g))]) [0, 1, 2] (by decide) rfl
        have hFc := va_free (wc := [(r, .inr (0, [.ref a, .ref b, .int (nI n)])), (a, .inl (cI, 768, .inl f)), (b, .inl (cI, 768, .inl g))]) hD hS hA [0, 1, 2] rfl
        refine va_callv (va_runV (As := [.int (nI k), .int (nI xa), .int (nI yb)]) (rest := []) ⟨hx, hb, hml, hown, hts⟩ (c_insert l dC dI _ r a b cI n f g k (nI xa) (nI yb) (by omega) (by omega)) (cwV 3 hts gX0_put_X0_insert rfl rfl rfl (by decide +kernel) ⟨Nat.le_of_ble_eq_true rfl, Nat.le_of_ble_eq_true rfl⟩) (cr_preV hPc hK hDc (ci := 0) (q0 := 0) rfl rfl) rfl rfl hl.1 rfl (lv_room (Nat.le_of_ble_eq_true rfl)) dX0_put_55 ⟨Nat.zero_le _, Nat.zero_le _⟩) hS (fun q _ h => hFc q h) hFc (fun u_55 t_55 H_55 locs ht_55 hvm_55 hw_55 hB_55 hz_55 hk_55 hS => ?_)
        subst hw_55
        obtain ⟨hP, hD⟩ := cr_back (wr := []) (w1 := [(r, .inr (0, [.ref a, .ref b, .int (nI (n + 1))])), (a, .inl (cI, 768, .inl (upd (va_cpy f f k (k + 1) (n - k)) k (nI xa)))), (b, .inl (cI, 768, .inl (upd (va_cpy g g k (k + 1) (n - k)) k (nI yb))))]) hP hD [0, 1, 2] [] rfl rfl (by decide) (by decide) hk_55 hFc hB_55 ht_55
        clear hPc hDc hFc
        generalize H_55 = H at hP hS ⊢
        have hP := hP.sub (ws' := [(r, .inr (0, [.ref a, .ref b, .int (nI (n + 1))])), (a, .inl (cI, 768, .inl (upd (va_cpy f f k (k + 1) (n - k)) k (nI xa)))), (b, .inl (cI, 768, .inl (upd (va_cpy g g k (k + 1) (n - k)) k (nI yb))))]) [0, 1, 2] rfl
        have hD := hD.sub (ws' := [(r, .inr (0, [.ref a, .ref b, .int (nI (n + 1))])), (a, .inl (cI, 768, .inl (upd (va_cpy f f k (k + 1) (n - k)) k (nI xa)))), (b, .inl (cI, 768, .inl (upd (va_cpy g g k (k + 1) (n - k)) k (nI yb))))]) [0, 1, 2] (by decide) rfl
        refine lv_goto (tgt := 70) hx hb dX0_put_58 (by decide) ?_
        exact W.vret hx hb hr (fun t9 ht9 hW9 => ⟨⟨[(r, .inr (0, [.ref a, .ref b, .int (nI (n + 1))])), (a, .inl (cI, 768, .inl (upd (va_cpy f f k (k + 1) (n - k)) k (nI xa)))), (b, .inl (cI, 768, .inl (upd (va_cpy g g k (k + 1) (n - k)) k (nI yb))))], rfl, ⟨n + 1, _, _, rfl, by omega, cr_put_ins hR hO hI (by omega) (by omega) (by omega) (by omega) (fun j hj => by have := hk2 j hj; omega) (fun j hj1 hj2 => h4 j (by omega) hj2) hxa hyb⟩, by rw [ht9]; exact hP, va_K.moved hW9.alike hK, hD⟩, hS.F ht9⟩) hS.2.2 dX0_put_70
    · rw [nI_leI (by omega) (by omega)] at c_23
      refine lv_aload_n hx hb dX0_put_26 rfl (lv_at hl 0 rfl) ?_
      refine va_get (D := (dC, dI)) (ci := 0) (v := .ref a) (C := RX0) (T := TX0) (N := 3) hx hb hts (by decide +kernel) hown hK hP 0 rfl rfl 0 (by decide) (hts (.fieldLink RX0 9 "CharRows$Ranges" "lows" "[I") (by decide +kernel)) (fun _ h9 => h9) rfl dX0_put_27 ?_
      refine lv_iload hx hb dX0_put_30 (lv_at hl 4 rfl) ?_
      refine va_iald hx hb hK hP 1 0 rfl rfl (vp_in_nI (by omega) (by omega)) dX0_put_32 ?_
      refine cr_top (y := nI (lo q)) (by rw [nI_clamp (by omega)]; exact (hR _ (by omega)).1) ?_
      refine lv_iload_n hx hb dX0_put_33 rfl (lv_at hl 2 rfl) ?_
      refine lv_iconst (v := nI 1) hx hb dX0_put_34 (by decide) ?_
      refine lv_iadd hx hb dX0_put_35 ?_
      refine cr_top (y := nI (yb + 1)) (nI_add yb 1) ?_
      refine lv_icmp_gt (tgt := 45) hx hb dX0_put_36 (by decide) (fun c_36 => ?_) (fun c_36 => ?_)
      · rw [nI_ltI (by omega) (by have := hO.1 q (by omega); omega)] at c_36
        have h4 : ∀ j, q ≤ j → j < n → yb + 1 < lo j := fun j hj1 hj2 => by have := (hO.mono hj1 hj2).2; omega
        refine lv_iload_n hx hb dX0_put_45 rfl (lv_at hl 3 rfl) ?_
        refine lv_iload hx hb dX0_put_46 (lv_at hl 4 rfl) ?_
        refine lv_icmp_ne (tgt := 61) hx hb dX0_put_48 (by decide) (fun c_48 => ?_) (fun c_48 => ?_)
        · rw [nI_eq (by omega) (by omega)] at c_48
          refine lv_aload_n hx hb dX0_put_61 rfl (lv_at hl 0 rfl) ?_
          refine lv_iload_n hx hb dX0_put_62 rfl (lv_at hl 3 rfl) ?_
          refine lv_iload hx hb dX0_put_63 (lv_at hl 4 rfl) ?_
          refine lv_iload_n hx hb dX0_put_65 rfl (lv_at hl 1 rfl) ?_
          refine lv_iload_n hx hb dX0_put_66 rfl (lv_at hl 2 rfl) ?_
          have hPc := hP.sub (ws' := [(r, .inr (0, [.ref a, .ref b, .int (nI n)])), (a, .inl (cI, 768, .inl f)), (b, .inl (cI, 768, .inl g))]) [0, 1, 2] rfl
          have hDc := hD.sub (ws' := [(r, .inr (0, [.ref a, .ref b, .int (nI n)])), (a, .inl (cI, 768, .inl f)), (b, .inl (cI, 768, .inl g))]) [0, 1, 2] (by decide) rfl
          have hFc := va_free (wc := [(r, .inr (0, [.ref a, .ref b, .int (nI n)])), (a, .inl (cI, 768, .inl f)), (b, .inl (cI, 768, .inl g))]) hD hS hA [0, 1, 2] rfl
          refine va_callv (va_runV (As := [.int (nI k), .int (nI q), .int (nI xa), .int (nI yb)]) (rest := []) ⟨hx, hb, hml, hown, hts⟩ (c_unite l dC dI _ r a b cI n f g lo hi hR hO (by omega) k q xa yb (by omega) (by omega) (by omega) (by omega)) (cwV 4 hts gX0_put_X0_unite rfl rfl rfl (by decide +kernel) ⟨Nat.le_of_ble_eq_true rfl, Nat.le_of_ble_eq_true rfl⟩) (cr_preV hPc hK hDc (ci := 0) (q0 := 0) rfl rfl) rfl rfl hl.1 rfl (lv_room (Nat.le_of_ble_eq_true rfl)) dX0_put_67 ⟨Nat.zero_le _, Nat.zero_le _⟩) hS (fun q _ h => hFc q h) hFc (fun u_67 t_67 H_67 locs ht_67 hvm_67 hw_67 hB_67 hz_67 hk_67 hS => ?_)
          subst hw_67
          obtain ⟨hP, hD⟩ := cr_back (wr := []) (w1 := [(r, .inr (0, [.ref a, .ref b, .int (nI (k + 1 + (n - q)))])), (a, .inl (cI, 768, .inl (va_cpy (upd f k (nI (min (lo k) xa))) (upd f k (nI (min (lo k) xa))) q (k + 1) (n - q)))), (b, .inl (cI, 768, .inl (va_cpy (upd g k (nI (max (hi (q - 1)) yb))) (upd g k (nI (max (hi (q - 1)) yb))) q (k + 1) (n - q))))]) hP hD [0, 1, 2] [] rfl rfl (by decide) (by decide) hk_67 hFc hB_67 ht_67
          clear hPc hDc hFc
          generalize H_67 = H at hP hS ⊢
          have hP := hP.sub (ws' := [(r, .inr (0, [.ref a, .ref b, .int (nI (k + 1 + (n - q)))])), (a, .inl (cI, 768, .inl (va_cpy (upd f k (nI (min (lo k) xa))) (upd f k (nI (min (lo k) xa))) q (k + 1) (n - q)))), (b, .inl (cI, 768, .inl (va_cpy (upd g k (nI (max (hi (q - 1)) yb))) (upd g k (nI (max (hi (q - 1)) yb))) q (k + 1) (n - q))))]) [0, 1, 2] rfl
          have hD := hD.sub (ws' := [(r, .inr (0, [.ref a, .ref b, .int (nI (k + 1 + (n - q)))])), (a, .inl (cI, 768, .inl (va_cpy (upd f k (nI (min (lo k) xa))) (upd f k (nI (min (lo k) xa))) q (k + 1) (n - q)))), (b, .inl (cI, 768, .inl (va_cpy (upd g k (nI (max (hi (q - 1)) yb))) (upd g k (nI (max (hi (q - 1)) yb))) q (k + 1) (n - q))))]) [0, 1, 2] (by decide) rfl
          exact W.vret hx hb hr (fun t9 ht9 hW9 => ⟨⟨[(r, .inr (0, [.ref a, .ref b, .int (nI (k + 1 + (n - q)))])), (a, .inl (cI, 768, .inl (va_cpy (upd f k (nI (min (lo k) xa))) (upd f k (nI (min (lo k) xa))) q (k + 1) (n - q)))), (b, .inl (cI, 768, .inl (va_cpy (upd g k (nI (max (hi (q - 1)) yb))) (upd g k (nI (max (hi (q - 1)) yb))) q (k + 1) (n - q))))], rfl, ⟨k + 1 + (n - q), _, _, rfl, by omega, cr_put_uni hR hO hI (by omega) (by omega) (by omega) (by omega) (by omega) (fun j hj => by have := hk2 j hj; omega) (by have := hk3 (by omega); omega) h3 h4 hxa hyb⟩, by rw [ht9]; exact hP, va_K.moved hW9.alike hK, hD⟩, hS.F ht9⟩) hS.2.2 dX0_put_70
        · rw [nI_eq (by omega) (by omega)] at c_48
          refine lv_aload_n hx hb dX0_put_51 rfl (lv_at hl 0 rfl) ?_
          refine lv_iload_n hx hb dX0_put_52 rfl (lv_at hl 3 rfl) ?_
          refine lv_iload_n hx hb dX0_put_53 rfl (lv_at hl 1 rfl) ?_
          refine lv_iload_n hx hb dX0_put_54 rfl (lv_at hl 2 rfl) ?_
          have hPc := hP.sub (ws' := [(r, .inr (0, [.ref a, .ref b, .int (nI n)])), (a, .inl (cI, 768, .inl f)), (b, .inl (cI, 768, .inl g))]) [0, 1, 2] rfl
          have hDc := hD.sub (ws' := [(r, .inr (0, [.ref a, .ref b, .int (nI n)])), (a, .inl (cI, 768, .inl f)), (b, .inl (cI, 768, .inl g))]) [0, 1, 2] (by decide) rfl
          have hFc := va_free (wc := [(r, .inr (0, [.ref a, .ref b, .int (nI n)])), (a, .inl (cI, 768, .inl f)), (b, .inl (cI, 768, .inl g))]) hD hS hA [0, 1, 2] rfl
          refine va_callv (va_runV (As := [.int (nI k), .int (nI xa), .int (nI yb)]) (rest := []) ⟨hx, hb, hml, hown, hts⟩ (c_insert l dC dI _ r a b cI n f g k (nI xa) (nI yb) (by omega) (by omega)) (cwV 3 hts gX0_put_X0_insert rfl rfl rfl (by decide +kernel) ⟨Nat.le_of_ble_eq_true rfl, Nat.le_of_ble_eq_true rfl⟩) (cr_preV hPc hK hDc (ci := 0) (q0 := 0) rfl rfl) rfl rfl hl.1 rfl (lv_room (Nat.le_of_ble_eq_true rfl)) dX0_put_55 ⟨Nat.zero_le _, Nat.zero_le _⟩) hS (fun q _ h => hFc q h) hFc (fun u_55 t_55 H_55 locs ht_55 hvm_55 hw_55 hB_55 hz_55 hk_55 hS => ?_)
          subst hw_55
          obtain ⟨hP, hD⟩ := cr_back (wr := []) (w1 := [(r, .inr (0, [.ref a, .ref b, .int (nI (n + 1))])), (a, .inl (cI, 768, .inl (upd (va_cpy f f k (k + 1) (n - k)) k (nI xa)))), (b, .inl (cI, 768, .inl (upd (va_cpy g g k (k + 1) (n - k)) k (nI yb))))]) hP hD [0, 1, 2] [] rfl rfl (by decide) (by decide) hk_55 hFc hB_55 ht_55
          clear hPc hDc hFc
          generalize H_55 = H at hP hS ⊢
          have hP := hP.sub (ws' := [(r, .inr (0, [.ref a, .ref b, .int (nI (n + 1))])), (a, .inl (cI, 768, .inl (upd (va_cpy f f k (k + 1) (n - k)) k (nI xa)))), (b, .inl (cI, 768, .inl (upd (va_cpy g g k (k + 1) (n - k)) k (nI yb))))]) [0, 1, 2] rfl
          have hD := hD.sub (ws' := [(r, .inr (0, [.ref a, .ref b, .int (nI (n + 1))])), (a, .inl (cI, 768, .inl (upd (va_cpy f f k (k + 1) (n - k)) k (nI xa)))), (b, .inl (cI, 768, .inl (upd (va_cpy g g k (k + 1) (n - k)) k (nI yb))))]) [0, 1, 2] (by decide) rfl
          refine lv_goto (tgt := 70) hx hb dX0_put_58 (by decide) ?_
          exact W.vret hx hb hr (fun t9 ht9 hW9 => ⟨⟨[(r, .inr (0, [.ref a, .ref b, .int (nI (n + 1))])), (a, .inl (cI, 768, .inl (upd (va_cpy f f k (k + 1) (n - k)) k (nI xa)))), (b, .inl (cI, 768, .inl (upd (va_cpy g g k (k + 1) (n - k)) k (nI yb))))], rfl, ⟨n + 1, _, _, rfl, by omega, cr_put_ins hR hO hI (by omega) (by omega) (by omega) (by omega) (fun j hj => by have := hk2 j hj; omega) (fun j hj1 hj2 => h4 j (by omega) hj2) hxa hyb⟩, by rw [ht9]; exact hP, va_K.moved hW9.alike hK, hD⟩, hS.F ht9⟩) hS.2.2 dX0_put_70
      · rw [nI_ltI (by omega) (by have := hO.1 q (by omega); omega)] at c_36
        refine lv_iinc (v := nI (q + 1)) (lv' := [(4, .int (nI (q + 1))), (0, .ref r), (1, .int (nI xa)), (2, .int (nI yb)), (3, .int (nI k))]) hx hb dX0_put_39 hl (k := 4) rfl (nI_add q 1) (by decide) rfl (fun ls hl => ?_)
        refine lv_goto (tgt := 17) hx hb dX0_put_42 (by decide) ?_
        exact ih17 (q + 1) _ _ _ ⟨⟨by omega, by omega, cr_lt_s h3 (by omega)⟩, hP, hD, hS, lv_sub hl [1, 2, 3, 4, 0] rfl⟩ (by omega)
  · rw [Int32.le_iff_toInt_le] at c_2
    exact W.vret hx hb hr (fun t9 ht9 hW9 => ⟨⟨[(r, .inr (0, [.ref a, .ref b, .int (nI n)])), (a, .inl (cI, 768, .inl f)), (b, .inl (cI, 768, .inl g))], rfl, ⟨n, f, g, rfl, by omega, ⟨lo, hi, hR, hO, fun c => (hI c).trans ⟨Or.inl, fun h => h.elim id (fun q => absurd q (by omega))⟩⟩⟩, by rw [ht9]; exact hP, va_K.moved hW9.alike hK, hD⟩, hS.F ht9⟩) hS.2.2 dX0_put_5

set_option maxHeartbeats 4000000 in
set_option maxRecDepth 100000 in
theorem c_holds (l : Launch) (dC : Nat → ClassId) (dI : Nat → Nat → Nat) (sz : Nat) (r a b : Nat) (cI : ClassId) (n : Nat) (f g : Nat → Int32) (S : Nat → Prop) (hSet : cr_Set n f g S) (hn : n ≤ 768) (x : Int32) : Met l yX0_holds wsX0_holds ({ frames := 2, cells := 0, slots := 0, locals := 60 }) (va_Pc [.ref r, .int x] (cr_pre dC dI [(cI, .int)] [(r, .inr (0, [.ref a, .ref b, .int (nI n)])), (a, .inl (cI, 768, .inl f)), (b, .inl (cI, 768, .inl g))] sz)) (va_Qi (fun (rr : Int32) (u : va_W) => u = [(r, .inr (0, [.ref a, .ref b, .int (nI n)])), (a, .inl (cI, 768, .inl f)), (b, .inl (cI, 768, .inl g))] ∧ cr_zb rr (cr_Hs S x)) (cr_at dC dI [(cI, .int)] (va_A [(r, .inr (0, [.ref a, .ref b, .int (nI n)])), (a, .inl (cI, 768, .inl f)), (b, .inl (cI, 768, .inl g))] sz)) (va_A [(r, .inr (0, [.ref a, .ref b, .int (nI n)])), (a, .inl (cI, 768, .inl f)), (b, .inl (cI, 768, .inl g))] sz)) 0 0 (va_A [(r, .inr (0, [.ref a, .ref b, .int (nI n)])), (a, .inl (cI, 768, .inl f)), (b, .inl (cI, 768, .inl g))] sz) := by
  refine Met.ofW (cc := cX0_holds) (maxL := 3) (ret := (some .boolean)) (by decide) rfl ?_
  intro p e s m args below meth c s₁ B hml hv
  obtain ⟨rfl, hsz, hP, hK, hD0⟩ := hv
  have hx := B.exec
  have hb := B.bytes
  have hr := B.returns
  have hts := atoms_spec (ws := wsX0_holds) B.pre
  have hown : s.vm.findClass RX0 = some m.cls := findClass_of_methodNamed B.named
  have hlocks := B.notSynchronized
  subst hsz
  have hD := hD0.self (sz := s.heap.size)
  generalize hAe : va_A [(r, .inr (0, [.ref a, .ref b, .int (nI n)])), (a, .inl (cI, 768, .inl f)), (b, .inl (cI, 768, .inl g))] s.heap.size = A at hD ⊢
  have hA : ∀ q : Nat, s.heap.size ≤ q → A q := fun q h => by rw [← hAe]; exact Or.inr h
  have hS : va_S A s.heap s.heap [] := va_S.rf
  have hP : va_P (dC, dI) crCl [(r, .inr (0, [.ref a, .ref b, .int (nI n)])), (a, .inl (cI, 768, .inl f)), (b, .inl (cI, 768, .inl g))] s.heap := hP
  have hl := lv_entry ([.ref r, .int x]) (n := 3) (Nat.le_of_ble_eq_true rfl)
  rw [lg_entry_eq]
  generalize (lg_sl ([.ref r, .int x]) ++ List.replicate (3 - (lg_sl ([.ref r, .int x])).length) Slot.unset).toArray = ls at hl ⊢
  have hl : lv_has ls 3 [(0, .ref r), (1, .int x)] := hl
  obtain ⟨lo, hi, hR, hO, hI⟩ := hSet
  refine lv_aload_n hx hb dX0_holds_0 rfl (lv_at hl 0 rfl) ?_
  refine lv_iload_n hx hb dX0_holds_1 rfl (lv_at hl 1 rfl) ?_
  have hPc := hP.sub (ws' := [(r, .inr (0, [.ref a, .ref b, .int (nI n)])), (a, .inl (cI, 768, .inl f)), (b, .inl (cI, 768, .inl g))]) [0, 1, 2] rfl
  have hDc := hD.sub (ws' := [(r, .inr (0, [.ref a, .ref b, .int (nI n)])), (a, .inl (cI, 768, .inl f)), (b, .inl (cI, 768, .inl g))]) [0, 1, 2] (by decide) rfl
  have hFc := va_free (wc := [(r, .inr (0, [.ref a, .ref b, .int (nI n)])), (a, .inl (cI, 768, .inl f)), (b, .inl (cI, 768, .inl g))]) hD hS hA [0, 1, 2] rfl
  refine va_calli (va_runV (As := [.int x]) (rest := []) ⟨hx, hb, hml, hown, hts⟩ (c_firstEndingFrom l dC dI _ r a b cI n f g lo hi hR hO hn x) (cwV 1 hts gX0_holds_X0_firstEndingFrom rfl rfl rfl (by decide +kernel) ⟨Nat.le_of_ble_eq_true rfl, Nat.le_of_ble_eq_true rfl⟩) (cr_preV hPc hK hDc (ci := 0) (q0 := 0) rfl rfl) rfl rfl hl.1 rfl (lv_room (Nat.le_of_ble_eq_true rfl)) dX0_holds_2 ⟨Nat.zero_le _, Nat.zero_le _⟩) hS (fun q _ h => hFc q h) hFc (fun r_2 u_2 t_2 H_2 locs ht_2 hvm_2 hw_2 hB_2 hz_2 hk_2 hS => ?_)
  obtain ⟨rfl, k, rfl, hk1, hk2, hk3⟩ := hw_2
  obtain ⟨hP, hD⟩ := cr_back (wr := []) (w1 := [(r, .inr (0, [.ref a, .ref b, .int (nI n)])), (a, .inl (cI, 768, .inl f)), (b, .inl (cI, 768, .inl g))]) hP hD [0, 1, 2] [] rfl rfl (by decide) (by decide) hk_2 hFc hB_2 ht_2
  clear hPc hDc hFc
  generalize H_2 = H at hP hS ⊢
  have hP := hP.sub (ws' := [(r, .inr (0, [.ref a, .ref b, .int (nI n)])), (a, .inl (cI, 768, .inl f)), (b, .inl (cI, 768, .inl g))]) [0, 1, 2] rfl
  have hD := hD.sub (ws' := [(r, .inr (0, [.ref a, .ref b, .int (nI n)])), (a, .inl (cI, 768, .inl f)), (b, .inl (cI, 768, .inl g))]) [0, 1, 2] (by decide) rfl
  refine lv_istore_n (lv' := [(2, .int (nI k)), (0, .ref r), (1, .int x)]) hx hb dX0_holds_5 rfl hl (by decide) rfl (fun ls hl => ?_)
  refine lv_iload_n hx hb dX0_holds_6 rfl (lv_at hl 0 rfl) ?_
  refine lv_aload_n hx hb dX0_holds_7 rfl (lv_at hl 1 rfl) ?_
  refine va_get (D := (dC, dI)) (ci := 0) (v := .int (nI n)) (C := RX0) (T := TX0) (N := 3) hx hb hts (by decide +kernel) hown hK hP 0 rfl rfl 2 (by decide) (hts (.fieldLink RX0 16 "CharRows$Ranges" "count" "I") (by decide +kernel)) (fun _ h9 => h9) rfl dX0_holds_8 ?_
  refine lv_icmp_ge (tgt := 28) hx hb dX0_holds_11 (by decide) (fun c_11 => ?_) (fun c_11 => ?_)
  · rw [nI_leI (by omega) (by omega)] at c_11
    refine lv_iconst (v := nI 0) hx hb dX0_holds_28 (by decide) ?_
    exact W.zret (v := nI 0) (ty := .boolean) hx hb hr (by first | rfl | decide) (fun t9 ht9 hW9 => ⟨⟨nI 0, [(r, .inr (0, [.ref a, .ref b, .int (nI n)])), (a, .inl (cI, 768, .inl f)), (b, .inl (cI, 768, .inl g))], rfl, ⟨rfl, Or.inr ⟨rfl, cr_Hs_out hO hI hk1 hk2 (fun h => by omega)⟩⟩, by rw [ht9]; exact hP, va_K.moved hW9.alike hK, hD⟩, hS.F ht9⟩) hS.2.2 dX0_holds_29
  · rw [nI_leI (by omega) (by omega)] at c_11
    refine lv_aload_n hx hb dX0_holds_14 rfl (lv_at hl 1 rfl) ?_
    refine va_get (D := (dC, dI)) (ci := 0) (v := .ref a) (C := RX0) (T := TX0) (N := 3) hx hb hts (by decide +kernel) hown hK hP 0 rfl rfl 0 (by decide) (hts (.fieldLink RX0 9 "CharRows$Ranges" "lows" "[I") (by decide +kernel)) (fun _ h9 => h9) rfl dX0_holds_15 ?_
    refine lv_iload_n hx hb dX0_holds_18 rfl (lv_at hl 0 rfl) ?_
    refine va_iald hx hb hK hP 1 0 rfl rfl (vp_in_nI (by omega) (by omega)) dX0_holds_19 ?_
    refine cr_top (y := nI (lo k)) (by rw [nI_clamp (by omega)]; exact (hR _ (by omega)).1) ?_
    refine lv_iload_n hx hb dX0_holds_20 rfl (lv_at hl 2 rfl) ?_
    refine lv_icmp_gt (tgt := 28) hx hb dX0_holds_21 (by decide) (fun c_21 => ?_) (fun c_21 => ?_)
    · have hok := hO.1 k (by omega)
      rw [Int32.lt_iff_toInt_lt, nI_toInt (by omega)] at c_21
      refine lv_iconst (v := nI 0) hx hb dX0_holds_28 (by decide) ?_
      exact W.zret (v := nI 0) (ty := .boolean) hx hb hr (by first | rfl | decide) (fun t9 ht9 hW9 => ⟨⟨nI 0, [(r, .inr (0, [.ref a, .ref b, .int (nI n)])), (a, .inl (cI, 768, .inl f)), (b, .inl (cI, 768, .inl g))], rfl, ⟨rfl, Or.inr ⟨rfl, cr_Hs_out hO hI hk1 hk2 (fun h => by omega)⟩⟩, by rw [ht9]; exact hP, va_K.moved hW9.alike hK, hD⟩, hS.F ht9⟩) hS.2.2 dX0_holds_29
    · have hok := hO.1 k (by omega)
      rw [Int32.lt_iff_toInt_lt, nI_toInt (by omega)] at c_21
      refine lv_iconst (v := nI 1) hx hb dX0_holds_24 (by decide) ?_
      refine lv_goto (tgt := 29) hx hb dX0_holds_25 (by decide) ?_
      exact W.zret (v := nI 1) (ty := .boolean) hx hb hr (by first | rfl | decide) (fun t9 ht9 hW9 => ⟨⟨nI 1, [(r, .inr (0, [.ref a, .ref b, .int (nI n)])), (a, .inl (cI, 768, .inl f)), (b, .inl (cI, 768, .inl g))], rfl, ⟨rfl, Or.inl ⟨rfl, cr_Hs_in hO hI (by omega) (by omega) (hk3 (by omega))⟩⟩, by rw [ht9]; exact hP, va_K.moved hW9.alike hK, hD⟩, hS.F ht9⟩) hS.2.2 dX0_holds_29

set_option maxHeartbeats 4000000 in
set_option maxRecDepth 100000 in
theorem c_endAround (l : Launch) (dC : Nat → ClassId) (dI : Nat → Nat → Nat) (sz : Nat) (r a b : Nat) (cI : ClassId) (n : Nat) (f g : Nat → Int32) (lo hi : Nat → Nat) (hR : cr_Rp n lo hi f g) (hO : cr_Ok n lo hi) (hn : n ≤ 768) (x j : Nat) (hj : j < n) (hj1 : lo j ≤ x) (hj2 : x ≤ hi j) : Met l yX0_endAround wsX0_endAround ({ frames := 2, cells := 0, slots := 0, locals := 60 }) (va_Pc [.ref r, .int (nI x)] (cr_pre dC dI [(cI, .int)] [(r, .inr (0, [.ref a, .ref b, .int (nI n)])), (a, .inl (cI, 768, .inl f)), (b, .inl (cI, 768, .inl g))] sz)) (va_Qi (fun (rr : Int32) (u : va_W) => u = [(r, .inr (0, [.ref a, .ref b, .int (nI n)])), (a, .inl (cI, 768, .inl f)), (b, .inl (cI, 768, .inl g))] ∧ rr = nI (hi j)) (cr_at dC dI [(cI, .int)] (va_A [(r, .inr (0, [.ref a, .ref b, .int (nI n)])), (a, .inl (cI, 768, .inl f)), (b, .inl (cI, 768, .inl g))] sz)) (va_A [(r, .inr (0, [.ref a, .ref b, .int (nI n)])), (a, .inl (cI, 768, .inl f)), (b, .inl (cI, 768, .inl g))] sz)) 0 0 (va_A [(r, .inr (0, [.ref a, .ref b, .int (nI n)])), (a, .inl (cI, 768, .inl f)), (b, .inl (cI, 768, .inl g))] sz) := by
  refine Met.ofW (cc := cX0_endAround) (maxL := 3) (ret := (some .int)) (by decide) rfl ?_
  intro p e s m args below meth c s₁ B hml hv
  obtain ⟨rfl, hsz, hP, hK, hD0⟩ := hv
  have hx := B.exec
  have hb := B.bytes
  have hr := B.returns
  have hts := atoms_spec (ws := wsX0_endAround) B.pre
  have hown : s.vm.findClass RX0 = some m.cls := findClass_of_methodNamed B.named
  have hlocks := B.notSynchronized
  subst hsz
  have hD := hD0.self (sz := s.heap.size)
  generalize hAe : va_A [(r, .inr (0, [.ref a, .ref b, .int (nI n)])), (a, .inl (cI, 768, .inl f)), (b, .inl (cI, 768, .inl g))] s.heap.size = A at hD ⊢
  have hA : ∀ q : Nat, s.heap.size ≤ q → A q := fun q h => by rw [← hAe]; exact Or.inr h
  have hS : va_S A s.heap s.heap [] := va_S.rf
  have hP : va_P (dC, dI) crCl [(r, .inr (0, [.ref a, .ref b, .int (nI n)])), (a, .inl (cI, 768, .inl f)), (b, .inl (cI, 768, .inl g))] s.heap := hP
  have hl := lv_entry ([.ref r, .int (nI x)]) (n := 3) (Nat.le_of_ble_eq_true rfl)
  rw [lg_entry_eq]
  generalize (lg_sl ([.ref r, .int (nI x)]) ++ List.replicate (3 - (lg_sl ([.ref r, .int (nI x)])).length) Slot.unset).toArray = ls at hl ⊢
  have hl : lv_has ls 3 [(0, .ref r), (1, .int (nI x))] := hl
  have hok := hO.1 j hj
  refine lv_aload_n hx hb dX0_endAround_0 rfl (lv_at hl 0 rfl) ?_
  refine lv_iload_n hx hb dX0_endAround_1 rfl (lv_at hl 1 rfl) ?_
  have hPc := hP.sub (ws' := [(r, .inr (0, [.ref a, .ref b, .int (nI n)])), (a, .inl (cI, 768, .inl f)), (b, .inl (cI, 768, .inl g))]) [0, 1, 2] rfl
  have hDc := hD.sub (ws' := [(r, .inr (0, [.ref a, .ref b, .int (nI n)])), (a, .inl (cI, 768, .inl f)), (b, .inl (cI, 768, .inl g))]) [0, 1, 2] (by decide) rfl
  have hFc := va_free (wc := [(r, .inr (0, [.ref a, .ref b, .int (nI n)])), (a, .inl (cI, 768, .inl f)), (b, .inl (cI, 768, .inl g))]) hD hS hA [0, 1, 2] rfl
  refine va_calli (va_runV (As := [.int (nI x)]) (rest := []) ⟨hx, hb, hml, hown, hts⟩ (c_firstEndingFrom l dC dI _ r a b cI n f g lo hi hR hO hn (nI x)) (cwV 1 hts gX0_endAround_X0_firstEndingFrom rfl rfl rfl (by decide +kernel) ⟨Nat.le_of_ble_eq_true rfl, Nat.le_of_ble_eq_true rfl⟩) (cr_preV hPc hK hDc (ci := 0) (q0 := 0) rfl rfl) rfl rfl hl.1 rfl (lv_room (Nat.le_of_ble_eq_true rfl)) dX0_endAround_2 ⟨Nat.zero_le _, Nat.zero_le _⟩) hS (fun q _ h => hFc q h) hFc (fun r_2 u_2 t_2 H_2 locs ht_2 hvm_2 hw_2 hB_2 hz_2 hk_2 hS => ?_)
  obtain ⟨rfl, k, rfl, hk1, hk2, hk3⟩ := hw_2
  rw [nI_toInt (by omega)] at hk2 hk3
  obtain rfl : k = j := cr_first hO hj hj1 hj2 hk1 hk2 hk3
  obtain ⟨hP, hD⟩ := cr_back (wr := []) (w1 := [(r, .inr (0, [.ref a, .ref b, .int (nI n)])), (a, .inl (cI, 768, .inl f)), (b, .inl (cI, 768, .inl g))]) hP hD [0, 1, 2] [] rfl rfl (by decide) (by decide) hk_2 hFc hB_2 ht_2
  clear hPc hDc hFc
  generalize H_2 = H at hP hS ⊢
  have hP := hP.sub (ws' := [(r, .inr (0, [.ref a, .ref b, .int (nI n)])), (a, .inl (cI, 768, .inl f)), (b, .inl (cI, 768, .inl g))]) [0, 1, 2] rfl
  have hD := hD.sub (ws' := [(r, .inr (0, [.ref a, .ref b, .int (nI n)])), (a, .inl (cI, 768, .inl f)), (b, .inl (cI, 768, .inl g))]) [0, 1, 2] (by decide) rfl
  refine lv_istore_n (lv' := [(2, .int (nI k)), (0, .ref r), (1, .int (nI x))]) hx hb dX0_endAround_5 rfl hl (by decide) rfl (fun ls hl => ?_)
  refine lv_iload_n hx hb dX0_endAround_6 rfl (lv_at hl 0 rfl) ?_
  refine lv_aload_n hx hb dX0_endAround_7 rfl (lv_at hl 1 rfl) ?_
  refine va_get (D := (dC, dI)) (ci := 0) (v := .int (nI n)) (C := RX0) (T := TX0) (N := 3) hx hb hts (by decide +kernel) hown hK hP 0 rfl rfl 2 (by decide) (hts (.fieldLink RX0 16 "CharRows$Ranges" "count" "I") (by decide +kernel)) (fun _ h9 => h9) rfl dX0_endAround_8 ?_
  refine lv_icmp_ge (tgt := 33) hx hb dX0_endAround_11 (by decide) (fun c_11 => ?_) (fun c_11 => ?_)
  · exact absurd ((nI_leI (by omega) (by omega)).1 c_11) (by omega)
  · refine lv_aload_n hx hb dX0_endAround_14 rfl (lv_at hl 1 rfl) ?_
    refine va_get (D := (dC, dI)) (ci := 0) (v := .ref a) (C := RX0) (T := TX0) (N := 3) hx hb hts (by decide +kernel) hown hK hP 0 rfl rfl 0 (by decide) (hts (.fieldLink RX0 9 "CharRows$Ranges" "lows" "[I") (by decide +kernel)) (fun _ h9 => h9) rfl dX0_endAround_15 ?_
    refine lv_iload_n hx hb dX0_endAround_18 rfl (lv_at hl 0 rfl) ?_
    refine va_iald hx hb hK hP 1 0 rfl rfl (vp_in_nI (by omega) (by omega)) dX0_endAround_19 ?_
    refine cr_top (y := nI (lo k)) (by rw [nI_clamp (by omega)]; exact (hR _ (by omega)).1) ?_
    refine lv_iload_n hx hb dX0_endAround_20 rfl (lv_at hl 2 rfl) ?_
    refine lv_icmp_gt (tgt := 33) hx hb dX0_endAround_21 (by decide) (fun c_21 => ?_) (fun c_21 => ?_)
    · exact absurd ((nI_ltI (by omega) (by omega)).1 c_21) (by omega)
    · refine lv_aload_n hx hb dX0_endAround_24 rfl (lv_at hl 1 rfl) ?_
      refine va_get (D := (dC, dI)) (ci := 0) (v := .ref b) (C := RX0) (T := TX0) (N := 3) hx hb hts (by decide +kernel) hown hK hP 0 rfl rfl 1 (by decide) (hts (.fieldLink RX0 13 "CharRows$Ranges" "highs" "[I") (by decide +kernel)) (fun _ h9 => h9) rfl dX0_endAround_25 ?_
      refine lv_iload_n hx hb dX0_endAround_28 rfl (lv_at hl 0 rfl) ?_
      refine va_iald hx hb hK hP 2 0 rfl rfl (vp_in_nI (by omega) (by omega)) dX0_endAround_29 ?_
      refine cr_top (y := nI (hi k)) (by rw [nI_clamp (by omega)]; exact (hR _ (by omega)).2) ?_
      refine lv_goto (tgt := 34) hx hb dX0_endAround_30 (by decide) ?_
      exact W.iret (v := nI (hi k)) hx hb hr (fun t9 ht9 hW9 => ⟨⟨nI (hi k), [(r, .inr (0, [.ref a, .ref b, .int (nI n)])), (a, .inl (cI, 768, .inl f)), (b, .inl (cI, 768, .inl g))], rfl, ⟨rfl, rfl⟩, by rw [ht9]; exact hP, va_K.moved hW9.alike hK, hD⟩, hS.F ht9⟩) hS.2.2 dX0_endAround_34

set_option maxHeartbeats 4000000 in
set_option maxRecDepth 100000 in
theorem c_become (l : Launch) (dC : Nat → ClassId) (dI : Nat → Nat → Nat) (sz : Nat) (r a b r3 a3 b3 : Nat) (cI : ClassId) (n n3 : Nat) (f g f3 g3 : Nat → Int32) (hn : n ≤ 768) : Met l yX0_become wsX0_become ({ frames := 2, cells := 0, slots := 0, locals := 60 }) (va_Pc [.ref r3, .ref r] (cr_pre dC dI [(cI, .int)] [(r3, .inr (0, [.ref a3, .ref b3, .int (nI n3)])), (a3, .inl (cI, 768, .inl f3)), (b3, .inl (cI, 768, .inl g3)), (r, .inr (0, [.ref a, .ref b, .int (nI n)])), (a, .inl (cI, 768, .inl f)), (b, .inl (cI, 768, .inl g))] sz)) (va_Qv (fun (u : va_W) => u = [(r3, .inr (0, [.ref a3, .ref b3, .int (nI n)])), (a3, .inl (cI, 768, .inl (va_cpy f f3 0 0 n))), (b3, .inl (cI, 768, .inl (va_cpy g g3 0 0 n))), (r, .inr (0, [.ref a, .ref b, .int (nI n)])), (a, .inl (cI, 768, .inl f)), (b, .inl (cI, 768, .inl g))]) (cr_at dC dI [(cI, .int)] (va_A [(r3, .inr (0, [.ref a3, .ref b3, .int (nI n3)])), (a3, .inl (cI, 768, .inl f3)), (b3, .inl (cI, 768, .inl g3)), (r, .inr (0, [.ref a, .ref b, .int (nI n)])), (a, .inl (cI, 768, .inl f)), (b, .inl (cI, 768, .inl g))] sz)) (va_A [(r3, .inr (0, [.ref a3, .ref b3, .int (nI n3)])), (a3, .inl (cI, 768, .inl f3)), (b3, .inl (cI, 768, .inl g3)), (r, .inr (0, [.ref a, .ref b, .int (nI n)])), (a, .inl (cI, 768, .inl f)), (b, .inl (cI, 768, .inl g))] sz)) 0 0 (va_A [(r3, .inr (0, [.ref a3, .ref b3, .int (nI n3)])), (a3, .inl (cI, 768, .inl f3)), (b3, .inl (cI, 768, .inl g3)), (r, .inr (0, [.ref a, .ref b, .int (nI n)])), (a, .inl (cI, 768, .inl f)), (b, .inl (cI, 768, .inl g))] sz) := by
  refine Met.ofW (cc := cX0_become) (maxL := 2) (ret := none) (by decide) rfl ?_
  intro p e s m args below meth c s₁ B hml hv
  obtain ⟨rfl, hsz, hP, hK, hD0⟩ := hv
  have hx := B.exec
  have hb := B.bytes
  have hr := B.returns
  have hts := atoms_spec (ws := wsX0_become) B.pre
  have hown : s.vm.findClass RX0 = some m.cls := findClass_of_methodNamed B.named
  have hlocks := B.notSynchronized
  subst hsz
  have hD := hD0.self (sz := s.heap.size)
  generalize hAe : va_A [(r3, .inr (0, [.ref a3, .ref b3, .int (nI n3)])), (a3, .inl (cI, 768, .inl f3)), (b3, .inl (cI, 768, .inl g3)), (r, .inr (0, [.ref a, .ref b, .int (nI n)])), (a, .inl (cI, 768, .inl f)), (b, .inl (cI, 768, .inl g))] s.heap.size = A at hD ⊢
  have hA : ∀ q : Nat, s.heap.size ≤ q → A q := fun q h => by rw [← hAe]; exact Or.inr h
  have hS : va_S A s.heap s.heap [] := va_S.rf
  have hP : va_P (dC, dI) crCl [(r3, .inr (0, [.ref a3, .ref b3, .int (nI n3)])), (a3, .inl (cI, 768, .inl f3)), (b3, .inl (cI, 768, .inl g3)), (r, .inr (0, [.ref a, .ref b, .int (nI n)])), (a, .inl (cI, 768, .inl f)), (b, .inl (cI, 768, .inl g))] s.heap := hP
  have hl := lv_entry ([.ref r3, .ref r]) (n := 2) (Nat.le_of_ble_eq_true rfl)
  rw [lg_entry_eq]
  generalize (lg_sl ([.ref r3, .ref r]) ++ List.replicate (2 - (lg_sl ([.ref r3, .ref r])).length) Slot.unset).toArray = ls at hl ⊢
  have hl : lv_has ls 2 [(0, .ref r3), (1, .ref r)] := hl
  refine lv_aload_n hx hb dX0_become_0 rfl (lv_at hl 1 rfl) ?_
  refine va_get (D := (dC, dI)) (ci := 0) (v := .ref a) (C := RX0) (T := TX0) (N := 3) hx hb hts (by decide +kernel) hown hK hP 3 rfl rfl 0 (by decide) (hts (.fieldLink RX0 9 "CharRows$Ranges" "lows" "[I") (by decide +kernel)) (fun _ h9 => h9) rfl dX0_become_1 ?_
  refine lv_iconst (v := nI 0) hx hb dX0_become_4 (by decide) ?_
  refine lv_aload_n hx hb dX0_become_5 rfl (lv_at hl 0 rfl) ?_
  refine va_get (D := (dC, dI)) (ci := 0) (v := .ref a3) (C := RX0) (T := TX0) (N := 3) hx hb hts (by decide +kernel) hown hK hP 0 rfl rfl 0 (by decide) (hts (.fieldLink RX0 9 "CharRows$Ranges" "lows" "[I") (by decide +kernel)) (fun _ h9 => h9) rfl dX0_become_6 ?_
  refine lv_iconst (v := nI 0) hx hb dX0_become_9 (by decide) ?_
  refine lv_aload_n hx hb dX0_become_10 rfl (lv_at hl 1 rfl) ?_
  refine va_get (D := (dC, dI)) (ci := 0) (v := .int (nI n)) (C := RX0) (T := TX0) (N := 3) hx hb hts (by decide +kernel) hown hK hP 3 rfl rfl 2 (by decide) (hts (.fieldLink RX0 16 "CharRows$Ranges" "count" "I") (by decide +kernel)) (fun _ h9 => h9) rfl dX0_become_11 ?_
  refine va_copyi hx hb (hml.trans hl.1.symm) hown (hts (.methodLink RX0 20 arraycopyName) (by decide +kernel)) (hts (.native arraycopyName) (by decide +kernel)) (hts (.static arraycopyName) (by decide +kernel)) (hts (.initialized "java/lang/System") (by decide +kernel)) hK hP hD hS 4 1 0 0 rfl rfl rfl rfl rfl (nI_pos (by omega)) (nI_pos (by omega)) (nI_pos (by omega)) (by rw [nI_clamp (by omega), nI_clamp (by omega)]; omega) (by rw [nI_clamp (by omega), nI_clamp (by omega)]; omega) (fun _ _ => rfl) (Nat.le_of_ble_eq_true rfl) (by decide +kernel) dX0_become_14 (fun H locs hP hD hS => ?_)
  rw [nI_clamp (show 0 < 2 ^ 31 by omega), nI_clamp (show n < 2 ^ 31 by omega)] at hP hD
  have hP : va_P (dC, dI) crCl [(r3, .inr (0, [.ref a3, .ref b3, .int (nI n3)])), (a3, .inl (cI, 768, .inl (va_cpy f f3 0 0 n))), (b3, .inl (cI, 768, .inl g3)), (r, .inr (0, [.ref a, .ref b, .int (nI n)])), (a, .inl (cI, 768, .inl f)), (b, .inl (cI, 768, .inl g))] H := hP
  have hD : va_D A [(r3, .inr (0, [.ref a3, .ref b3, .int (nI n3)])), (a3, .inl (cI, 768, .inl (va_cpy f f3 0 0 n))), (b3, .inl (cI, 768, .inl g3)), (r, .inr (0, [.ref a, .ref b, .int (nI n)])), (a, .inl (cI, 768, .inl f)), (b, .inl (cI, 768, .inl g))] := hD
  refine lv_aload_n hx hb dX0_become_17 rfl (lv_at hl 1 rfl) ?_
  refine va_get (D := (dC, dI)) (ci := 0) (v := .ref b) (C := RX0) (T := TX0) (N := 3) hx hb hts (by decide +kernel) hown hK hP 3 rfl rfl 1 (by decide) (hts (.fieldLink RX0 13 "CharRows$Ranges" "highs" "[I") (by decide +kernel)) (fun _ h9 => h9) rfl dX0_become_18 ?_
  refine lv_iconst (v := nI 0) hx hb dX0_become_21 (by decide) ?_
  refine lv_aload_n hx hb dX0_become_22 rfl (lv_at hl 0 rfl) ?_
  refine va_get (D := (dC, dI)) (ci := 0) (v := .ref b3) (C := RX0) (T := TX0) (N := 3) hx hb hts (by decide +kernel) hown hK hP 0 rfl rfl 1 (by decide) (hts (.fieldLink RX0 13 "CharRows$Ranges" "highs" "[I") (by decide +kernel)) (fun _ h9 => h9) rfl dX0_become_23 ?_
  refine lv_iconst (v := nI 0) hx hb dX0_become_26 (by decide) ?_
  refine lv_aload_n hx hb dX0_become_27 rfl (lv_at hl 1 rfl) ?_
  refine va_get (D := (dC, dI)) (ci := 0) (v := .int (nI n)) (C := RX0) (T := TX0) (N := 3) hx hb hts (by decide +kernel) hown hK hP 3 rfl rfl 2 (by decide) (hts (.fieldLink RX0 16 "CharRows$Ranges" "count" "I") (by decide +kernel)) (fun _ h9 => h9) rfl dX0_become_28 ?_
  refine va_copyi hx hb (hml.trans hl.1.symm) hown (hts (.methodLink RX0 20 arraycopyName) (by decide +kernel)) (hts (.native arraycopyName) (by decide +kernel)) (hts (.static arraycopyName) (by decide +kernel)) (hts (.initialized "java/lang/System") (by decide +kernel)) hK hP hD hS 5 2 0 0 rfl rfl rfl rfl rfl (nI_pos (by omega)) (nI_pos (by omega)) (nI_pos (by omega)) (by rw [nI_clamp (by omega), nI_clamp (by omega)]; omega) (by rw [nI_clamp (by omega), nI_clamp (by omega)]; omega) (fun _ _ => rfl) (Nat.le_of_ble_eq_true rfl) (by decide +kernel) dX0_become_31 (fun H locs hP hD hS => ?_)
  rw [nI_clamp (show 0 < 2 ^ 31 by omega), nI_clamp (show n < 2 ^ 31 by omega)] at hP hD
  have hP : va_P (dC, dI) crCl [(r3, .inr (0, [.ref a3, .ref b3, .int (nI n3)])), (a3, .inl (cI, 768, .inl (va_cpy f f3 0 0 n))), (b3, .inl (cI, 768, .inl (va_cpy g g3 0 0 n))), (r, .inr (0, [.ref a, .ref b, .int (nI n)])), (a, .inl (cI, 768, .inl f)), (b, .inl (cI, 768, .inl g))] H := hP
  have hD : va_D A [(r3, .inr (0, [.ref a3, .ref b3, .int (nI n3)])), (a3, .inl (cI, 768, .inl (va_cpy f f3 0 0 n))), (b3, .inl (cI, 768, .inl (va_cpy g g3 0 0 n))), (r, .inr (0, [.ref a, .ref b, .int (nI n)])), (a, .inl (cI, 768, .inl f)), (b, .inl (cI, 768, .inl g))] := hD
  refine lv_aload_n hx hb dX0_become_34 rfl (lv_at hl 0 rfl) ?_
  refine lv_aload_n hx hb dX0_become_35 rfl (lv_at hl 1 rfl) ?_
  refine va_get (D := (dC, dI)) (ci := 0) (v := .int (nI n)) (C := RX0) (T := TX0) (N := 3) hx hb hts (by decide +kernel) hown hK hP 3 rfl rfl 2 (by decide) (hts (.fieldLink RX0 16 "CharRows$Ranges" "count" "I") (by decide +kernel)) (fun _ h9 => h9) rfl dX0_become_36 ?_
  refine va_put (D := (dC, dI)) (ci := 0) (v := .int (nI n)) (ty := .int) (C := RX0) (T := TX0) (N := 3) hx hb hts (by decide +kernel) tyX0 tyX0_ok nmX0 hown hK hP hD hS 0 rfl rfl 2 (by decide) (hts (.fieldLink RX0 16 "CharRows$Ranges" "count" "I") (by decide +kernel)) (fun _ h9 => h9) rfl (by decide +kernel) rfl rfl (Nat.le_of_ble_eq_true rfl) dX0_become_39 (fun H locs hP hD hS => ?_)
  have hP : va_P (dC, dI) crCl [(r3, .inr (0, [.ref a3, .ref b3, .int (nI n)])), (a3, .inl (cI, 768, .inl (va_cpy f f3 0 0 n))), (b3, .inl (cI, 768, .inl (va_cpy g g3 0 0 n))), (r, .inr (0, [.ref a, .ref b, .int (nI n)])), (a, .inl (cI, 768, .inl f)), (b, .inl (cI, 768, .inl g))] H := hP
  have hD : va_D A [(r3, .inr (0, [.ref a3, .ref b3, .int (nI n)])), (a3, .inl (cI, 768, .inl (va_cpy f f3 0 0 n))), (b3, .inl (cI, 768, .inl (va_cpy g g3 0 0 n))), (r, .inr (0, [.ref a, .ref b, .int (nI n)])), (a, .inl (cI, 768, .inl f)), (b, .inl (cI, 768, .inl g))] := hD
  exact W.vret hx hb hr (fun t9 ht9 hW9 => ⟨⟨[(r3, .inr (0, [.ref a3, .ref b3, .int (nI n)])), (a3, .inl (cI, 768, .inl (va_cpy f f3 0 0 n))), (b3, .inl (cI, 768, .inl (va_cpy g g3 0 0 n))), (r, .inr (0, [.ref a, .ref b, .int (nI n)])), (a, .inl (cI, 768, .inl f)), (b, .inl (cI, 768, .inl g))], rfl, rfl, by rw [ht9]; exact hP, va_K.moved hW9.alike hK, hD⟩, hS.F ht9⟩) hS.2.2 dX0_become_42
end
section
set_option maxHeartbeats 4000000 in
set_option maxRecDepth 100000 in
theorem c_lastOfLength (l : Launch) (dC : Nat → ClassId) (dI : Nat → Nat → Nat) (sz : Nat) (L : Nat) (h1 : 1 ≤ L) (h4 : L ≤ 4) : Met l yX1_lastOfLength wsX1_lastOfLength ({ frames := 1, cells := 0, slots := 0, locals := 20 }) (va_Pc [.int (nI L)] (cr_pre dC dI [] [] sz)) (va_Qi (fun (rr : Int32) (u : va_W) => u = [] ∧ rr = nI (cr_lol L)) (cr_at dC dI [] (va_A [] sz)) (va_A [] sz)) 0 0 (va_A [] sz) := by
  refine Met.ofW (cc := cX1_lastOfLength) (maxL := 1) (ret := (some .int)) (by decide) rfl ?_
  intro p e s m args below meth c s₁ B hml hv
  obtain ⟨rfl, hsz, hP, hK, hD0⟩ := hv
  have hx := B.exec
  have hb := B.bytes
  have hr := B.returns
  have hts := atoms_spec (ws := wsX1_lastOfLength) B.pre
  have hown : s.vm.findClass RX1 = some m.cls := findClass_of_methodNamed B.named
  have hlocks := B.notSynchronized
  subst hsz
  have hD := hD0.self (sz := s.heap.size)
  generalize hAe : va_A [] s.heap.size = A at hD ⊢
  have hA : ∀ q : Nat, s.heap.size ≤ q → A q := fun q h => by rw [← hAe]; exact Or.inr h
  have hS : va_S A s.heap s.heap [] := va_S.rf
  have hP : va_P (dC, dI) crCl [] s.heap := hP
  have hl := lv_entry ([.int (nI L)]) (n := 1) (Nat.le_of_ble_eq_true rfl)
  rw [lg_entry_eq]
  generalize (lg_sl ([.int (nI L)]) ++ List.replicate (1 - (lg_sl ([.int (nI L)])).length) Slot.unset).toArray = ls at hl ⊢
  have hl : lv_has ls 1 [(0, .int (nI L))] := hl
  rcases (show L = 1 ∨ L = 2 ∨ L = 3 ∨ L = 4 by omega) with rfl | rfl | rfl | rfl
  · refine lv_iload_n hx hb dX1_lastOfLength_0 rfl (lv_at hl 0 rfl) ?_
    refine lv_tableIn (tgt := 28) hx hb dX1_lastOfLength_1 (by decide) (by decide) rfl (by decide) ?_
    refine lv_bipush (v := nI 127) hx hb dX1_lastOfLength_28 (by decide) ?_
    exact W.iret (v := nI 127) hx hb hr (fun t9 ht9 hW9 => ⟨⟨nI 127, [], rfl, ⟨rfl, rfl⟩, by rw [ht9]; exact hP, va_K.moved hW9.alike hK, hD⟩, hS.F ht9⟩) hS.2.2 dX1_lastOfLength_30
  · refine lv_iload_n hx hb dX1_lastOfLength_0 rfl (lv_at hl 0 rfl) ?_
    refine lv_tableIn (tgt := 31) hx hb dX1_lastOfLength_1 (by decide) (by decide) rfl (by decide) ?_
    refine lv_sipush (v := nI 2047) hx hb dX1_lastOfLength_31 (by decide) ?_
    exact W.iret (v := nI 2047) hx hb hr (fun t9 ht9 hW9 => ⟨⟨nI 2047, [], rfl, ⟨rfl, rfl⟩, by rw [ht9]; exact hP, va_K.moved hW9.alike hK, hD⟩, hS.F ht9⟩) hS.2.2 dX1_lastOfLength_34
  · refine lv_iload_n hx hb dX1_lastOfLength_0 rfl (lv_at hl 0 rfl) ?_
    refine lv_tableIn (tgt := 35) hx hb dX1_lastOfLength_1 (by decide) (by decide) rfl (by decide) ?_
    refine lv_ldc (v := nI 65535) hx hb hown (hts (.constant RX1 119 (nI 65535)) (by decide +kernel)) dX1_lastOfLength_35 ?_
    exact W.iret (v := nI 65535) hx hb hr (fun t9 ht9 hW9 => ⟨⟨nI 65535, [], rfl, ⟨rfl, rfl⟩, by rw [ht9]; exact hP, va_K.moved hW9.alike hK, hD⟩, hS.F ht9⟩) hS.2.2 dX1_lastOfLength_37
  · refine lv_iload_n hx hb dX1_lastOfLength_0 rfl (lv_at hl 0 rfl) ?_
    refine lv_tableOut (tgt := 38) hx hb dX1_lastOfLength_1 (by decide) (by decide) ?_
    refine lv_ldc (v := nI 1114111) hx hb hown (hts (.constant RX1 22 (nI 1114111)) (by decide +kernel)) dX1_lastOfLength_38 ?_
    exact W.iret (v := nI 1114111) hx hb hr (fun t9 ht9 hW9 => ⟨⟨nI 1114111, [], rfl, ⟨rfl, rfl⟩, by rw [ht9]; exact hP, va_K.moved hW9.alike hK, hD⟩, hS.F ht9⟩) hS.2.2 dX1_lastOfLength_40

set_option maxHeartbeats 4000000 in
set_option maxRecDepth 100000 in
theorem c_byteCount (l : Launch) (dC : Nat → ClassId) (dI : Nat → Nat → Nat) (sz : Nat) (c0 : Nat) (hc : c0 < 2 ^ 31) : Met l yX1_byteCount wsX1_byteCount ({ frames := 2, cells := 0, slots := 0, locals := 60 }) (va_Pc [.int (nI c0)] (cr_pre dC dI [] [] sz)) (va_Qi (fun (rr : Int32) (u : va_W) => u = [] ∧ rr = nI (cr_len c0)) (cr_at dC dI [] (va_A [] sz)) (va_A [] sz)) 0 0 (va_A [] sz) := by
  refine Met.ofW (cc := cX1_byteCount) (maxL := 1) (ret := (some .int)) (by decide) rfl ?_
  intro p e s m args below meth c s₁ B hml hv
  obtain ⟨rfl, hsz, hP, hK, hD0⟩ := hv
  have hx := B.exec
  have hb := B.bytes
  have hr := B.returns
  have hts := atoms_spec (ws := wsX1_byteCount) B.pre
  have hown : s.vm.findClass RX1 = some m.cls := findClass_of_methodNamed B.named
  have hlocks := B.notSynchronized
  subst hsz
  have hD := hD0.self (sz := s.heap.size)
  generalize hAe : va_A [] s.heap.size = A at hD ⊢
  have hA : ∀ q : Nat, s.heap.size ≤ q → A q := fun q h => by rw [← hAe]; exact Or.inr h
  have hS : va_S A s.heap s.heap [] := va_S.rf
  have hP : va_P (dC, dI) crCl [] s.heap := hP
  have hl := lv_entry ([.int (nI c0)]) (n := 1) (Nat.le_of_ble_eq_true rfl)
  rw [lg_entry_eq]
  generalize (lg_sl ([.int (nI c0)]) ++ List.replicate (1 - (lg_sl ([.int (nI c0)])).length) Slot.unset).toArray = ls at hl ⊢
  have hl : lv_has ls 1 [(0, .int (nI c0))] := hl
  refine lv_iload_n hx hb dX1_byteCount_0 rfl (lv_at hl 0 rfl) ?_
  refine lv_iconst (v := nI 1) hx hb dX1_byteCount_1 (by decide) ?_
  have hPc := hP.sub (ws' := []) [] rfl
  have hDc := hD.sub (ws' := []) [] (by decide) rfl
  have hFc := va_free (wc := []) hD hS hA [] rfl
  refine va_calli (va_runS (As := [.int (nI 1)]) (rest := [.int (nI c0)]) ⟨hx, hb, hml, hown, hts⟩ (c_lastOfLength l dC dI _ 1 (by decide) (by decide)) (va_cwS 1 hts gX1_byteCount_X1_lastOfLength rfl rfl rfl (by decide +kernel) ⟨Nat.le_of_ble_eq_true rfl, Nat.le_of_ble_eq_true rfl⟩) (cr_preS hPc hK hDc) rfl rfl hl.1 rfl (lv_room (Nat.le_of_ble_eq_true rfl)) dX1_byteCount_2 ⟨Nat.zero_le _, Nat.zero_le _⟩) hS (fun q _ h => hFc q h) hFc (fun r_2 u_2 t_2 H_2 locs ht_2 hvm_2 hw_2 hB_2 hz_2 hk_2 hS => ?_)
  obtain ⟨rfl, rfl⟩ := hw_2
  obtain ⟨hP, hD⟩ := cr_back (wr := []) (w1 := []) hP hD [] [] rfl rfl (by decide) (by decide) hk_2 hFc hB_2 ht_2
  clear hPc hDc hFc
  generalize H_2 = H at hP hS ⊢
  have hP := hP.sub (ws' := []) [] rfl
  have hD := hD.sub (ws' := []) [] (by decide) rfl
  refine lv_icmp_gt (tgt := 10) hx hb dX1_byteCount_5 (by decide) (fun c_5 => ?_) (fun c_5 => ?_)
  · rw [show cr_lol 1 = 127 from rfl, nI_ltI (by omega) (by omega)] at c_5
    refine lv_iload_n hx hb dX1_byteCount_10 rfl (lv_at hl 0 rfl) ?_
    refine lv_iconst (v := nI 2) hx hb dX1_byteCount_11 (by decide) ?_
    have hPc := hP.sub (ws' := []) [] rfl
    have hDc := hD.sub (ws' := []) [] (by decide) rfl
    have hFc := va_free (wc := []) hD hS hA [] rfl
    refine va_calli (va_runS (As := [.int (nI 2)]) (rest := [.int (nI c0)]) ⟨hx, hb, hml, hown, hts⟩ (c_lastOfLength l dC dI _ 2 (by decide) (by decide)) (va_cwS 1 hts gX1_byteCount_X1_lastOfLength rfl rfl rfl (by decide +kernel) ⟨Nat.le_of_ble_eq_true rfl, Nat.le_of_ble_eq_true rfl⟩) (cr_preS hPc hK hDc) rfl rfl hl.1 rfl (lv_room (Nat.le_of_ble_eq_true rfl)) dX1_byteCount_12 ⟨Nat.zero_le _, Nat.zero_le _⟩) hS (fun q _ h => hFc q h) hFc (fun r_12 u_12 t_12 H_12 locs ht_12 hvm_12 hw_12 hB_12 hz_12 hk_12 hS => ?_)
    obtain ⟨rfl, rfl⟩ := hw_12
    obtain ⟨hP, hD⟩ := cr_back (wr := []) (w1 := []) hP hD [] [] rfl rfl (by decide) (by decide) hk_12 hFc hB_12 ht_12
    clear hPc hDc hFc
    generalize H_12 = H at hP hS ⊢
    have hP := hP.sub (ws' := []) [] rfl
    have hD := hD.sub (ws' := []) [] (by decide) rfl
    refine lv_icmp_gt (tgt := 20) hx hb dX1_byteCount_15 (by decide) (fun c_15 => ?_) (fun c_15 => ?_)
    · rw [show cr_lol 2 = 2047 from rfl, nI_ltI (by omega) (by omega)] at c_15
      refine lv_iload_n hx hb dX1_byteCount_20 rfl (lv_at hl 0 rfl) ?_
      refine lv_iconst (v := nI 3) hx hb dX1_byteCount_21 (by decide) ?_
      have hPc := hP.sub (ws' := []) [] rfl
      have hDc := hD.sub (ws' := []) [] (by decide) rfl
      have hFc := va_free (wc := []) hD hS hA [] rfl
      refine va_calli (va_runS (As := [.int (nI 3)]) (rest := [.int (nI c0)]) ⟨hx, hb, hml, hown, hts⟩ (c_lastOfLength l dC dI _ 3 (by decide) (by decide)) (va_cwS 1 hts gX1_byteCount_X1_lastOfLength rfl rfl rfl (by decide +kernel) ⟨Nat.le_of_ble_eq_true rfl, Nat.le_of_ble_eq_true rfl⟩) (cr_preS hPc hK hDc) rfl rfl hl.1 rfl (lv_room (Nat.le_of_ble_eq_true rfl)) dX1_byteCount_22 ⟨Nat.zero_le _, Nat.zero_le _⟩) hS (fun q _ h => hFc q h) hFc (fun r_22 u_22 t_22 H_22 locs ht_22 hvm_22 hw_22 hB_22 hz_22 hk_22 hS => ?_)
      obtain ⟨rfl, rfl⟩ := hw_22
      obtain ⟨hP, hD⟩ := cr_back (wr := []) (w1 := []) hP hD [] [] rfl rfl (by decide) (by decide) hk_22 hFc hB_22 ht_22
      clear hPc hDc hFc
      generalize H_22 = H at hP hS ⊢
      have hP := hP.sub (ws' := []) [] rfl
      have hD := hD.sub (ws' := []) [] (by decide) rfl
      refine lv_icmp_gt (tgt := 32) hx hb dX1_byteCount_25 (by decide) (fun c_25 => ?_) (fun c_25 => ?_)
      · rw [show cr_lol 3 = 65535 from rfl, nI_ltI (by omega) (by omega)] at c_25
        refine lv_iconst (v := nI 4) hx hb dX1_byteCount_32 (by decide) ?_
        exact W.iret (v := nI 4) hx hb hr (fun t9 ht9 hW9 => ⟨⟨nI 4, [], rfl, ⟨rfl, by rw [cr_len_eq4 (by omega)]⟩, by rw [ht9]; exact hP, va_K.moved hW9.alike hK, hD⟩, hS.F ht9⟩) hS.2.2 dX1_byteCount_33
      · rw [show cr_lol 3 = 65535 from rfl, nI_ltI (by omega) (by omega)] at c_25
        refine lv_iconst (v := nI 3) hx hb dX1_byteCount_28 (by decide) ?_
        refine lv_goto (tgt := 33) hx hb dX1_byteCount_29 (by decide) ?_
        exact W.iret (v := nI 3) hx hb hr (fun t9 ht9 hW9 => ⟨⟨nI 3, [], rfl, ⟨rfl, by rw [cr_len_eq3 (by omega) (by omega)]⟩, by rw [ht9]; exact hP, va_K.moved hW9.alike hK, hD⟩, hS.F ht9⟩) hS.2.2 dX1_byteCount_33
    · rw [show cr_lol 2 = 2047 from rfl, nI_ltI (by omega) (by omega)] at c_15
      refine lv_iconst (v := nI 2) hx hb dX1_byteCount_18 (by decide) ?_
      exact W.iret (v := nI 2) hx hb hr (fun t9 ht9 hW9 => ⟨⟨nI 2, [], rfl, ⟨rfl, by rw [cr_len_eq2 (by omega) (by omega)]⟩, by rw [ht9]; exact hP, va_K.moved hW9.alike hK, hD⟩, hS.F ht9⟩) hS.2.2 dX1_byteCount_19
  · rw [show cr_lol 1 = 127 from rfl, nI_ltI (by omega) (by omega)] at c_5
    refine lv_iconst (v := nI 1) hx hb dX1_byteCount_8 (by decide) ?_
    exact W.iret (v := nI 1) hx hb hr (fun t9 ht9 hW9 => ⟨⟨nI 1, [], rfl, ⟨rfl, by rw [cr_len_eq1 (by omega)]⟩, by rw [ht9]; exact hP, va_K.moved hW9.alike hK, hD⟩, hS.F ht9⟩) hS.2.2 dX1_byteCount_9

set_option maxHeartbeats 4000000 in
set_option maxRecDepth 100000 in
theorem c_lastOfRow (l : Launch) (dC : Nat → ClassId) (dI : Nat → Nat → Nat) (sz : Nat) (c0 h0 : Nat) (hch : c0 ≤ h0) (hh : h0 ≤ 1114111) : Met l yX1_lastOfRow wsX1_lastOfRow ({ frames := 3, cells := 0, slots := 0, locals := 100 }) (va_Pc [.int (nI c0), .int (nI h0)] (cr_pre dC dI [] [] sz)) (va_Qi (fun (rr : Int32) (u : va_W) => u = [] ∧ rr = nI (cr_last c0 h0)) (cr_at dC dI [] (va_A [] sz)) (va_A [] sz)) 0 0 (va_A [] sz) := by
  refine Met.ofW (cc := cX1_lastOfRow) (maxL := 8) (ret := (some .int)) (by decide) rfl ?_
  intro p e s m args below meth c s₁ B hml hv
  obtain ⟨rfl, hsz, hP, hK, hD0⟩ := hv
  have hx := B.exec
  have hb := B.bytes
  have hr := B.returns
  have hts := atoms_spec (ws := wsX1_lastOfRow) B.pre
  have hown : s.vm.findClass RX1 = some m.cls := findClass_of_methodNamed B.named
  have hlocks := B.notSynchronized
  subst hsz
  have hD := hD0.self (sz := s.heap.size)
  generalize hAe : va_A [] s.heap.size = A at hD ⊢
  have hA : ∀ q : Nat, s.heap.size ≤ q → A q := fun q h => by rw [← hAe]; exact Or.inr h
  have hS : va_S A s.heap s.heap [] := va_S.rf
  have hP : va_P (dC, dI) crCl [] s.heap := hP
  have hl := lv_entry ([.int (nI c0), .int (nI h0)]) (n := 8) (Nat.le_of_ble_eq_true rfl)
  rw [lg_entry_eq]
  generalize (lg_sl ([.int (nI c0), .int (nI h0)]) ++ List.replicate (8 - (lg_sl ([.int (nI c0), .int (nI h0)])).length) Slot.unset).toArray = ls at hl ⊢
  have hl : lv_has ls 8 [(0, .int (nI c0)), (1, .int (nI h0))] := hl
  refine lv_iload_n hx hb dX1_lastOfRow_0 rfl (lv_at hl 0 rfl) ?_
  have hPc := hP.sub (ws' := []) [] rfl
  have hDc := hD.sub (ws' := []) [] (by decide) rfl
  have hFc := va_free (wc := []) hD hS hA [] rfl
  refine va_calli (va_runS (As := [.int (nI c0)]) (rest := []) ⟨hx, hb, hml, hown, hts⟩ (c_byteCount l dC dI _ c0 (by omega)) (va_cwS 1 hts gX1_lastOfRow_X1_byteCount rfl rfl rfl (by decide +kernel) ⟨Nat.le_of_ble_eq_true rfl, Nat.le_of_ble_eq_true rfl⟩) (cr_preS hPc hK hDc) rfl rfl hl.1 rfl (lv_room (Nat.le_of_ble_eq_true rfl)) dX1_lastOfRow_1 ⟨Nat.zero_le _, Nat.zero_le _⟩) hS (fun q _ h => hFc q h) hFc (fun r_1 u_1 t_1 H_1 locs ht_1 hvm_1 hw_1 hB_1 hz_1 hk_1 hS => ?_)
  obtain ⟨rfl, rfl⟩ := hw_1
  obtain ⟨hP, hD⟩ := cr_back (wr := []) (w1 := []) hP hD [] [] rfl rfl (by decide) (by decide) hk_1 hFc hB_1 ht_1
  clear hPc hDc hFc
  generalize H_1 = H at hP hS ⊢
  have hP := hP.sub (ws' := []) [] rfl
  have hD := hD.sub (ws' := []) [] (by decide) rfl
  refine lv_istore_n (lv' := [(2, .int (nI (cr_len c0))), (0, .int (nI c0)), (1, .int (nI h0))]) hx hb dX1_lastOfRow_4 rfl hl (by decide) rfl (fun ls hl => ?_)
  refine lv_iload_n hx hb dX1_lastOfRow_5 rfl (lv_at hl 2 rfl) ?_
  refine lv_iload_n hx hb dX1_lastOfRow_6 rfl (lv_at hl 0 rfl) ?_
  have hPc := hP.sub (ws' := []) [] rfl
  have hDc := hD.sub (ws' := []) [] (by decide) rfl
  have hFc := va_free (wc := []) hD hS hA [] rfl
  refine va_calli (va_runS (As := [.int (nI (cr_len c0))]) (rest := [.int (nI h0)]) ⟨hx, hb, hml, hown, hts⟩ (c_lastOfLength l dC dI _ (cr_len c0) (by have := cr_len_in c0; omega) (by have := cr_len_in c0; omega)) (va_cwS 1 hts gX1_lastOfRow_X1_lastOfLength rfl rfl rfl (by decide +kernel) ⟨Nat.le_of_ble_eq_true rfl, Nat.le_of_ble_eq_true rfl⟩) (cr_preS hPc hK hDc) rfl rfl hl.1 rfl (lv_room (Nat.le_of_ble_eq_true rfl)) dX1_lastOfRow_7 ⟨Nat.zero_le _, Nat.zero_le _⟩) hS (fun q _ h => hFc q h) hFc (fun r_7 u_7 t_7 H_7 locs ht_7 hvm_7 hw_7 hB_7 hz_7 hk_7 hS => ?_)
  obtain ⟨rfl, rfl⟩ := hw_7
  have hlol : cr_lol (cr_len c0) < 2 ^ 31 := by unfold cr_lol; split <;> (try split) <;> (try split) <;> omega
  obtain ⟨hP, hD⟩ := cr_back (wr := []) (w1 := []) hP hD [] [] rfl rfl (by decide) (by decide) hk_7 hFc hB_7 ht_7
  clear hPc hDc hFc
  generalize H_7 = H at hP hS ⊢
  have hP := hP.sub (ws' := []) [] rfl
  have hD := hD.sub (ws' := []) [] (by decide) rfl
  refine va_mmin hx hb (hml.trans hl.1.symm) hown (hts (.methodLink RX1 95 Lib.Math.min.name) (by decide +kernel)) (hts (.static Lib.Math.min.name) (by decide +kernel)) (hts (.initialized "java/lang/Math") (by decide +kernel)) (hts (.code Lib.Math.min.name Lib.Math.min.code 2 (some .int)) (by decide +kernel)) (Nat.le_of_ble_eq_true rfl) (Nat.le_of_ble_eq_true rfl) (Nat.zero_le _) (Nat.zero_le _) dX1_lastOfRow_10 ?_
  refine cr_top (y := nI (min h0 (cr_lol (cr_len c0)))) (cr_min _ _ (by omega) (by omega)) ?_
  refine lv_istore_n (lv' := [(3, .int (nI (min h0 (cr_lol (cr_len c0))))), (2, .int (nI (cr_len c0))), (0, .int (nI c0)), (1, .int (nI h0))]) hx hb dX1_lastOfRow_13 rfl hl (by decide) rfl (fun ls hl => ?_)
  rcases cr_len_in c0 with hL | hL | hL | hL
  · rw [hL.1, show cr_lol 1 = 127 from rfl] at hl
    refine lv_iload_n hx hb dX1_lastOfRow_14 rfl (lv_at hl 1 rfl) ?_
    refine lv_iconst (v := nI 1) hx hb dX1_lastOfRow_15 (by decide) ?_
    refine lv_icmp_ne (tgt := 21) hx hb dX1_lastOfRow_16 (by decide) (fun c_16 => ?_) (fun c_16 => ?_)
    · exact absurd (by decide) c_16
    · refine lv_iload_n hx hb dX1_lastOfRow_19 rfl (lv_at hl 0 rfl) ?_
      exact W.iret (v := nI (min h0 127)) hx hb hr (fun t9 ht9 hW9 => ⟨⟨nI (min h0 127), [], rfl, ⟨rfl, by rw [cr_last1 (by omega)]⟩, by rw [ht9]; exact hP, va_K.moved hW9.alike hK, hD⟩, hS.F ht9⟩) hS.2.2 dX1_lastOfRow_20
  · rw [hL.1, show cr_lol 2 = 2047 from rfl] at hl
    refine lv_iload_n hx hb dX1_lastOfRow_14 rfl (lv_at hl 1 rfl) ?_
    refine lv_iconst (v := nI 1) hx hb dX1_lastOfRow_15 (by decide) ?_
    refine lv_icmp_ne (tgt := 21) hx hb dX1_lastOfRow_16 (by decide) (fun c_16 => ?_) (fun c_16 => ?_)
    · refine lv_iconst (v := nI 1) hx hb dX1_lastOfRow_21 (by decide) ?_
      refine lv_istore (lv' := [(4, .int (nI 1)), (3, .int (nI (min h0 2047))), (2, .int (nI 2)), (0, .int (nI c0)), (1, .int (nI h0))]) hx hb dX1_lastOfRow_22 hl (by decide) rfl (fun ls hl => ?_)
      refine lv_iload hx hb dX1_lastOfRow_24 (lv_at hl 0 rfl) ?_
      refine lv_iload_n hx hb dX1_lastOfRow_26 rfl (lv_at hl 2 rfl) ?_
      refine lv_icmp_ge (tgt := 92) hx hb dX1_lastOfRow_27 (by decide) (fun c_27 => ?_) (fun c_27 => ?_)
      · exact absurd c_27 (by decide)
      · refine lv_iconst (v := nI 1) hx hb dX1_lastOfRow_30 (by decide) ?_
        refine lv_bipush (v := nI 6) hx hb dX1_lastOfRow_31 (by decide) ?_
        refine lv_iload_n hx hb dX1_lastOfRow_33 rfl (lv_at hl 2 rfl) ?_
        refine lv_iload hx hb dX1_lastOfRow_34 (lv_at hl 0 rfl) ?_
        refine lv_isub hx hb dX1_lastOfRow_36 ?_
        refine cr_top (y := nI 1) (by decide) ?_
        refine lv_imul hx hb dX1_lastOfRow_37 ?_
        refine cr_top (y := nI 6) (by decide) ?_
        refine lv_ishl hx hb dX1_lastOfRow_38 ?_
        refine cr_top (y := nI 64) (by decide) ?_
        refine lv_istore (lv' := [(5, .int (nI 64)), (4, .int (nI 1)), (3, .int (nI (min h0 2047))), (2, .int (nI 2)), (0, .int (nI c0)), (1, .int (nI h0))]) hx hb dX1_lastOfRow_39 hl (by decide) rfl (fun ls hl => ?_)
        refine lv_iload_n hx hb dX1_lastOfRow_41 rfl (lv_at hl 2 rfl) ?_
        refine lv_iload_n hx hb dX1_lastOfRow_42 rfl (lv_at hl 4 rfl) ?_
        refine lv_bipush (v := nI 64) hx hb dX1_lastOfRow_43 (by decide) ?_
        refine lv_iload hx hb dX1_lastOfRow_45 (lv_at hl 0 rfl) ?_
        refine lv_imul hx hb dX1_lastOfRow_47 ?_
        refine cr_top (y := nI 4096) (by decide) ?_
        refine lv_iconst (v := nI 1) hx hb dX1_lastOfRow_48 (by decide) ?_
        refine lv_isub hx hb dX1_lastOfRow_49 ?_
        refine cr_top (y := nI 4095) (by decide) ?_
        refine lv_ior hx hb dX1_lastOfRow_50 ?_
        refine cr_top (y := nI (c0 / 4096 * 4096 + 4095)) (cr_or4095 c0) ?_
        refine va_mmin hx hb (hml.trans hl.1.symm) hown (hts (.methodLink RX1 95 Lib.Math.min.name) (by decide +kernel)) (hts (.static Lib.Math.min.name) (by decide +kernel)) (hts (.initialized "java/lang/Math") (by decide +kernel)) (hts (.code Lib.Math.min.name Lib.Math.min.code 2 (some .int)) (by decide +kernel)) (Nat.le_of_ble_eq_true rfl) (Nat.le_of_ble_eq_true rfl) (Nat.zero_le _) (Nat.zero_le _) dX1_lastOfRow_51 ?_
        refine cr_top (y := nI (min (min h0 2047) (c0 / 4096 * 4096 + 4095))) (cr_min _ _ (by omega) (by omega)) ?_
        refine lv_istore (lv' := [(6, .int (nI (min (min h0 2047) (c0 / 4096 * 4096 + 4095)))), (5, .int (nI 64)), (4, .int (nI 1)), (3, .int (nI (min h0 2047))), (2, .int (nI 2)), (0, .int (nI c0)), (1, .int (nI h0))]) hx hb dX1_lastOfRow_54 hl (by decide) rfl (fun ls hl => ?_)
        refine lv_iload hx hb dX1_lastOfRow_56 (lv_at hl 0 rfl) ?_
        refine lv_iconst (v := nI 1) hx hb dX1_lastOfRow_58 (by decide) ?_
        refine lv_iadd hx hb dX1_lastOfRow_59 ?_
        refine cr_top (y := nI ((min (min h0 2047) (c0 / 4096 * 4096 + 4095)) + 1)) (nI_add (min (min h0 2047) (c0 / 4096 * 4096 + 4095)) 1) ?_
        refine lv_iload hx hb dX1_lastOfRow_60 (lv_at hl 1 rfl) ?_
        refine lv_ineg hx hb dX1_lastOfRow_62 ?_
        refine lv_iand hx hb dX1_lastOfRow_63 ?_
        refine cr_top (y := nI ((min (min h0 2047) (c0 / 4096 * 4096 + 4095) + 1) / 64 * 64)) (cr_neg64 (by omega)) ?_
        refine lv_iconst (v := nI 1) hx hb dX1_lastOfRow_64 (by decide) ?_
        refine lv_isub hx hb dX1_lastOfRow_65 ?_
        refine lv_istore (lv' := [(7, .int ((nI ((min (min h0 2047) (c0 / 4096 * 4096 + 4095) + 1) / 64 * 64)) - (nI 1))), (6, .int (nI (min (min h0 2047) (c0 / 4096 * 4096 + 4095)))), (5, .int (nI 64)), (4, .int (nI 1)), (3, .int (nI (min h0 2047))), (2, .int (nI 2)), (0, .int (nI c0)), (1, .int (nI h0))]) hx hb dX1_lastOfRow_66 hl (by decide) rfl (fun ls hl => ?_)
        refine lv_iload_n hx hb dX1_lastOfRow_68 rfl (lv_at hl 6 rfl) ?_
        refine lv_iload hx hb dX1_lastOfRow_69 (lv_at hl 2 rfl) ?_
        refine lv_iconst (v := nI 1) hx hb dX1_lastOfRow_71 (by decide) ?_
        refine lv_isub hx hb dX1_lastOfRow_72 ?_
        refine cr_top (y := nI 63) (by decide) ?_
        refine lv_iand hx hb dX1_lastOfRow_73 ?_
        refine cr_top (y := nI (c0 % 64)) (cr_and63 (by omega)) ?_
        refine lv_if_ne (tgt := 86) hx hb dX1_lastOfRow_74 (by decide) (fun c_74 => ?_) (fun c_74 => ?_)
        · rw [show (0 : Int32) = nI 0 from rfl, nI_eq (by omega) (by omega)] at c_74
          refine lv_iinc (v := nI 2) (lv' := [(4, .int (nI 2)), (7, .int ((nI ((min (min h0 2047) (c0 / 4096 * 4096 + 4095) + 1) / 64 * 64)) - (nI 1))), (6, .int (nI (min (min h0 2047) (c0 / 4096 * 4096 + 4095)))), (5, .int (nI 64)), (3, .int (nI (min h0 2047))), (2, .int (nI 2)), (0, .int (nI c0)), (1, .int (nI h0))]) hx hb dX1_lastOfRow_86 hl (k := 3) rfl (by decide) (by decide) rfl (fun ls hl => ?_)
          refine lv_goto (tgt := 24) hx hb dX1_lastOfRow_89 (by decide) ?_
          refine lv_iload hx hb dX1_lastOfRow_24 (lv_at hl 0 rfl) ?_
          refine lv_iload_n hx hb dX1_lastOfRow_26 rfl (lv_at hl 5 rfl) ?_
          refine lv_icmp_ge (tgt := 92) hx hb dX1_lastOfRow_27 (by decide) (fun c_27 => ?_) (fun c_27 => ?_)
          · refine lv_iload_n hx hb dX1_lastOfRow_92 rfl (lv_at hl 4 rfl) ?_
            refine lv_iload_n hx hb dX1_lastOfRow_93 rfl (lv_at hl 6 rfl) ?_
            refine lv_bipush (v := nI 63) hx hb dX1_lastOfRow_94 (by decide) ?_
            refine lv_ior hx hb dX1_lastOfRow_96 ?_
            refine cr_top (y := nI (c0 / 64 * 64 + 63)) (cr_or63 c0) ?_
            refine va_mmin hx hb (hml.trans hl.1.symm) hown (hts (.methodLink RX1 95 Lib.Math.min.name) (by decide +kernel)) (hts (.static Lib.Math.min.name) (by decide +kernel)) (hts (.initialized "java/lang/Math") (by decide +kernel)) (hts (.code Lib.Math.min.name Lib.Math.min.code 2 (some .int)) (by decide +kernel)) (Nat.le_of_ble_eq_true rfl) (Nat.le_of_ble_eq_true rfl) (Nat.zero_le _) (Nat.zero_le _) dX1_lastOfRow_97 ?_
            refine cr_top (y := nI (min (min h0 2047) (c0 / 64 * 64 + 63))) (cr_min _ _ (by omega) (by omega)) ?_
            exact W.iret (v := nI (min (min h0 2047) (c0 / 64 * 64 + 63))) hx hb hr (fun t9 ht9 hW9 => ⟨⟨nI (min (min h0 2047) (c0 / 64 * 64 + 63)), [], rfl, ⟨rfl, by rw [cr_last2 (by omega) (by omega), cr_e64, if_neg (by omega)]⟩, by rw [ht9]; exact hP, va_K.moved hW9.alike hK, hD⟩, hS.F ht9⟩) hS.2.2 dX1_lastOfRow_100
          · exact absurd (by decide) c_27
        · rw [show (0 : Int32) = nI 0 from rfl, nI_eq (by omega) (by omega)] at c_74
          refine lv_iload hx hb dX1_lastOfRow_77 (lv_at hl 0 rfl) ?_
          refine lv_iload_n hx hb dX1_lastOfRow_79 rfl (lv_at hl 6 rfl) ?_
          refine lv_icmp_lt (tgt := 86) hx hb dX1_lastOfRow_80 (by decide) (fun c_80 => ?_) (fun c_80 => ?_)
          · rw [Int32.lt_iff_toInt_lt, pk_sub_toInt (by omega) (by omega), nI_toInt (by omega)] at c_80
            refine lv_iinc (v := nI 2) (lv' := [(4, .int (nI 2)), (7, .int ((nI ((min (min h0 2047) (c0 / 4096 * 4096 + 4095) + 1) / 64 * 64)) - (nI 1))), (6, .int (nI (min (min h0 2047) (c0 / 4096 * 4096 + 4095)))), (5, .int (nI 64)), (3, .int (nI (min h0 2047))), (2, .int (nI 2)), (0, .int (nI c0)), (1, .int (nI h0))]) hx hb dX1_lastOfRow_86 hl (k := 3) rfl (by decide) (by decide) rfl (fun ls hl => ?_)
            refine lv_goto (tgt := 24) hx hb dX1_lastOfRow_89 (by decide) ?_
            refine lv_iload hx hb dX1_lastOfRow_24 (lv_at hl 0 rfl) ?_
            refine lv_iload_n hx hb dX1_lastOfRow_26 rfl (lv_at hl 5 rfl) ?_
            refine lv_icmp_ge (tgt := 92) hx hb dX1_lastOfRow_27 (by decide) (fun c_27 => ?_) (fun c_27 => ?_)
            · refine lv_iload_n hx hb dX1_lastOfRow_92 rfl (lv_at hl 4 rfl) ?_
              refine lv_iload_n hx hb dX1_lastOfRow_93 rfl (lv_at hl 6 rfl) ?_
              refine lv_bipush (v := nI 63) hx hb dX1_lastOfRow_94 (by decide) ?_
              refine lv_ior hx hb dX1_lastOfRow_96 ?_
              refine cr_top (y := nI (c0 / 64 * 64 + 63)) (cr_or63 c0) ?_
              refine va_mmin hx hb (hml.trans hl.1.symm) hown (hts (.methodLink RX1 95 Lib.Math.min.name) (by decide +kernel)) (hts (.static Lib.Math.min.name) (by decide +kernel)) (hts (.initialized "java/lang/Math") (by decide +kernel)) (hts (.code Lib.Math.min.name Lib.Math.min.code 2 (some .int)) (by decide +kernel)) (Nat.le_of_ble_eq_true rfl) (Nat.le_of_ble_eq_true rfl) (Nat.zero_le _) (Nat.zero_le _) dX1_lastOfRow_97 ?_
              refine cr_top (y := nI (min (min h0 2047) (c0 / 64 * 64 + 63))) (cr_min _ _ (by omega) (by omega)) ?_
              exact W.iret (v := nI (min (min h0 2047) (c0 / 64 * 64 + 63))) hx hb hr (fun t9 ht9 hW9 => ⟨⟨nI (min (min h0 2047) (c0 / 64 * 64 + 63)), [], rfl, ⟨rfl, by rw [cr_last2 (by omega) (by omega), cr_e64, if_neg (by omega)]⟩, by rw [ht9]; exact hP, va_K.moved hW9.alike hK, hD⟩, hS.F ht9⟩) hS.2.2 dX1_lastOfRow_100
            · exact absurd (by decide) c_27
          · rw [Int32.lt_iff_toInt_lt, pk_sub_toInt (by omega) (by omega), nI_toInt (by omega)] at c_80
            refine lv_iload hx hb dX1_lastOfRow_83 (lv_at hl 0 rfl) ?_
            exact W.iret (v := (nI ((min (min h0 2047) (c0 / 4096 * 4096 + 4095) + 1) / 64 * 64)) - (nI 1)) hx hb hr (fun t9 ht9 hW9 => ⟨⟨(nI ((min (min h0 2047) (c0 / 4096 * 4096 + 4095) + 1) / 64 * 64)) - (nI 1), [], rfl, ⟨rfl, by rw [cr_last2 (by omega) (by omega), cr_e64, if_pos (by omega)]; exact pk_sub (by omega)⟩, by rw [ht9]; exact hP, va_K.moved hW9.alike hK, hD⟩, hS.F ht9⟩) hS.2.2 dX1_lastOfRow_85
    · exact absurd c_16 (by decide)
  · rw [hL.1, show cr_lol 3 = 65535 from rfl] at hl
    refine lv_iload_n hx hb dX1_lastOfRow_14 rfl (lv_at hl 1 rfl) ?_
    refine lv_iconst (v := nI 1) hx hb dX1_lastOfRow_15 (by decide) ?_
    refine lv_icmp_ne (tgt := 21) hx hb dX1_lastOfRow_16 (by decide) (fun c_16 => ?_) (fun c_16 => ?_)
    · refine lv_iconst (v := nI 1) hx hb dX1_lastOfRow_21 (by decide) ?_
      refine lv_istore (lv' := [(4, .int (nI 1)), (3, .int (nI (min h0 65535))), (2, .int (nI 3)), (0, .int (nI c0)), (1, .int (nI h0))]) hx hb dX1_lastOfRow_22 hl (by decide) rfl (fun ls hl => ?_)
      refine lv_iload hx hb dX1_lastOfRow_24 (lv_at hl 0 rfl) ?_
      refine lv_iload_n hx hb dX1_lastOfRow_26 rfl (lv_at hl 2 rfl) ?_
      refine lv_icmp_ge (tgt := 92) hx hb dX1_lastOfRow_27 (by decide) (fun c_27 => ?_) (fun c_27 => ?_)
      · exact absurd c_27 (by decide)
      · refine lv_iconst (v := nI 1) hx hb dX1_lastOfRow_30 (by decide) ?_
        refine lv_bipush (v := nI 6) hx hb dX1_lastOfRow_31 (by decide) ?_
        refine lv_iload_n hx hb dX1_lastOfRow_33 rfl (lv_at hl 2 rfl) ?_
        refine lv_iload hx hb dX1_lastOfRow_34 (lv_at hl 0 rfl) ?_
        refine lv_isub hx hb dX1_lastOfRow_36 ?_
        refine cr_top (y := nI 2) (by decide) ?_
        refine lv_imul hx hb dX1_lastOfRow_37 ?_
        refine cr_top (y := nI 12) (by decide) ?_
        refine lv_ishl hx hb dX1_lastOfRow_38 ?_
        refine cr_top (y := nI 4096) (by decide) ?_
        refine lv_istore (lv' := [(5, .int (nI 4096)), (4, .int (nI 1)), (3, .int (nI (min h0 65535))), (2, .int (nI 3)), (0, .int (nI c0)), (1, .int (nI h0))]) hx hb dX1_lastOfRow_39 hl (by decide) rfl (fun ls hl => ?_)
        refine lv_iload_n hx hb dX1_lastOfRow_41 rfl (lv_at hl 2 rfl) ?_
        refine lv_iload_n hx hb dX1_lastOfRow_42 rfl (lv_at hl 4 rfl) ?_
        refine lv_bipush (v := nI 64) hx hb dX1_lastOfRow_43 (by decide) ?_
        refine lv_iload hx hb dX1_lastOfRow_45 (lv_at hl 0 rfl) ?_
        refine lv_imul hx hb dX1_lastOfRow_47 ?_
        refine cr_top (y := nI 262144) (by decide) ?_
        refine lv_iconst (v := nI 1) hx hb dX1_lastOfRow_48 (by decide) ?_
        refine lv_isub hx hb dX1_lastOfRow_49 ?_
        refine cr_top (y := nI 262143) (by decide) ?_
        refine lv_ior hx hb dX1_lastOfRow_50 ?_
        refine cr_top (y := nI (c0 / 262144 * 262144 + 262143)) (cr_or262143 c0) ?_
        refine va_mmin hx hb (hml.trans hl.1.symm) hown (hts (.methodLink RX1 95 Lib.Math.min.name) (by decide +kernel)) (hts (.static Lib.Math.min.name) (by decide +kernel)) (hts (.initialized "java/lang/Math") (by decide +kernel)) (hts (.code Lib.Math.min.name Lib.Math.min.code 2 (some .int)) (by decide +kernel)) (Nat.le_of_ble_eq_true rfl) (Nat.le_of_ble_eq_true rfl) (Nat.zero_le _) (Nat.zero_le _) dX1_lastOfRow_51 ?_
        refine cr_top (y := nI (min (min h0 65535) (c0 / 262144 * 262144 + 262143))) (cr_min _ _ (by omega) (by omega)) ?_
        refine lv_istore (lv' := [(6, .int (nI (min (min h0 65535) (c0 / 262144 * 262144 + 262143)))), (5, .int (nI 4096)), (4, .int (nI 1)), (3, .int (nI (min h0 65535))), (2, .int (nI 3)), (0, .int (nI c0)), (1, .int (nI h0))]) hx hb dX1_lastOfRow_54 hl (by decide) rfl (fun ls hl => ?_)
        refine lv_iload hx hb dX1_lastOfRow_56 (lv_at hl 0 rfl) ?_
        refine lv_iconst (v := nI 1) hx hb dX1_lastOfRow_58 (by decide) ?_
        refine lv_iadd hx hb dX1_lastOfRow_59 ?_
        refine cr_top (y := nI ((min (min h0 65535) (c0 / 262144 * 262144 + 262143)) + 1)) (nI_add (min (min h0 65535) (c0 / 262144 * 262144 + 262143)) 1) ?_
        refine lv_iload hx hb dX1_lastOfRow_60 (lv_at hl 1 rfl) ?_
        refine lv_ineg hx hb dX1_lastOfRow_62 ?_
        refine lv_iand hx hb dX1_lastOfRow_63 ?_
        refine cr_top (y := nI ((min (min h0 65535) (c0 / 262144 * 262144 + 262143) + 1) / 4096 * 4096)) (cr_neg4096 (by omega)) ?_
        refine lv_iconst (v := nI 1) hx hb dX1_lastOfRow_64 (by decide) ?_
        refine lv_isub hx hb dX1_lastOfRow_65 ?_
        refine lv_istore (lv' := [(7, .int ((nI ((min (min h0 65535) (c0 / 262144 * 262144 + 262143) + 1) / 4096 * 4096)) - (nI 1))), (6, .int (nI (min (min h0 65535) (c0 / 262144 * 262144 + 262143)))), (5, .int (nI 4096)), (4, .int (nI 1)), (3, .int (nI (min h0 65535))), (2, .int (nI 3)), (0, .int (nI c0)), (1, .int (nI h0))]) hx hb dX1_lastOfRow_66 hl (by decide) rfl (fun ls hl => ?_)
        refine lv_iload_n hx hb dX1_lastOfRow_68 rfl (lv_at hl 6 rfl) ?_
        refine lv_iload hx hb dX1_lastOfRow_69 (lv_at hl 2 rfl) ?_
        refine lv_iconst (v := nI 1) hx hb dX1_lastOfRow_71 (by decide) ?_
        refine lv_isub hx hb dX1_lastOfRow_72 ?_
        refine cr_top (y := nI 4095) (by decide) ?_
        refine lv_iand hx hb dX1_lastOfRow_73 ?_
        refine cr_top (y := nI (c0 % 4096)) (cr_and4095 (by omega)) ?_
        refine lv_if_ne (tgt := 86) hx hb dX1_lastOfRow_74 (by decide) (fun c_74 => ?_) (fun c_74 => ?_)
        · rw [show (0 : Int32) = nI 0 from rfl, nI_eq (by omega) (by omega)] at c_74
          refine lv_iinc (v := nI 2) (lv' := [(4, .int (nI 2)), (7, .int ((nI ((min (min h0 65535) (c0 / 262144 * 262144 + 262143) + 1) / 4096 * 4096)) - (nI 1))), (6, .int (nI (min (min h0 65535) (c0 / 262144 * 262144 + 262143)))), (5, .int (nI 4096)), (3, .int (nI (min h0 65535))), (2, .int (nI 3)), (0, .int (nI c0)), (1, .int (nI h0))]) hx hb dX1_lastOfRow_86 hl (k := 3) rfl (by decide) (by decide) rfl (fun ls hl => ?_)
          refine lv_goto (tgt := 24) hx hb dX1_lastOfRow_89 (by decide) ?_
          refine lv_iload hx hb dX1_lastOfRow_24 (lv_at hl 0 rfl) ?_
          refine lv_iload_n hx hb dX1_lastOfRow_26 rfl (lv_at hl 5 rfl) ?_
          refine lv_icmp_ge (tgt := 92) hx hb dX1_lastOfRow_27 (by decide) (fun c_27 => ?_) (fun c_27 => ?_)
          · exact absurd c_27 (by decide)
          · refine lv_iconst (v := nI 1) hx hb dX1_lastOfRow_30 (by decide) ?_
            refine lv_bipush (v := nI 6) hx hb dX1_lastOfRow_31 (by decide) ?_
            refine lv_iload_n hx hb dX1_lastOfRow_33 rfl (lv_at hl 5 rfl) ?_
            refine lv_iload hx hb dX1_lastOfRow_34 (lv_at hl 0 rfl) ?_
            refine lv_isub hx hb dX1_lastOfRow_36 ?_
            refine cr_top (y := nI 1) (by decide) ?_
            refine lv_imul hx hb dX1_lastOfRow_37 ?_
            refine cr_top (y := nI 6) (by decide) ?_
            refine lv_ishl hx hb dX1_lastOfRow_38 ?_
            refine cr_top (y := nI 64) (by decide) ?_
            refine lv_istore (lv' := [(5, .int (nI 64)), (4, .int (nI 2)), (7, .int ((nI ((min (min h0 65535) (c0 / 262144 * 262144 + 262143) + 1) / 4096 * 4096)) - (nI 1))), (6, .int (nI (min (min h0 65535) (c0 / 262144 * 262144 + 262143)))), (3, .int (nI (min h0 65535))), (2, .int (nI 3)), (0, .int (nI c0)), (1, .int (nI h0))]) hx hb dX1_lastOfRow_39 hl (by decide) rfl (fun ls hl => ?_)
            refine lv_iload_n hx hb dX1_lastOfRow_41 rfl (lv_at hl 4 rfl) ?_
            refine lv_iload_n hx hb dX1_lastOfRow_42 rfl (lv_at hl 6 rfl) ?_
            refine lv_bipush (v := nI 64) hx hb dX1_lastOfRow_43 (by decide) ?_
            refine lv_iload hx hb dX1_lastOfRow_45 (lv_at hl 0 rfl) ?_
            refine lv_imul hx hb dX1_lastOfRow_47 ?_
            refine cr_top (y := nI 4096) (by decide) ?_
            refine lv_iconst (v := nI 1) hx hb dX1_lastOfRow_48 (by decide) ?_
            refine lv_isub hx hb dX1_lastOfRow_49 ?_
            refine cr_top (y := nI 4095) (by decide) ?_
            refine lv_ior hx hb dX1_lastOfRow_50 ?_
            refine cr_top (y := nI (c0 / 4096 * 4096 + 4095)) (cr_or4095 c0) ?_
            refine va_mmin hx hb (hml.trans hl.1.symm) hown (hts (.methodLink RX1 95 Lib.Math.min.name) (by decide +kernel)) (hts (.static Lib.Math.min.name) (by decide +kernel)) (hts (.initialized "java/lang/Math") (by decide +kernel)) (hts (.code Lib.Math.min.name Lib.Math.min.code 2 (some .int)) (by decide +kernel)) (Nat.le_of_ble_eq_true rfl) (Nat.le_of_ble_eq_true rfl) (Nat.zero_le _) (Nat.zero_le _) dX1_lastOfRow_51 ?_
            refine cr_top (y := nI (min (min h0 65535) (c0 / 4096 * 4096 + 4095))) (cr_min _ _ (by omega) (by omega)) ?_
            refine lv_istore (lv' := [(6, .int (nI (min (min h0 65535) (c0 / 4096 * 4096 + 4095)))), (5, .int (nI 64)), (4, .int (nI 2)), (7, .int ((nI ((min (min h0 65535) (c0 / 262144 * 262144 + 262143) + 1) / 4096 * 4096)) - (nI 1))), (3, .int (nI (min h0 65535))), (2, .int (nI 3)), (0, .int (nI c0)), (1, .int (nI h0))]) hx hb dX1_lastOfRow_54 hl (by decide) rfl (fun ls hl => ?_)
            refine lv_iload hx hb dX1_lastOfRow_56 (lv_at hl 0 rfl) ?_
            refine lv_iconst (v := nI 1) hx hb dX1_lastOfRow_58 (by decide) ?_
            refine lv_iadd hx hb dX1_lastOfRow_59 ?_
            refine cr_top (y := nI ((min (min h0 65535) (c0 / 4096 * 4096 + 4095)) + 1)) (nI_add (min (min h0 65535) (c0 / 4096 * 4096 + 4095)) 1) ?_
            refine lv_iload hx hb dX1_lastOfRow_60 (lv_at hl 1 rfl) ?_
            refine lv_ineg hx hb dX1_lastOfRow_62 ?_
            refine lv_iand hx hb dX1_lastOfRow_63 ?_
            refine cr_top (y := nI ((min (min h0 65535) (c0 / 4096 * 4096 + 4095) + 1) / 64 * 64)) (cr_neg64 (by omega)) ?_
            refine lv_iconst (v := nI 1) hx hb dX1_lastOfRow_64 (by decide) ?_
            refine lv_isub hx hb dX1_lastOfRow_65 ?_
            refine lv_istore (lv' := [(7, .int ((nI ((min (min h0 65535) (c0 / 4096 * 4096 + 4095) + 1) / 64 * 64)) - (nI 1))), (6, .int (nI (min (min h0 65535) (c0 / 4096 * 4096 + 4095)))), (5, .int (nI 64)), (4, .int (nI 2)), (3, .int (nI (min h0 65535))), (2, .int (nI 3)), (0, .int (nI c0)), (1, .int (nI h0))]) hx hb dX1_lastOfRow_66 hl (by decide) rfl (fun ls hl => ?_)
            refine lv_iload_n hx hb dX1_lastOfRow_68 rfl (lv_at hl 6 rfl) ?_
            refine lv_iload hx hb dX1_lastOfRow_69 (lv_at hl 2 rfl) ?_
            refine lv_iconst (v := nI 1) hx hb dX1_lastOfRow_71 (by decide) ?_
            refine lv_isub hx hb dX1_lastOfRow_72 ?_
            refine cr_top (y := nI 63) (by decide) ?_
            refine lv_iand hx hb dX1_lastOfRow_73 ?_
            refine cr_top (y := nI (c0 % 64)) (cr_and63 (by omega)) ?_
            refine lv_if_ne (tgt := 86) hx hb dX1_lastOfRow_74 (by decide) (fun c_74 => ?_) (fun c_74 => ?_)
            · rw [show (0 : Int32) = nI 0 from rfl, nI_eq (by omega) (by omega)] at c_74
              refine lv_iinc (v := nI 3) (lv' := [(4, .int (nI 3)), (7, .int ((nI ((min (min h0 65535) (c0 / 4096 * 4096 + 4095) + 1) / 64 * 64)) - (nI 1))), (6, .int (nI (min (min h0 65535) (c0 / 4096 * 4096 + 4095)))), (5, .int (nI 64)), (3, .int (nI (min h0 65535))), (2, .int (nI 3)), (0, .int (nI c0)), (1, .int (nI h0))]) hx hb dX1_lastOfRow_86 hl (k := 3) rfl (by decide) (by decide) rfl (fun ls hl => ?_)
              refine lv_goto (tgt := 24) hx hb dX1_lastOfRow_89 (by decide) ?_
              refine lv_iload hx hb dX1_lastOfRow_24 (lv_at hl 0 rfl) ?_
              refine lv_iload_n hx hb dX1_lastOfRow_26 rfl (lv_at hl 5 rfl) ?_
              refine lv_icmp_ge (tgt := 92) hx hb dX1_lastOfRow_27 (by decide) (fun c_27 => ?_) (fun c_27 => ?_)
              · refine lv_iload_n hx hb dX1_lastOfRow_92 rfl (lv_at hl 4 rfl) ?_
                refine lv_iload_n hx hb dX1_lastOfRow_93 rfl (lv_at hl 6 rfl) ?_
                refine lv_bipush (v := nI 63) hx hb dX1_lastOfRow_94 (by decide) ?_
                refine lv_ior hx hb dX1_lastOfRow_96 ?_
                refine cr_top (y := nI (c0 / 64 * 64 + 63)) (cr_or63 c0) ?_
                refine va_mmin hx hb (hml.trans hl.1.symm) hown (hts (.methodLink RX1 95 Lib.Math.min.name) (by decide +kernel)) (hts (.static Lib.Math.min.name) (by decide +kernel)) (hts (.initialized "java/lang/Math") (by decide +kernel)) (hts (.code Lib.Math.min.name Lib.Math.min.code 2 (some .int)) (by decide +kernel)) (Nat.le_of_ble_eq_true rfl) (Nat.le_of_ble_eq_true rfl) (Nat.zero_le _) (Nat.zero_le _) dX1_lastOfRow_97 ?_
                refine cr_top (y := nI (min (min h0 65535) (c0 / 64 * 64 + 63))) (cr_min _ _ (by omega) (by omega)) ?_
                exact W.iret (v := nI (min (min h0 65535) (c0 / 64 * 64 + 63))) hx hb hr (fun t9 ht9 hW9 => ⟨⟨nI (min (min h0 65535) (c0 / 64 * 64 + 63)), [], rfl, ⟨rfl, by rw [cr_last3 (by omega) (by omega), cr_e4096, cr_e64, if_neg (by omega), if_neg (by omega)]⟩, by rw [ht9]; exact hP, va_K.moved hW9.alike hK, hD⟩, hS.F ht9⟩) hS.2.2 dX1_lastOfRow_100
              · exact absurd (by decide) c_27
            · rw [show (0 : Int32) = nI 0 from rfl, nI_eq (by omega) (by omega)] at c_74
              refine lv_iload hx hb dX1_lastOfRow_77 (lv_at hl 0 rfl) ?_
              refine lv_iload_n hx hb dX1_lastOfRow_79 rfl (lv_at hl 6 rfl) ?_
              refine lv_icmp_lt (tgt := 86) hx hb dX1_lastOfRow_80 (by decide) (fun c_80 => ?_) (fun c_80 => ?_)
              · rw [Int32.lt_iff_toInt_lt, pk_sub_toInt (by omega) (by omega), nI_toInt (by omega)] at c_80
                refine lv_iinc (v := nI 3) (lv' := [(4, .int (nI 3)), (7, .int ((nI ((min (min h0 65535) (c0 / 4096 * 4096 + 4095) + 1) / 64 * 64)) - (nI 1))), (6, .int (nI (min (min h0 65535) (c0 / 4096 * 4096 + 4095)))), (5, .int (nI 64)), (3, .int (nI (min h0 65535))), (2, .int (nI 3)), (0, .int (nI c0)), (1, .int (nI h0))]) hx hb dX1_lastOfRow_86 hl (k := 3) rfl (by decide) (by decide) rfl (fun ls hl => ?_)
                refine lv_goto (tgt := 24) hx hb dX1_lastOfRow_89 (by decide) ?_
                refine lv_iload hx hb dX1_lastOfRow_24 (lv_at hl 0 rfl) ?_
                refine lv_iload_n hx hb dX1_lastOfRow_26 rfl (lv_at hl 5 rfl) ?_
                refine lv_icmp_ge (tgt := 92) hx hb dX1_lastOfRow_27 (by decide) (fun c_27 => ?_) (fun c_27 => ?_)
                · refine lv_iload_n hx hb dX1_lastOfRow_92 rfl (lv_at hl 4 rfl) ?_
                  refine lv_iload_n hx hb dX1_lastOfRow_93 rfl (lv_at hl 6 rfl) ?_
                  refine lv_bipush (v := nI 63) hx hb dX1_lastOfRow_94 (by decide) ?_
                  refine lv_ior hx hb dX1_lastOfRow_96 ?_
                  refine cr_top (y := nI (c0 / 64 * 64 + 63)) (cr_or63 c0) ?_
                  refine va_mmin hx hb (hml.trans hl.1.symm) hown (hts (.methodLink RX1 95 Lib.Math.min.name) (by decide +kernel)) (hts (.static Lib.Math.min.name) (by decide +kernel)) (hts (.initialized "java/lang/Math") (by decide +kernel)) (hts (.code Lib.Math.min.name Lib.Math.min.code 2 (some .int)) (by decide +kernel)) (Nat.le_of_ble_eq_true rfl) (Nat.le_of_ble_eq_true rfl) (Nat.zero_le _) (Nat.zero_le _) dX1_lastOfRow_97 ?_
                  refine cr_top (y := nI (min (min h0 65535) (c0 / 64 * 64 + 63))) (cr_min _ _ (by omega) (by omega)) ?_
                  exact W.iret (v := nI (min (min h0 65535) (c0 / 64 * 64 + 63))) hx hb hr (fun t9 ht9 hW9 => ⟨⟨nI (min (min h0 65535) (c0 / 64 * 64 + 63)), [], rfl, ⟨rfl, by rw [cr_last3 (by omega) (by omega), cr_e4096, cr_e64, if_neg (by omega), if_neg (by omega)]⟩, by rw [ht9]; exact hP, va_K.moved hW9.alike hK, hD⟩, hS.F ht9⟩) hS.2.2 dX1_lastOfRow_100
                · exact absurd (by decide) c_27
              · rw [Int32.lt_iff_toInt_lt, pk_sub_toInt (by omega) (by omega), nI_toInt (by omega)] at c_80
                refine lv_iload hx hb dX1_lastOfRow_83 (lv_at hl 0 rfl) ?_
                exact W.iret (v := (nI ((min (min h0 65535) (c0 / 4096 * 4096 + 4095) + 1) / 64 * 64)) - (nI 1)) hx hb hr (fun t9 ht9 hW9 => ⟨⟨(nI ((min (min h0 65535) (c0 / 4096 * 4096 + 4095) + 1) / 64 * 64)) - (nI 1), [], rfl, ⟨rfl, by rw [cr_last3 (by omega) (by omega), cr_e4096, cr_e64, if_neg (by omega), if_pos (by omega)]; exact pk_sub (by omega)⟩, by rw [ht9]; exact hP, va_K.moved hW9.alike hK, hD⟩, hS.F ht9⟩) hS.2.2 dX1_lastOfRow_85
        · rw [show (0 : Int32) = nI 0 from rfl, nI_eq (by omega) (by omega)] at c_74
          refine lv_iload hx hb dX1_lastOfRow_77 (lv_at hl 0 rfl) ?_
          refine lv_iload_n hx hb dX1_lastOfRow_79 rfl (lv_at hl 6 rfl) ?_
          refine lv_icmp_lt (tgt := 86) hx hb dX1_lastOfRow_80 (by decide) (fun c_80 => ?_) (fun c_80 => ?_)
          · rw [Int32.lt_iff_toInt_lt, pk_sub_toInt (by omega) (by omega), nI_toInt (by omega)] at c_80
            refine lv_iinc (v := nI 2) (lv' := [(4, .int (nI 2)), (7, .int ((nI ((min (min h0 65535) (c0 / 262144 * 262144 + 262143) + 1) / 4096 * 4096)) - (nI 1))), (6, .int (nI (min (min h0 65535) (c0 / 262144 * 262144 + 262143)))), (5, .int (nI 4096)), (3, .int (nI (min h0 65535))), (2, .int (nI 3)), (0, .int (nI c0)), (1, .int (nI h0))]) hx hb dX1_lastOfRow_86 hl (k := 3) rfl (by decide) (by decide) rfl (fun ls hl => ?_)
            refine lv_goto (tgt := 24) hx hb dX1_lastOfRow_89 (by decide) ?_
            refine lv_iload hx hb dX1_lastOfRow_24 (lv_at hl 0 rfl) ?_
            refine lv_iload_n hx hb dX1_lastOfRow_26 rfl (lv_at hl 5 rfl) ?_
            refine lv_icmp_ge (tgt := 92) hx hb dX1_lastOfRow_27 (by decide) (fun c_27 => ?_) (fun c_27 => ?_)
            · exact absurd c_27 (by decide)
            · refine lv_iconst (v := nI 1) hx hb dX1_lastOfRow_30 (by decide) ?_
              refine lv_bipush (v := nI 6) hx hb dX1_lastOfRow_31 (by decide) ?_
              refine lv_iload_n hx hb dX1_lastOfRow_33 rfl (lv_at hl 5 rfl) ?_
              refine lv_iload hx hb dX1_lastOfRow_34 (lv_at hl 0 rfl) ?_
              refine lv_isub hx hb dX1_lastOfRow_36 ?_
              refine cr_top (y := nI 1) (by decide) ?_
              refine lv_imul hx hb dX1_lastOfRow_37 ?_
              refine cr_top (y := nI 6) (by decide) ?_
              refine lv_ishl hx hb dX1_lastOfRow_38 ?_
              refine cr_top (y := nI 64) (by decide) ?_
              refine lv_istore (lv' := [(5, .int (nI 64)), (4, .int (nI 2)), (7, .int ((nI ((min (min h0 65535) (c0 / 262144 * 262144 + 262143) + 1) / 4096 * 4096)) - (nI 1))), (6, .int (nI (min (min h0 65535) (c0 / 262144 * 262144 + 262143)))), (3, .int (nI (min h0 65535))), (2, .int (nI 3)), (0, .int (nI c0)), (1, .int (nI h0))]) hx hb dX1_lastOfRow_39 hl (by decide) rfl (fun ls hl => ?_)
              refine lv_iload_n hx hb dX1_lastOfRow_41 rfl (lv_at hl 4 rfl) ?_
              refine lv_iload_n hx hb dX1_lastOfRow_42 rfl (lv_at hl 6 rfl) ?_
              refine lv_bipush (v := nI 64) hx hb dX1_lastOfRow_43 (by decide) ?_
              refine lv_iload hx hb dX1_lastOfRow_45 (lv_at hl 0 rfl) ?_
              refine lv_imul hx hb dX1_lastOfRow_47 ?_
              refine cr_top (y := nI 4096) (by decide) ?_
              refine lv_iconst (v := nI 1) hx hb dX1_lastOfRow_48 (by decide) ?_
              refine lv_isub hx hb dX1_lastOfRow_49 ?_
              refine cr_top (y := nI 4095) (by decide) ?_
              refine lv_ior hx hb dX1_lastOfRow_50 ?_
              refine cr_top (y := nI (c0 / 4096 * 4096 + 4095)) (cr_or4095 c0) ?_
              refine va_mmin hx hb (hml.trans hl.1.symm) hown (hts (.methodLink RX1 95 Lib.Math.min.name) (by decide +kernel)) (hts (.static Lib.Math.min.name) (by decide +kernel)) (hts (.initialized "java/lang/Math") (by decide +kernel)) (hts (.code Lib.Math.min.name Lib.Math.min.code 2 (some .int)) (by decide +kernel)) (Nat.le_of_ble_eq_true rfl) (Nat.le_of_ble_eq_true rfl) (Nat.zero_le _) (Nat.zero_le _) dX1_lastOfRow_51 ?_
              refine cr_top (y := nI (min (min h0 65535) (c0 / 4096 * 4096 + 4095))) (cr_min _ _ (by omega) (by omega)) ?_
              refine lv_istore (lv' := [(6, .int (nI (min (min h0 65535) (c0 / 4096 * 4096 + 4095)))), (5, .int (nI 64)), (4, .int (nI 2)), (7, .int ((nI ((min (min h0 65535) (c0 / 262144 * 262144 + 262143) + 1) / 4096 * 4096)) - (nI 1))), (3, .int (nI (min h0 65535))), (2, .int (nI 3)), (0, .int (nI c0)), (1, .int (nI h0))]) hx hb dX1_lastOfRow_54 hl (by decide) rfl (fun ls hl => ?_)
              refine lv_iload hx hb dX1_lastOfRow_56 (lv_at hl 0 rfl) ?_
              refine lv_iconst (v := nI 1) hx hb dX1_lastOfRow_58 (by decide) ?_
              refine lv_iadd hx hb dX1_lastOfRow_59 ?_
              refine cr_top (y := nI ((min (min h0 65535) (c0 / 4096 * 4096 + 4095)) + 1)) (nI_add (min (min h0 65535) (c0 / 4096 * 4096 + 4095)) 1) ?_
              refine lv_iload hx hb dX1_lastOfRow_60 (lv_at hl 1 rfl) ?_
              refine lv_ineg hx hb dX1_lastOfRow_62 ?_
              refine lv_iand hx hb dX1_lastOfRow_63 ?_
              refine cr_top (y := nI ((min (min h0 65535) (c0 / 4096 * 4096 + 4095) + 1) / 64 * 64)) (cr_neg64 (by omega)) ?_
              refine lv_iconst (v := nI 1) hx hb dX1_lastOfRow_64 (by decide) ?_
              refine lv_isub hx hb dX1_lastOfRow_65 ?_
              refine lv_istore (lv' := [(7, .int ((nI ((min (min h0 65535) (c0 / 4096 * 4096 + 4095) + 1) / 64 * 64)) - (nI 1))), (6, .int (nI (min (min h0 65535) (c0 / 4096 * 4096 + 4095)))), (5, .int (nI 64)), (4, .int (nI 2)), (3, .int (nI (min h0 65535))), (2, .int (nI 3)), (0, .int (nI c0)), (1, .int (nI h0))]) hx hb dX1_lastOfRow_66 hl (by decide) rfl (fun ls hl => ?_)
              refine lv_iload_n hx hb dX1_lastOfRow_68 rfl (lv_at hl 6 rfl) ?_
              refine lv_iload hx hb dX1_lastOfRow_69 (lv_at hl 2 rfl) ?_
              refine lv_iconst (v := nI 1) hx hb dX1_lastOfRow_71 (by decide) ?_
              refine lv_isub hx hb dX1_lastOfRow_72 ?_
              refine cr_top (y := nI 63) (by decide) ?_
              refine lv_iand hx hb dX1_lastOfRow_73 ?_
              refine cr_top (y := nI (c0 % 64)) (cr_and63 (by omega)) ?_
              refine lv_if_ne (tgt := 86) hx hb dX1_lastOfRow_74 (by decide) (fun c_74 => ?_) (fun c_74 => ?_)
              · rw [show (0 : Int32) = nI 0 from rfl, nI_eq (by omega) (by omega)] at c_74
                refine lv_iinc (v := nI 3) (lv' := [(4, .int (nI 3)), (7, .int ((nI ((min (min h0 65535) (c0 / 4096 * 4096 + 4095) + 1) / 64 * 64)) - (nI 1))), (6, .int (nI (min (min h0 65535) (c0 / 4096 * 4096 + 4095)))), (5, .int (nI 64)), (3, .int (nI (min h0 65535))), (2, .int (nI 3)), (0, .int (nI c0)), (1, .int (nI h0))]) hx hb dX1_lastOfRow_86 hl (k := 3) rfl (by decide) (by decide) rfl (fun ls hl => ?_)
                refine lv_goto (tgt := 24) hx hb dX1_lastOfRow_89 (by decide) ?_
                refine lv_iload hx hb dX1_lastOfRow_24 (lv_at hl 0 rfl) ?_
                refine lv_iload_n hx hb dX1_lastOfRow_26 rfl (lv_at hl 5 rfl) ?_
                refine lv_icmp_ge (tgt := 92) hx hb dX1_lastOfRow_27 (by decide) (fun c_27 => ?_) (fun c_27 => ?_)
                · refine lv_iload_n hx hb dX1_lastOfRow_92 rfl (lv_at hl 4 rfl) ?_
                  refine lv_iload_n hx hb dX1_lastOfRow_93 rfl (lv_at hl 6 rfl) ?_
                  refine lv_bipush (v := nI 63) hx hb dX1_lastOfRow_94 (by decide) ?_
                  refine lv_ior hx hb dX1_lastOfRow_96 ?_
                  refine cr_top (y := nI (c0 / 64 * 64 + 63)) (cr_or63 c0) ?_
                  refine va_mmin hx hb (hml.trans hl.1.symm) hown (hts (.methodLink RX1 95 Lib.Math.min.name) (by decide +kernel)) (hts (.static Lib.Math.min.name) (by decide +kernel)) (hts (.initialized "java/lang/Math") (by decide +kernel)) (hts (.code Lib.Math.min.name Lib.Math.min.code 2 (some .int)) (by decide +kernel)) (Nat.le_of_ble_eq_true rfl) (Nat.le_of_ble_eq_true rfl) (Nat.zero_le _) (Nat.zero_le _) dX1_lastOfRow_97 ?_
                  refine cr_top (y := nI (min (min h0 65535) (c0 / 64 * 64 + 63))) (cr_min _ _ (by omega) (by omega)) ?_
                  exact W.iret (v := nI (min (min h0 65535) (c0 / 64 * 64 + 63))) hx hb hr (fun t9 ht9 hW9 => ⟨⟨nI (min (min h0 65535) (c0 / 64 * 64 + 63)), [], rfl, ⟨rfl, by rw [cr_last3 (by omega) (by omega), cr_e4096, cr_e64, if_neg (by omega), if_neg (by omega)]⟩, by rw [ht9]; exact hP, va_K.moved hW9.alike hK, hD⟩, hS.F ht9⟩) hS.2.2 dX1_lastOfRow_100
                · exact absurd (by decide) c_27
              · rw [show (0 : Int32) = nI 0 from rfl, nI_eq (by omega) (by omega)] at c_74
                refine lv_iload hx hb dX1_lastOfRow_77 (lv_at hl 0 rfl) ?_
                refine lv_iload_n hx hb dX1_lastOfRow_79 rfl (lv_at hl 6 rfl) ?_
                refine lv_icmp_lt (tgt := 86) hx hb dX1_lastOfRow_80 (by decide) (fun c_80 => ?_) (fun c_80 => ?_)
                · rw [Int32.lt_iff_toInt_lt, pk_sub_toInt (by omega) (by omega), nI_toInt (by omega)] at c_80
                  refine lv_iinc (v := nI 3) (lv' := [(4, .int (nI 3)), (7, .int ((nI ((min (min h0 65535) (c0 / 4096 * 4096 + 4095) + 1) / 64 * 64)) - (nI 1))), (6, .int (nI (min (min h0 65535) (c0 / 4096 * 4096 + 4095)))), (5, .int (nI 64)), (3, .int (nI (min h0 65535))), (2, .int (nI 3)), (0, .int (nI c0)), (1, .int (nI h0))]) hx hb dX1_lastOfRow_86 hl (k := 3) rfl (by decide) (by decide) rfl (fun ls hl => ?_)
                  refine lv_goto (tgt := 24) hx hb dX1_lastOfRow_89 (by decide) ?_
                  refine lv_iload hx hb dX1_lastOfRow_24 (lv_at hl 0 rfl) ?_
                  refine lv_iload_n hx hb dX1_lastOfRow_26 rfl (lv_at hl 5 rfl) ?_
                  refine lv_icmp_ge (tgt := 92) hx hb dX1_lastOfRow_27 (by decide) (fun c_27 => ?_) (fun c_27 => ?_)
                  · refine lv_iload_n hx hb dX1_lastOfRow_92 rfl (lv_at hl 4 rfl) ?_
                    refine lv_iload_n hx hb dX1_lastOfRow_93 rfl (lv_at hl 6 rfl) ?_
                    refine lv_bipush (v := nI 63) hx hb dX1_lastOfRow_94 (by decide) ?_
                    refine lv_ior hx hb dX1_lastOfRow_96 ?_
                    refine cr_top (y := nI (c0 / 64 * 64 + 63)) (cr_or63 c0) ?_
                    refine va_mmin hx hb (hml.trans hl.1.symm) hown (hts (.methodLink RX1 95 Lib.Math.min.name) (by decide +kernel)) (hts (.static Lib.Math.min.name) (by decide +kernel)) (hts (.initialized "java/lang/Math") (by decide +kernel)) (hts (.code Lib.Math.min.name Lib.Math.min.code 2 (some .int)) (by decide +kernel)) (Nat.le_of_ble_eq_true rfl) (Nat.le_of_ble_eq_true rfl) (Nat.zero_le _) (Nat.zero_le _) dX1_lastOfRow_97 ?_
                    refine cr_top (y := nI (min (min h0 65535) (c0 / 64 * 64 + 63))) (cr_min _ _ (by omega) (by omega)) ?_
                    exact W.iret (v := nI (min (min h0 65535) (c0 / 64 * 64 + 63))) hx hb hr (fun t9 ht9 hW9 => ⟨⟨nI (min (min h0 65535) (c0 / 64 * 64 + 63)), [], rfl, ⟨rfl, by rw [cr_last3 (by omega) (by omega), cr_e4096, cr_e64, if_neg (by omega), if_neg (by omega)]⟩, by rw [ht9]; exact hP, va_K.moved hW9.alike hK, hD⟩, hS.F ht9⟩) hS.2.2 dX1_lastOfRow_100
                  · exact absurd (by decide) c_27
                · rw [Int32.lt_iff_toInt_lt, pk_sub_toInt (by omega) (by omega), nI_toInt (by omega)] at c_80
                  refine lv_iload hx hb dX1_lastOfRow_83 (lv_at hl 0 rfl) ?_
                  exact W.iret (v := (nI ((min (min h0 65535) (c0 / 4096 * 4096 + 4095) + 1) / 64 * 64)) - (nI 1)) hx hb hr (fun t9 ht9 hW9 => ⟨⟨(nI ((min (min h0 65535) (c0 / 4096 * 4096 + 4095) + 1) / 64 * 64)) - (nI 1), [], rfl, ⟨rfl, by rw [cr_last3 (by omega) (by omega), cr_e4096, cr_e64, if_neg (by omega), if_pos (by omega)]; exact pk_sub (by omega)⟩, by rw [ht9]; exact hP, va_K.moved hW9.alike hK, hD⟩, hS.F ht9⟩) hS.2.2 dX1_lastOfRow_85
          · rw [Int32.lt_iff_toInt_lt, pk_sub_toInt (by omega) (by omega), nI_toInt (by omega)] at c_80
            refine lv_iload hx hb dX1_lastOfRow_83 (lv_at hl 0 rfl) ?_
            exact W.iret (v := (nI ((min (min h0 65535) (c0 / 262144 * 262144 + 262143) + 1) / 4096 * 4096)) - (nI 1)) hx hb hr (fun t9 ht9 hW9 => ⟨⟨(nI ((min (min h0 65535) (c0 / 262144 * 262144 + 262143) + 1) / 4096 * 4096)) - (nI 1), [], rfl, ⟨rfl, by rw [cr_last3 (by omega) (by omega), cr_e4096, cr_e64, if_pos (by omega)]; exact pk_sub (by omega)⟩, by rw [ht9]; exact hP, va_K.moved hW9.alike hK, hD⟩, hS.F ht9⟩) hS.2.2 dX1_lastOfRow_85
    · exact absurd c_16 (by decide)
  · rw [hL.1, show cr_lol 4 = 1114111 from rfl] at hl
    refine lv_iload_n hx hb dX1_lastOfRow_14 rfl (lv_at hl 1 rfl) ?_
    refine lv_iconst (v := nI 1) hx hb dX1_lastOfRow_15 (by decide) ?_
    refine lv_icmp_ne (tgt := 21) hx hb dX1_lastOfRow_16 (by decide) (fun c_16 => ?_) (fun c_16 => ?_)
    · refine lv_iconst (v := nI 1) hx hb dX1_lastOfRow_21 (by decide) ?_
      refine lv_istore (lv' := [(4, .int (nI 1)), (3, .int (nI (min h0 1114111))), (2, .int (nI 4)), (0, .int (nI c0)), (1, .int (nI h0))]) hx hb dX1_lastOfRow_22 hl (by decide) rfl (fun ls hl => ?_)
      refine lv_iload hx hb dX1_lastOfRow_24 (lv_at hl 0 rfl) ?_
      refine lv_iload_n hx hb dX1_lastOfRow_26 rfl (lv_at hl 2 rfl) ?_
      refine lv_icmp_ge (tgt := 92) hx hb dX1_lastOfRow_27 (by decide) (fun c_27 => ?_) (fun c_27 => ?_)
      · exact absurd c_27 (by decide)
      · refine lv_iconst (v := nI 1) hx hb dX1_lastOfRow_30 (by decide) ?_
        refine lv_bipush (v := nI 6) hx hb dX1_lastOfRow_31 (by decide) ?_
        refine lv_iload_n hx hb dX1_lastOfRow_33 rfl (lv_at hl 2 rfl) ?_
        refine lv_iload hx hb dX1_lastOfRow_34 (lv_at hl 0 rfl) ?_
        refine lv_isub hx hb dX1_lastOfRow_36 ?_
        refine cr_top (y := nI 3) (by decide) ?_
        refine lv_imul hx hb dX1_lastOfRow_37 ?_
        refine cr_top (y := nI 18) (by decide) ?_
        refine lv_ishl hx hb dX1_lastOfRow_38 ?_
        refine cr_top (y := nI 262144) (by decide) ?_
        refine lv_istore (lv' := [(5, .int (nI 262144)), (4, .int (nI 1)), (3, .int (nI (min h0 1114111))), (2, .int (nI 4)), (0, .int (nI c0)), (1, .int (nI h0))]) hx hb dX1_lastOfRow_39 hl (by decide) rfl (fun ls hl => ?_)
        refine lv_iload_n hx hb dX1_lastOfRow_41 rfl (lv_at hl 2 rfl) ?_
        refine lv_iload_n hx hb dX1_lastOfRow_42 rfl (lv_at hl 4 rfl) ?_
        refine lv_bipush (v := nI 64) hx hb dX1_lastOfRow_43 (by decide) ?_
        refine lv_iload hx hb dX1_lastOfRow_45 (lv_at hl 0 rfl) ?_
        refine lv_imul hx hb dX1_lastOfRow_47 ?_
        refine cr_top (y := nI 16777216) (by decide) ?_
        refine lv_iconst (v := nI 1) hx hb dX1_lastOfRow_48 (by decide) ?_
        refine lv_isub hx hb dX1_lastOfRow_49 ?_
        refine cr_top (y := nI 16777215) (by decide) ?_
        refine lv_ior hx hb dX1_lastOfRow_50 ?_
        refine cr_top (y := nI (c0 / 16777216 * 16777216 + 16777215)) (cr_or16777215 c0) ?_
        refine va_mmin hx hb (hml.trans hl.1.symm) hown (hts (.methodLink RX1 95 Lib.Math.min.name) (by decide +kernel)) (hts (.static Lib.Math.min.name) (by decide +kernel)) (hts (.initialized "java/lang/Math") (by decide +kernel)) (hts (.code Lib.Math.min.name Lib.Math.min.code 2 (some .int)) (by decide +kernel)) (Nat.le_of_ble_eq_true rfl) (Nat.le_of_ble_eq_true rfl) (Nat.zero_le _) (Nat.zero_le _) dX1_lastOfRow_51 ?_
        refine cr_top (y := nI (min (min h0 1114111) (c0 / 16777216 * 16777216 + 16777215))) (cr_min _ _ (by omega) (by omega)) ?_
        refine lv_istore (lv' := [(6, .int (nI (min (min h0 1114111) (c0 / 16777216 * 16777216 + 16777215)))), (5, .int (nI 262144)), (4, .int (nI 1)), (3, .int (nI (min h0 1114111))), (2, .int (nI 4)), (0, .int (nI c0)), (1, .int (nI h0))]) hx hb dX1_lastOfRow_54 hl (by decide) rfl (fun ls hl => ?_)
        refine lv_iload hx hb dX1_lastOfRow_56 (lv_at hl 0 rfl) ?_
        refine lv_iconst (v := nI 1) hx hb dX1_lastOfRow_58 (by decide) ?_
        refine lv_iadd hx hb dX1_lastOfRow_59 ?_
        refine cr_top (y := nI ((min (min h0 1114111) (c0 / 16777216 * 16777216 + 16777215)) + 1)) (nI_add (min (min h0 1114111) (c0 / 16777216 * 16777216 + 16777215)) 1) ?_
        refine lv_iload hx hb dX1_lastOfRow_60 (lv_at hl 1 rfl) ?_
        refine lv_ineg hx hb dX1_lastOfRow_62 ?_
        refine lv_iand hx hb dX1_lastOfRow_63 ?_
        refine cr_top (y := nI ((min (min h0 1114111) (c0 / 16777216 * 16777216 + 16777215) + 1) / 262144 * 262144)) (cr_neg262144 (by omega)) ?_
        refine lv_iconst (v := nI 1) hx hb dX1_lastOfRow_64 (by decide) ?_
        refine lv_isub hx hb dX1_lastOfRow_65 ?_
        refine lv_istore (lv' := [(7, .int ((nI ((min (min h0 1114111) (c0 / 16777216 * 16777216 + 16777215) + 1) / 262144 * 262144)) - (nI 1))), (6, .int (nI (min (min h0 1114111) (c0 / 16777216 * 16777216 + 16777215)))), (5, .int (nI 262144)), (4, .int (nI 1)), (3, .int (nI (min h0 1114111))), (2, .int (nI 4)), (0, .int (nI c0)), (1, .int (nI h0))]) hx hb dX1_lastOfRow_66 hl (by decide) rfl (fun ls hl => ?_)
        refine lv_iload_n hx hb dX1_lastOfRow_68 rfl (lv_at hl 6 rfl) ?_
        refine lv_iload hx hb dX1_lastOfRow_69 (lv_at hl 2 rfl) ?_
        refine lv_iconst (v := nI 1) hx hb dX1_lastOfRow_71 (by decide) ?_
        refine lv_isub hx hb dX1_lastOfRow_72 ?_
        refine cr_top (y := nI 262143) (by decide) ?_
        refine lv_iand hx hb dX1_lastOfRow_73 ?_
        refine cr_top (y := nI (c0 % 262144)) (cr_and262143 (by omega)) ?_
        refine lv_if_ne (tgt := 86) hx hb dX1_lastOfRow_74 (by decide) (fun c_74 => ?_) (fun c_74 => ?_)
        · rw [show (0 : Int32) = nI 0 from rfl, nI_eq (by omega) (by omega)] at c_74
          refine lv_iinc (v := nI 2) (lv' := [(4, .int (nI 2)), (7, .int ((nI ((min (min h0 1114111) (c0 / 16777216 * 16777216 + 16777215) + 1) / 262144 * 262144)) - (nI 1))), (6, .int (nI (min (min h0 1114111) (c0 / 16777216 * 16777216 + 16777215)))), (5, .int (nI 262144)), (3, .int (nI (min h0 1114111))), (2, .int (nI 4)), (0, .int (nI c0)), (1, .int (nI h0))]) hx hb dX1_lastOfRow_86 hl (k := 3) rfl (by decide) (by decide) rfl (fun ls hl => ?_)
          refine lv_goto (tgt := 24) hx hb dX1_lastOfRow_89 (by decide) ?_
          refine lv_iload hx hb dX1_lastOfRow_24 (lv_at hl 0 rfl) ?_
          refine lv_iload_n hx hb dX1_lastOfRow_26 rfl (lv_at hl 5 rfl) ?_
          refine lv_icmp_ge (tgt := 92) hx hb dX1_lastOfRow_27 (by decide) (fun c_27 => ?_) (fun c_27 => ?_)
          · exact absurd c_27 (by decide)
          · refine lv_iconst (v := nI 1) hx hb dX1_lastOfRow_30 (by decide) ?_
            refine lv_bipush (v := nI 6) hx hb dX1_lastOfRow_31 (by decide) ?_
            refine lv_iload_n hx hb dX1_lastOfRow_33 rfl (lv_at hl 5 rfl) ?_
            refine lv_iload hx hb dX1_lastOfRow_34 (lv_at hl 0 rfl) ?_
            refine lv_isub hx hb dX1_lastOfRow_36 ?_
            refine cr_top (y := nI 2) (by decide) ?_
            refine lv_imul hx hb dX1_lastOfRow_37 ?_
            refine cr_top (y := nI 12) (by decide) ?_
            refine lv_ishl hx hb dX1_lastOfRow_38 ?_
            refine cr_top (y := nI 4096) (by decide) ?_
            refine lv_istore (lv' := [(5, .int (nI 4096)), (4, .int (nI 2)), (7, .int ((nI ((min (min h0 1114111) (c0 / 16777216 * 16777216 + 16777215) + 1) / 262144 * 262144)) - (nI 1))), (6, .int (nI (min (min h0 1114111) (c0 / 16777216 * 16777216 + 16777215)))), (3, .int (nI (min h0 1114111))), (2, .int (nI 4)), (0, .int (nI c0)), (1, .int (nI h0))]) hx hb dX1_lastOfRow_39 hl (by decide) rfl (fun ls hl => ?_)
            refine lv_iload_n hx hb dX1_lastOfRow_41 rfl (lv_at hl 4 rfl) ?_
            refine lv_iload_n hx hb dX1_lastOfRow_42 rfl (lv_at hl 6 rfl) ?_
            refine lv_bipush (v := nI 64) hx hb dX1_lastOfRow_43 (by decide) ?_
            refine lv_iload hx hb dX1_lastOfRow_45 (lv_at hl 0 rfl) ?_
            refine lv_imul hx hb dX1_lastOfRow_47 ?_
            refine cr_top (y := nI 262144) (by decide) ?_
            refine lv_iconst (v := nI 1) hx hb dX1_lastOfRow_48 (by decide) ?_
            refine lv_isub hx hb dX1_lastOfRow_49 ?_
            refine cr_top (y := nI 262143) (by decide) ?_
            refine lv_ior hx hb dX1_lastOfRow_50 ?_
            refine cr_top (y := nI (c0 / 262144 * 262144 + 262143)) (cr_or262143 c0) ?_
            refine va_mmin hx hb (hml.trans hl.1.symm) hown (hts (.methodLink RX1 95 Lib.Math.min.name) (by decide +kernel)) (hts (.static Lib.Math.min.name) (by decide +kernel)) (hts (.initialized "java/lang/Math") (by decide +kernel)) (hts (.code Lib.Math.min.name Lib.Math.min.code 2 (some .int)) (by decide +kernel)) (Nat.le_of_ble_eq_true rfl) (Nat.le_of_ble_eq_true rfl) (Nat.zero_le _) (Nat.zero_le _) dX1_lastOfRow_51 ?_
            refine cr_top (y := nI (min (min h0 1114111) (c0 / 262144 * 262144 + 262143))) (cr_min _ _ (by omega) (by omega)) ?_
            refine lv_istore (lv' := [(6, .int (nI (min (min h0 1114111) (c0 / 262144 * 262144 + 262143)))), (5, .int (nI 4096)), (4, .int (nI 2)), (7, .int ((nI ((min (min h0 1114111) (c0 / 16777216 * 16777216 + 16777215) + 1) / 262144 * 262144)) - (nI 1))), (3, .int (nI (min h0 1114111))), (2, .int (nI 4)), (0, .int (nI c0)), (1, .int (nI h0))]) hx hb dX1_lastOfRow_54 hl (by decide) rfl (fun ls hl => ?_)
            refine lv_iload hx hb dX1_lastOfRow_56 (lv_at hl 0 rfl) ?_
            refine lv_iconst (v := nI 1) hx hb dX1_lastOfRow_58 (by decide) ?_
            refine lv_iadd hx hb dX1_lastOfRow_59 ?_
            refine cr_top (y := nI ((min (min h0 1114111) (c0 / 262144 * 262144 + 262143)) + 1)) (nI_add (min (min h0 1114111) (c0 / 262144 * 262144 + 262143)) 1) ?_
            refine lv_iload hx hb dX1_lastOfRow_60 (lv_at hl 1 rfl) ?_
            refine lv_ineg hx hb dX1_lastOfRow_62 ?_
            refine lv_iand hx hb dX1_lastOfRow_63 ?_
            refine cr_top (y := nI ((min (min h0 1114111) (c0 / 262144 * 262144 + 262143) + 1) / 4096 * 4096)) (cr_neg4096 (by omega)) ?_
            refine lv_iconst (v := nI 1) hx hb dX1_lastOfRow_64 (by decide) ?_
            refine lv_isub hx hb dX1_lastOfRow_65 ?_
            refine lv_istore (lv' := [(7, .int ((nI ((min (min h0 1114111) (c0 / 262144 * 262144 + 262143) + 1) / 4096 * 4096)) - (nI 1))), (6, .int (nI (min (min h0 1114111) (c0 / 262144 * 262144 + 262143)))), (5, .int (nI 4096)), (4, .int (nI 2)), (3, .int (nI (min h0 1114111))), (2, .int (nI 4)), (0, .int (nI c0)), (1, .int (nI h0))]) hx hb dX1_lastOfRow_66 hl (by decide) rfl (fun ls hl => ?_)
            refine lv_iload_n hx hb dX1_lastOfRow_68 rfl (lv_at hl 6 rfl) ?_
            refine lv_iload hx hb dX1_lastOfRow_69 (lv_at hl 2 rfl) ?_
            refine lv_iconst (v := nI 1) hx hb dX1_lastOfRow_71 (by decide) ?_
            refine lv_isub hx hb dX1_lastOfRow_72 ?_
            refine cr_top (y := nI 4095) (by decide) ?_
            refine lv_iand hx hb dX1_lastOfRow_73 ?_
            refine cr_top (y := nI (c0 % 4096)) (cr_and4095 (by omega)) ?_
            refine lv_if_ne (tgt := 86) hx hb dX1_lastOfRow_74 (by decide) (fun c_74 => ?_) (fun c_74 => ?_)
            · rw [show (0 : Int32) = nI 0 from rfl, nI_eq (by omega) (by omega)] at c_74
              refine lv_iinc (v := nI 3) (lv' := [(4, .int (nI 3)), (7, .int ((nI ((min (min h0 1114111) (c0 / 262144 * 262144 + 262143) + 1) / 4096 * 4096)) - (nI 1))), (6, .int (nI (min (min h0 1114111) (c0 / 262144 * 262144 + 262143)))), (5, .int (nI 4096)), (3, .int (nI (min h0 1114111))), (2, .int (nI 4)), (0, .int (nI c0)), (1, .int (nI h0))]) hx hb dX1_lastOfRow_86 hl (k := 3) rfl (by decide) (by decide) rfl (fun ls hl => ?_)
              refine lv_goto (tgt := 24) hx hb dX1_lastOfRow_89 (by decide) ?_
              refine lv_iload hx hb dX1_lastOfRow_24 (lv_at hl 0 rfl) ?_
              refine lv_iload_n hx hb dX1_lastOfRow_26 rfl (lv_at hl 5 rfl) ?_
              refine lv_icmp_ge (tgt := 92) hx hb dX1_lastOfRow_27 (by decide) (fun c_27 => ?_) (fun c_27 => ?_)
              · exact absurd c_27 (by decide)
              · refine lv_iconst (v := nI 1) hx hb dX1_lastOfRow_30 (by decide) ?_
                refine lv_bipush (v := nI 6) hx hb dX1_lastOfRow_31 (by decide) ?_
                refine lv_iload_n hx hb dX1_lastOfRow_33 rfl (lv_at hl 5 rfl) ?_
                refine lv_iload hx hb dX1_lastOfRow_34 (lv_at hl 0 rfl) ?_
                refine lv_isub hx hb dX1_lastOfRow_36 ?_
                refine cr_top (y := nI 1) (by decide) ?_
                refine lv_imul hx hb dX1_lastOfRow_37 ?_
                refine cr_top (y := nI 6) (by decide) ?_
                refine lv_ishl hx hb dX1_lastOfRow_38 ?_
                refine cr_top (y := nI 64) (by decide) ?_
                refine lv_istore (lv' := [(5, .int (nI 64)), (4, .int (nI 3)), (7, .int ((nI ((min (min h0 1114111) (c0 / 262144 * 262144 + 262143) + 1) / 4096 * 4096)) - (nI 1))), (6, .int (nI (min (min h0 1114111) (c0 / 262144 * 262144 + 262143)))), (3, .int (nI (min h0 1114111))), (2, .int (nI 4)), (0, .int (nI c0)), (1, .int (nI h0))]) hx hb dX1_lastOfRow_39 hl (by decide) rfl (fun ls hl => ?_)
                refine lv_iload_n hx hb dX1_lastOfRow_41 rfl (lv_at hl 4 rfl) ?_
                refine lv_iload_n hx hb dX1_lastOfRow_42 rfl (lv_at hl 6 rfl) ?_
                refine lv_bipush (v := nI 64) hx hb dX1_lastOfRow_43 (by decide) ?_
                refine lv_iload hx hb dX1_lastOfRow_45 (lv_at hl 0 rfl) ?_
                refine lv_imul hx hb dX1_lastOfRow_47 ?_
                refine cr_top (y := nI 4096) (by decide) ?_
                refine lv_iconst (v := nI 1) hx hb dX1_lastOfRow_48 (by decide) ?_
                refine lv_isub hx hb dX1_lastOfRow_49 ?_
                refine cr_top (y := nI 4095) (by decide) ?_
                refine lv_ior hx hb dX1_lastOfRow_50 ?_
                refine cr_top (y := nI (c0 / 4096 * 4096 + 4095)) (cr_or4095 c0) ?_
                refine va_mmin hx hb (hml.trans hl.1.symm) hown (hts (.methodLink RX1 95 Lib.Math.min.name) (by decide +kernel)) (hts (.static Lib.Math.min.name) (by decide +kernel)) (hts (.initialized "java/lang/Math") (by decide +kernel)) (hts (.code Lib.Math.min.name Lib.Math.min.code 2 (some .int)) (by decide +kernel)) (Nat.le_of_ble_eq_true rfl) (Nat.le_of_ble_eq_true rfl) (Nat.zero_le _) (Nat.zero_le _) dX1_lastOfRow_51 ?_
                refine cr_top (y := nI (min (min h0 1114111) (c0 / 4096 * 4096 + 4095))) (cr_min _ _ (by omega) (by omega)) ?_
                refine lv_istore (lv' := [(6, .int (nI (min (min h0 1114111) (c0 / 4096 * 4096 + 4095)))), (5, .int (nI 64)), (4, .int (nI 3)), (7, .int ((nI ((min (min h0 1114111) (c0 / 262144 * 262144 + 262143) + 1) / 4096 * 4096)) - (nI 1))), (3, .int (nI (min h0 1114111))), (2, .int (nI 4)), (0, .int (nI c0)), (1, .int (nI h0))]) hx hb dX1_lastOfRow_54 hl (by decide) rfl (fun ls hl => ?_)
                refine lv_iload hx hb dX1_lastOfRow_56 (lv_at hl 0 rfl) ?_
                refine lv_iconst (v := nI 1) hx hb dX1_lastOfRow_58 (by decide) ?_
                refine lv_iadd hx hb dX1_lastOfRow_59 ?_
                refine cr_top (y := nI ((min (min h0 1114111) (c0 / 4096 * 4096 + 4095)) + 1)) (nI_add (min (min h0 1114111) (c0 / 4096 * 4096 + 4095)) 1) ?_
                refine lv_iload hx hb dX1_lastOfRow_60 (lv_at hl 1 rfl) ?_
                refine lv_ineg hx hb dX1_lastOfRow_62 ?_
                refine lv_iand hx hb dX1_lastOfRow_63 ?_
                refine cr_top (y := nI ((min (min h0 1114111) (c0 / 4096 * 4096 + 4095) + 1) / 64 * 64)) (cr_neg64 (by omega)) ?_
                refine lv_iconst (v := nI 1) hx hb dX1_lastOfRow_64 (by decide) ?_
                refine lv_isub hx hb dX1_lastOfRow_65 ?_
                refine lv_istore (lv' := [(7, .int ((nI ((min (min h0 1114111) (c0 / 4096 * 4096 + 4095) + 1) / 64 * 64)) - (nI 1))), (6, .int (nI (min (min h0 1114111) (c0 / 4096 * 4096 + 4095)))), (5, .int (nI 64)), (4, .int (nI 3)), (3, .int (nI (min h0 1114111))), (2, .int (nI 4)), (0, .int (nI c0)), (1, .int (nI h0))]) hx hb dX1_lastOfRow_66 hl (by decide) rfl (fun ls hl => ?_)
                refine lv_iload_n hx hb dX1_lastOfRow_68 rfl (lv_at hl 6 rfl) ?_
                refine lv_iload hx hb dX1_lastOfRow_69 (lv_at hl 2 rfl) ?_
                refine lv_iconst (v := nI 1) hx hb dX1_lastOfRow_71 (by decide) ?_
                refine lv_isub hx hb dX1_lastOfRow_72 ?_
                refine cr_top (y := nI 63) (by decide) ?_
                refine lv_iand hx hb dX1_lastOfRow_73 ?_
                refine cr_top (y := nI (c0 % 64)) (cr_and63 (by omega)) ?_
                refine lv_if_ne (tgt := 86) hx hb dX1_lastOfRow_74 (by decide) (fun c_74 => ?_) (fun c_74 => ?_)
                · rw [show (0 : Int32) = nI 0 from rfl, nI_eq (by omega) (by omega)] at c_74
                  refine lv_iinc (v := nI 4) (lv' := [(4, .int (nI 4)), (7, .int ((nI ((min (min h0 1114111) (c0 / 4096 * 4096 + 4095) + 1) / 64 * 64)) - (nI 1))), (6, .int (nI (min (min h0 1114111) (c0 / 4096 * 4096 + 4095)))), (5, .int (nI 64)), (3, .int (nI (min h0 1114111))), (2, .int (nI 4)), (0, .int (nI c0)), (1, .int (nI h0))]) hx hb dX1_lastOfRow_86 hl (k := 3) rfl (by decide) (by decide) rfl (fun ls hl => ?_)
                  refine lv_goto (tgt := 24) hx hb dX1_lastOfRow_89 (by decide) ?_
                  refine lv_iload hx hb dX1_lastOfRow_24 (lv_at hl 0 rfl) ?_
                  refine lv_iload_n hx hb dX1_lastOfRow_26 rfl (lv_at hl 5 rfl) ?_
                  refine lv_icmp_ge (tgt := 92) hx hb dX1_lastOfRow_27 (by decide) (fun c_27 => ?_) (fun c_27 => ?_)
                  · refine lv_iload_n hx hb dX1_lastOfRow_92 rfl (lv_at hl 4 rfl) ?_
                    refine lv_iload_n hx hb dX1_lastOfRow_93 rfl (lv_at hl 6 rfl) ?_
                    refine lv_bipush (v := nI 63) hx hb dX1_lastOfRow_94 (by decide) ?_
                    refine lv_ior hx hb dX1_lastOfRow_96 ?_
                    refine cr_top (y := nI (c0 / 64 * 64 + 63)) (cr_or63 c0) ?_
                    refine va_mmin hx hb (hml.trans hl.1.symm) hown (hts (.methodLink RX1 95 Lib.Math.min.name) (by decide +kernel)) (hts (.static Lib.Math.min.name) (by decide +kernel)) (hts (.initialized "java/lang/Math") (by decide +kernel)) (hts (.code Lib.Math.min.name Lib.Math.min.code 2 (some .int)) (by decide +kernel)) (Nat.le_of_ble_eq_true rfl) (Nat.le_of_ble_eq_true rfl) (Nat.zero_le _) (Nat.zero_le _) dX1_lastOfRow_97 ?_
                    refine cr_top (y := nI (min (min h0 1114111) (c0 / 64 * 64 + 63))) (cr_min _ _ (by omega) (by omega)) ?_
                    exact W.iret (v := nI (min (min h0 1114111) (c0 / 64 * 64 + 63))) hx hb hr (fun t9 ht9 hW9 => ⟨⟨nI (min (min h0 1114111) (c0 / 64 * 64 + 63)), [], rfl, ⟨rfl, by rw [cr_last4 (by omega), cr_e262144, cr_e4096, cr_e64, if_neg (by omega), if_neg (by omega), if_neg (by omega)]⟩, by rw [ht9]; exact hP, va_K.moved hW9.alike hK, hD⟩, hS.F ht9⟩) hS.2.2 dX1_lastOfRow_100
                  · exact absurd (by decide) c_27
                · rw [show (0 : Int32) = nI 0 from rfl, nI_eq (by omega) (by omega)] at c_74
                  refine lv_iload hx hb dX1_lastOfRow_77 (lv_at hl 0 rfl) ?_
                  refine lv_iload_n hx hb dX1_lastOfRow_79 rfl (lv_at hl 6 rfl) ?_
                  refine lv_icmp_lt (tgt := 86) hx hb dX1_lastOfRow_80 (by decide) (fun c_80 => ?_) (fun c_80 => ?_)
                  · rw [Int32.lt_iff_toInt_lt, pk_sub_toInt (by omega) (by omega), nI_toInt (by omega)] at c_80
                    refine lv_iinc (v := nI 4) (lv' := [(4, .int (nI 4)), (7, .int ((nI ((min (min h0 1114111) (c0 / 4096 * 4096 + 4095) + 1) / 64 * 64)) - (nI 1))), (6, .int (nI (min (min h0 1114111) (c0 / 4096 * 4096 + 4095)))), (5, .int (nI 64)), (3, .int (nI (min h0 1114111))), (2, .int (nI 4)), (0, .int (nI c0)), (1, .int (nI h0))]) hx hb dX1_lastOfRow_86 hl (k := 3) rfl (by decide) (by decide) rfl (fun ls hl => ?_)
                    refine lv_goto (tgt := 24) hx hb dX1_lastOfRow_89 (by decide) ?_
                    refine lv_iload hx hb dX1_lastOfRow_24 (lv_at hl 0 rfl) ?_
                    refine lv_iload_n hx hb dX1_lastOfRow_26 rfl (lv_at hl 5 rfl) ?_
                    refine lv_icmp_ge (tgt := 92) hx hb dX1_lastOfRow_27 (by decide) (fun c_27 => ?_) (fun c_27 => ?_)
                    · refine lv_iload_n hx hb dX1_lastOfRow_92 rfl (lv_at hl 4 rfl) ?_
                      refine lv_iload_n hx hb dX1_lastOfRow_93 rfl (lv_at hl 6 rfl) ?_
                      refine lv_bipush (v := nI 63) hx hb dX1_lastOfRow_94 (by decide) ?_
                      refine lv_ior hx hb dX1_lastOfRow_96 ?_
                      refine cr_top (y := nI (c0 / 64 * 64 + 63)) (cr_or63 c0) ?_
                      refine va_mmin hx hb (hml.trans hl.1.symm) hown (hts (.methodLink RX1 95 Lib.Math.min.name) (by decide +kernel)) (hts (.static Lib.Math.min.name) (by decide +kernel)) (hts (.initialized "java/lang/Math") (by decide +kernel)) (hts (.code Lib.Math.min.name Lib.Math.min.code 2 (some .int)) (by decide +kernel)) (Nat.le_of_ble_eq_true rfl) (Nat.le_of_ble_eq_true rfl) (Nat.zero_le _) (Nat.zero_le _) dX1_lastOfRow_97 ?_
                      refine cr_top (y := nI (min (min h0 1114111) (c0 / 64 * 64 + 63))) (cr_min _ _ (by omega) (by omega)) ?_
                      exact W.iret (v := nI (min (min h0 1114111) (c0 / 64 * 64 + 63))) hx hb hr (fun t9 ht9 hW9 => ⟨⟨nI (min (min h0 1114111) (c0 / 64 * 64 + 63)), [], rfl, ⟨rfl, by rw [cr_last4 (by omega), cr_e262144, cr_e4096, cr_e64, if_neg (by omega), if_neg (by omega), if_neg (by omega)]⟩, by rw [ht9]; exact hP, va_K.moved hW9.alike hK, hD⟩, hS.F ht9⟩) hS.2.2 dX1_lastOfRow_100
                    · exact absurd (by decide) c_27
                  · rw [Int32.lt_iff_toInt_lt, pk_sub_toInt (by omega) (by omega), nI_toInt (by omega)] at c_80
                    refine lv_iload hx hb dX1_lastOfRow_83 (lv_at hl 0 rfl) ?_
                    exact W.iret (v := (nI ((min (min h0 1114111) (c0 / 4096 * 4096 + 4095) + 1) / 64 * 64)) - (nI 1)) hx hb hr (fun t9 ht9 hW9 => ⟨⟨(nI ((min (min h0 1114111) (c0 / 4096 * 4096 + 4095) + 1) / 64 * 64)) - (nI 1), [], rfl, ⟨rfl, by rw [cr_last4 (by omega), cr_e262144, cr_e4096, cr_e64, if_neg (by omega), if_neg (by omega), if_pos (by omega)]; exact pk_sub (by omega)⟩, by rw [ht9]; exact hP, va_K.moved hW9.alike hK, hD⟩, hS.F ht9⟩) hS.2.2 dX1_lastOfRow_85
            · rw [show (0 : Int32) = nI 0 from rfl, nI_eq (by omega) (by omega)] at c_74
              refine lv_iload hx hb dX1_lastOfRow_77 (lv_at hl 0 rfl) ?_
              refine lv_iload_n hx hb dX1_lastOfRow_79 rfl (lv_at hl 6 rfl) ?_
              refine lv_icmp_lt (tgt := 86) hx hb dX1_lastOfRow_80 (by decide) (fun c_80 => ?_) (fun c_80 => ?_)
              · rw [Int32.lt_iff_toInt_lt, pk_sub_toInt (by omega) (by omega), nI_toInt (by omega)] at c_80
                refine lv_iinc (v := nI 3) (lv' := [(4, .int (nI 3)), (7, .int ((nI ((min (min h0 1114111) (c0 / 262144 * 262144 + 262143) + 1) / 4096 * 4096)) - (nI 1))), (6, .int (nI (min (min h0 1114111) (c0 / 262144 * 262144 + 262143)))), (5, .int (nI 4096)), (3, .int (nI (min h0 1114111))), (2, .int (nI 4)), (0, .int (nI c0)), (1, .int (nI h0))]) hx hb dX1_lastOfRow_86 hl (k := 3) rfl (by decide) (by decide) rfl (fun ls hl => ?_)
                refine lv_goto (tgt := 24) hx hb dX1_lastOfRow_89 (by decide) ?_
                refine lv_iload hx hb dX1_lastOfRow_24 (lv_at hl 0 rfl) ?_
                refine lv_iload_n hx hb dX1_lastOfRow_26 rfl (lv_at hl 5 rfl) ?_
                refine lv_icmp_ge (tgt := 92) hx hb dX1_lastOfRow_27 (by decide) (fun c_27 => ?_) (fun c_27 => ?_)
                · exact absurd c_27 (by decide)
                · refine lv_iconst (v := nI 1) hx hb dX1_lastOfRow_30 (by decide) ?_
                  refine lv_bipush (v := nI 6) hx hb dX1_lastOfRow_31 (by decide) ?_
                  refine lv_iload_n hx hb dX1_lastOfRow_33 rfl (lv_at hl 5 rfl) ?_
                  refine lv_iload hx hb dX1_lastOfRow_34 (lv_at hl 0 rfl) ?_
                  refine lv_isub hx hb dX1_lastOfRow_36 ?_
                  refine cr_top (y := nI 1) (by decide) ?_
                  refine lv_imul hx hb dX1_lastOfRow_37 ?_
                  refine cr_top (y := nI 6) (by decide) ?_
                  refine lv_ishl hx hb dX1_lastOfRow_38 ?_
                  refine cr_top (y := nI 64) (by decide) ?_
                  refine lv_istore (lv' := [(5, .int (nI 64)), (4, .int (nI 3)), (7, .int ((nI ((min (min h0 1114111) (c0 / 262144 * 262144 + 262143) + 1) / 4096 * 4096)) - (nI 1))), (6, .int (nI (min (min h0 1114111) (c0 / 262144 * 262144 + 262143)))), (3, .int (nI (min h0 1114111))), (2, .int (nI 4)), (0, .int (nI c0)), (1, .int (nI h0))]) hx hb dX1_lastOfRow_39 hl (by decide) rfl (fun ls hl => ?_)
                  refine lv_iload_n hx hb dX1_lastOfRow_41 rfl (lv_at hl 4 rfl) ?_
                  refine lv_iload_n hx hb dX1_lastOfRow_42 rfl (lv_at hl 6 rfl) ?_
                  refine lv_bipush (v := nI 64) hx hb dX1_lastOfRow_43 (by decide) ?_
                  refine lv_iload hx hb dX1_lastOfRow_45 (lv_at hl 0 rfl) ?_
                  refine lv_imul hx hb dX1_lastOfRow_47 ?_
                  refine cr_top (y := nI 4096) (by decide) ?_
                  refine lv_iconst (v := nI 1) hx hb dX1_lastOfRow_48 (by decide) ?_
                  refine lv_isub hx hb dX1_lastOfRow_49 ?_
                  refine cr_top (y := nI 4095) (by decide) ?_
                  refine lv_ior hx hb dX1_lastOfRow_50 ?_
                  refine cr_top (y := nI (c0 / 4096 * 4096 + 4095)) (cr_or4095 c0) ?_
                  refine va_mmin hx hb (hml.trans hl.1.symm) hown (hts (.methodLink RX1 95 Lib.Math.min.name) (by decide +kernel)) (hts (.static Lib.Math.min.name) (by decide +kernel)) (hts (.initialized "java/lang/Math") (by decide +kernel)) (hts (.code Lib.Math.min.name Lib.Math.min.code 2 (some .int)) (by decide +kernel)) (Nat.le_of_ble_eq_true rfl) (Nat.le_of_ble_eq_true rfl) (Nat.zero_le _) (Nat.zero_le _) dX1_lastOfRow_51 ?_
                  refine cr_top (y := nI (min (min h0 1114111) (c0 / 4096 * 4096 + 4095))) (cr_min _ _ (by omega) (by omega)) ?_
                  refine lv_istore (lv' := [(6, .int (nI (min (min h0 1114111) (c0 / 4096 * 4096 + 4095)))), (5, .int (nI 64)), (4, .int (nI 3)), (7, .int ((nI ((min (min h0 1114111) (c0 / 262144 * 262144 + 262143) + 1) / 4096 * 4096)) - (nI 1))), (3, .int (nI (min h0 1114111))), (2, .int (nI 4)), (0, .int (nI c0)), (1, .int (nI h0))]) hx hb dX1_lastOfRow_54 hl (by decide) rfl (fun ls hl => ?_)
                  refine lv_iload hx hb dX1_lastOfRow_56 (lv_at hl 0 rfl) ?_
                  refine lv_iconst (v := nI 1) hx hb dX1_lastOfRow_58 (by decide) ?_
                  refine lv_iadd hx hb dX1_lastOfRow_59 ?_
                  refine cr_top (y := nI ((min (min h0 1114111) (c0 / 4096 * 4096 + 4095)) + 1)) (nI_add (min (min h0 1114111) (c0 / 4096 * 4096 + 4095)) 1) ?_
                  refine lv_iload hx hb dX1_lastOfRow_60 (lv_at hl 1 rfl) ?_
                  refine lv_ineg hx hb dX1_lastOfRow_62 ?_
                  refine lv_iand hx hb dX1_lastOfRow_63 ?_
                  refine cr_top (y := nI ((min (min h0 1114111) (c0 / 4096 * 4096 + 4095) + 1) / 64 * 64)) (cr_neg64 (by omega)) ?_
                  refine lv_iconst (v := nI 1) hx hb dX1_lastOfRow_64 (by decide) ?_
                  refine lv_isub hx hb dX1_lastOfRow_65 ?_
                  refine lv_istore (lv' := [(7, .int ((nI ((min (min h0 1114111) (c0 / 4096 * 4096 + 4095) + 1) / 64 * 64)) - (nI 1))), (6, .int (nI (min (min h0 1114111) (c0 / 4096 * 4096 + 4095)))), (5, .int (nI 64)), (4, .int (nI 3)), (3, .int (nI (min h0 1114111))), (2, .int (nI 4)), (0, .int (nI c0)), (1, .int (nI h0))]) hx hb dX1_lastOfRow_66 hl (by decide) rfl (fun ls hl => ?_)
                  refine lv_iload_n hx hb dX1_lastOfRow_68 rfl (lv_at hl 6 rfl) ?_
                  refine lv_iload hx hb dX1_lastOfRow_69 (lv_at hl 2 rfl) ?_
                  refine lv_iconst (v := nI 1) hx hb dX1_lastOfRow_71 (by decide) ?_
                  refine lv_isub hx hb dX1_lastOfRow_72 ?_
                  refine cr_top (y := nI 63) (by decide) ?_
                  refine lv_iand hx hb dX1_lastOfRow_73 ?_
                  refine cr_top (y := nI (c0 % 64)) (cr_and63 (by omega)) ?_
                  refine lv_if_ne (tgt := 86) hx hb dX1_lastOfRow_74 (by decide) (fun c_74 => ?_) (fun c_74 => ?_)
                  · rw [show (0 : Int32) = nI 0 from rfl, nI_eq (by omega) (by omega)] at c_74
                    refine lv_iinc (v := nI 4) (lv' := [(4, .int (nI 4)), (7, .int ((nI ((min (min h0 1114111) (c0 / 4096 * 4096 + 4095) + 1) / 64 * 64)) - (nI 1))), (6, .int (nI (min (min h0 1114111) (c0 / 4096 * 4096 + 4095)))), (5, .int (nI 64)), (3, .int (nI (min h0 1114111))), (2, .int (nI 4)), (0, .int (nI c0)), (1, .int (nI h0))]) hx hb dX1_lastOfRow_86 hl (k := 3) rfl (by decide) (by decide) rfl (fun ls hl => ?_)
                    refine lv_goto (tgt := 24) hx hb dX1_lastOfRow_89 (by decide) ?_
                    refine lv_iload hx hb dX1_lastOfRow_24 (lv_at hl 0 rfl) ?_
                    refine lv_iload_n hx hb dX1_lastOfRow_26 rfl (lv_at hl 5 rfl) ?_
                    refine lv_icmp_ge (tgt := 92) hx hb dX1_lastOfRow_27 (by decide) (fun c_27 => ?_) (fun c_27 => ?_)
                    · refine lv_iload_n hx hb dX1_lastOfRow_92 rfl (lv_at hl 4 rfl) ?_
                      refine lv_iload_n hx hb dX1_lastOfRow_93 rfl (lv_at hl 6 rfl) ?_
                      refine lv_bipush (v := nI 63) hx hb dX1_lastOfRow_94 (by decide) ?_
                      refine lv_ior hx hb dX1_lastOfRow_96 ?_
                      refine cr_top (y := nI (c0 / 64 * 64 + 63)) (cr_or63 c0) ?_
                      refine va_mmin hx hb (hml.trans hl.1.symm) hown (hts (.methodLink RX1 95 Lib.Math.min.name) (by decide +kernel)) (hts (.static Lib.Math.min.name) (by decide +kernel)) (hts (.initialized "java/lang/Math") (by decide +kernel)) (hts (.code Lib.Math.min.name Lib.Math.min.code 2 (some .int)) (by decide +kernel)) (Nat.le_of_ble_eq_true rfl) (Nat.le_of_ble_eq_true rfl) (Nat.zero_le _) (Nat.zero_le _) dX1_lastOfRow_97 ?_
                      refine cr_top (y := nI (min (min h0 1114111) (c0 / 64 * 64 + 63))) (cr_min _ _ (by omega) (by omega)) ?_
                      exact W.iret (v := nI (min (min h0 1114111) (c0 / 64 * 64 + 63))) hx hb hr (fun t9 ht9 hW9 => ⟨⟨nI (min (min h0 1114111) (c0 / 64 * 64 + 63)), [], rfl, ⟨rfl, by rw [cr_last4 (by omega), cr_e262144, cr_e4096, cr_e64, if_neg (by omega), if_neg (by omega), if_neg (by omega)]⟩, by rw [ht9]; exact hP, va_K.moved hW9.alike hK, hD⟩, hS.F ht9⟩) hS.2.2 dX1_lastOfRow_100
                    · exact absurd (by decide) c_27
                  · rw [show (0 : Int32) = nI 0 from rfl, nI_eq (by omega) (by omega)] at c_74
                    refine lv_iload hx hb dX1_lastOfRow_77 (lv_at hl 0 rfl) ?_
                    refine lv_iload_n hx hb dX1_lastOfRow_79 rfl (lv_at hl 6 rfl) ?_
                    refine lv_icmp_lt (tgt := 86) hx hb dX1_lastOfRow_80 (by decide) (fun c_80 => ?_) (fun c_80 => ?_)
                    · rw [Int32.lt_iff_toInt_lt, pk_sub_toInt (by omega) (by omega), nI_toInt (by omega)] at c_80
                      refine lv_iinc (v := nI 4) (lv' := [(4, .int (nI 4)), (7, .int ((nI ((min (min h0 1114111) (c0 / 4096 * 4096 + 4095) + 1) / 64 * 64)) - (nI 1))), (6, .int (nI (min (min h0 1114111) (c0 / 4096 * 4096 + 4095)))), (5, .int (nI 64)), (3, .int (nI (min h0 1114111))), (2, .int (nI 4)), (0, .int (nI c0)), (1, .int (nI h0))]) hx hb dX1_lastOfRow_86 hl (k := 3) rfl (by decide) (by decide) rfl (fun ls hl => ?_)
                      refine lv_goto (tgt := 24) hx hb dX1_lastOfRow_89 (by decide) ?_
                      refine lv_iload hx hb dX1_lastOfRow_24 (lv_at hl 0 rfl) ?_
                      refine lv_iload_n hx hb dX1_lastOfRow_26 rfl (lv_at hl 5 rfl) ?_
                      refine lv_icmp_ge (tgt := 92) hx hb dX1_lastOfRow_27 (by decide) (fun c_27 => ?_) (fun c_27 => ?_)
                      · refine lv_iload_n hx hb dX1_lastOfRow_92 rfl (lv_at hl 4 rfl) ?_
                        refine lv_iload_n hx hb dX1_lastOfRow_93 rfl (lv_at hl 6 rfl) ?_
                        refine lv_bipush (v := nI 63) hx hb dX1_lastOfRow_94 (by decide) ?_
                        refine lv_ior hx hb dX1_lastOfRow_96 ?_
                        refine cr_top (y := nI (c0 / 64 * 64 + 63)) (cr_or63 c0) ?_
                        refine va_mmin hx hb (hml.trans hl.1.symm) hown (hts (.methodLink RX1 95 Lib.Math.min.name) (by decide +kernel)) (hts (.static Lib.Math.min.name) (by decide +kernel)) (hts (.initialized "java/lang/Math") (by decide +kernel)) (hts (.code Lib.Math.min.name Lib.Math.min.code 2 (some .int)) (by decide +kernel)) (Nat.le_of_ble_eq_true rfl) (Nat.le_of_ble_eq_true rfl) (Nat.zero_le _) (Nat.zero_le _) dX1_lastOfRow_97 ?_
                        refine cr_top (y := nI (min (min h0 1114111) (c0 / 64 * 64 + 63))) (cr_min _ _ (by omega) (by omega)) ?_
                        exact W.iret (v := nI (min (min h0 1114111) (c0 / 64 * 64 + 63))) hx hb hr (fun t9 ht9 hW9 => ⟨⟨nI (min (min h0 1114111) (c0 / 64 * 64 + 63)), [], rfl, ⟨rfl, by rw [cr_last4 (by omega), cr_e262144, cr_e4096, cr_e64, if_neg (by omega), if_neg (by omega), if_neg (by omega)]⟩, by rw [ht9]; exact hP, va_K.moved hW9.alike hK, hD⟩, hS.F ht9⟩) hS.2.2 dX1_lastOfRow_100
                      · exact absurd (by decide) c_27
                    · rw [Int32.lt_iff_toInt_lt, pk_sub_toInt (by omega) (by omega), nI_toInt (by omega)] at c_80
                      refine lv_iload hx hb dX1_lastOfRow_83 (lv_at hl 0 rfl) ?_
                      exact W.iret (v := (nI ((min (min h0 1114111) (c0 / 4096 * 4096 + 4095) + 1) / 64 * 64)) - (nI 1)) hx hb hr (fun t9 ht9 hW9 => ⟨⟨(nI ((min (min h0 1114111) (c0 / 4096 * 4096 + 4095) + 1) / 64 * 64)) - (nI 1), [], rfl, ⟨rfl, by rw [cr_last4 (by omega), cr_e262144, cr_e4096, cr_e64, if_neg (by omega), if_neg (by omega), if_pos (by omega)]; exact pk_sub (by omega)⟩, by rw [ht9]; exact hP, va_K.moved hW9.alike hK, hD⟩, hS.F ht9⟩) hS.2.2 dX1_lastOfRow_85
              · rw [Int32.lt_iff_toInt_lt, pk_sub_toInt (by omega) (by omega), nI_toInt (by omega)] at c_80
                refine lv_iload hx hb dX1_lastOfRow_83 (lv_at hl 0 rfl) ?_
                exact W.iret (v := (nI ((min (min h0 1114111) (c0 / 262144 * 262144 + 262143) + 1) / 4096 * 4096)) - (nI 1)) hx hb hr (fun t9 ht9 hW9 => ⟨⟨(nI ((min (min h0 1114111) (c0 / 262144 * 262144 + 262143) + 1) / 4096 * 4096)) - (nI 1), [], rfl, ⟨rfl, by rw [cr_last4 (by omega), cr_e262144, cr_e4096, cr_e64, if_neg (by omega), if_pos (by omega)]; exact pk_sub (by omega)⟩, by rw [ht9]; exact hP, va_K.moved hW9.alike hK, hD⟩, hS.F ht9⟩) hS.2.2 dX1_lastOfRow_85
        · rw [show (0 : Int32) = nI 0 from rfl, nI_eq (by omega) (by omega)] at c_74
          refine lv_iload hx hb dX1_lastOfRow_77 (lv_at hl 0 rfl) ?_
          refine lv_iload_n hx hb dX1_lastOfRow_79 rfl (lv_at hl 6 rfl) ?_
          refine lv_icmp_lt (tgt := 86) hx hb dX1_lastOfRow_80 (by decide) (fun c_80 => ?_) (fun c_80 => ?_)
          · rw [Int32.lt_iff_toInt_lt, pk_sub_toInt (by omega) (by omega), nI_toInt (by omega)] at c_80
            refine lv_iinc (v := nI 2) (lv' := [(4, .int (nI 2)), (7, .int ((nI ((min (min h0 1114111) (c0 / 16777216 * 16777216 + 16777215) + 1) / 262144 * 262144)) - (nI 1))), (6, .int (nI (min (min h0 1114111) (c0 / 16777216 * 16777216 + 16777215)))), (5, .int (nI 262144)), (3, .int (nI (min h0 1114111))), (2, .int (nI 4)), (0, .int (nI c0)), (1, .int (nI h0))]) hx hb dX1_lastOfRow_86 hl (k := 3) rfl (by decide) (by decide) rfl (fun ls hl => ?_)
            refine lv_goto (tgt := 24) hx hb dX1_lastOfRow_89 (by decide) ?_
            refine lv_iload hx hb dX1_lastOfRow_24 (lv_at hl 0 rfl) ?_
            refine lv_iload_n hx hb dX1_lastOfRow_26 rfl (lv_at hl 5 rfl) ?_
            refine lv_icmp_ge (tgt := 92) hx hb dX1_lastOfRow_27 (by decide) (fun c_27 => ?_) (fun c_27 => ?_)
            · exact absurd c_27 (by decide)
            · refine lv_iconst (v := nI 1) hx hb dX1_lastOfRow_30 (by decide) ?_
              refine lv_bipush (v := nI 6) hx hb dX1_lastOfRow_31 (by decide) ?_
              refine lv_iload_n hx hb dX1_lastOfRow_33 rfl (lv_at hl 5 rfl) ?_
              refine lv_iload hx hb dX1_lastOfRow_34 (lv_at hl 0 rfl) ?_
              refine lv_isub hx hb dX1_lastOfRow_36 ?_
              refine cr_top (y := nI 2) (by decide) ?_
              refine lv_imul hx hb dX1_lastOfRow_37 ?_
              refine cr_top (y := nI 12) (by decide) ?_
              refine lv_ishl hx hb dX1_lastOfRow_38 ?_
              refine cr_top (y := nI 4096) (by decide) ?_
              refine lv_istore (lv' := [(5, .int (nI 4096)), (4, .int (nI 2)), (7, .int ((nI ((min (min h0 1114111) (c0 / 16777216 * 16777216 + 16777215) + 1) / 262144 * 262144)) - (nI 1))), (6, .int (nI (min (min h0 1114111) (c0 / 16777216 * 16777216 + 16777215)))), (3, .int (nI (min h0 1114111))), (2, .int (nI 4)), (0, .int (nI c0)), (1, .int (nI h0))]) hx hb dX1_lastOfRow_39 hl (by decide) rfl (fun ls hl => ?_)
              refine lv_iload_n hx hb dX1_lastOfRow_41 rfl (lv_at hl 4 rfl) ?_
              refine lv_iload_n hx hb dX1_lastOfRow_42 rfl (lv_at hl 6 rfl) ?_
              refine lv_bipush (v := nI 64) hx hb dX1_lastOfRow_43 (by decide) ?_
              refine lv_iload hx hb dX1_lastOfRow_45 (lv_at hl 0 rfl) ?_
              refine lv_imul hx hb dX1_lastOfRow_47 ?_
              refine cr_top (y := nI 262144) (by decide) ?_
              refine lv_iconst (v := nI 1) hx hb dX1_lastOfRow_48 (by decide) ?_
              refine lv_isub hx hb dX1_lastOfRow_49 ?_
              refine cr_top (y := nI 262143) (by decide) ?_
              refine lv_ior hx hb dX1_lastOfRow_50 ?_
              refine cr_top (y := nI (c0 / 262144 * 262144 + 262143)) (cr_or262143 c0) ?_
              refine va_mmin hx hb (hml.trans hl.1.symm) hown (hts (.methodLink RX1 95 Lib.Math.min.name) (by decide +kernel)) (hts (.static Lib.Math.min.name) (by decide +kernel)) (hts (.initialized "java/lang/Math") (by decide +kernel)) (hts (.code Lib.Math.min.name Lib.Math.min.code 2 (some .int)) (by decide +kernel)) (Nat.le_of_ble_eq_true rfl) (Nat.le_of_ble_eq_true rfl) (Nat.zero_le _) (Nat.zero_le _) dX1_lastOfRow_51 ?_
              refine cr_top (y := nI (min (min h0 1114111) (c0 / 262144 * 262144 + 262143))) (cr_min _ _ (by omega) (by omega)) ?_
              refine lv_istore (lv' := [(6, .int (nI (min (min h0 1114111) (c0 / 262144 * 262144 + 262143)))), (5, .int (nI 4096)), (4, .int (nI 2)), (7, .int ((nI ((min (min h0 1114111) (c0 / 16777216 * 16777216 + 16777215) + 1) / 262144 * 262144)) - (nI 1))), (3, .int (nI (min h0 1114111))), (2, .int (nI 4)), (0, .int (nI c0)), (1, .int (nI h0))]) hx hb dX1_lastOfRow_54 hl (by decide) rfl (fun ls hl => ?_)
              refine lv_iload hx hb dX1_lastOfRow_56 (lv_at hl 0 rfl) ?_
              refine lv_iconst (v := nI 1) hx hb dX1_lastOfRow_58 (by decide) ?_
              refine lv_iadd hx hb dX1_lastOfRow_59 ?_
              refine cr_top (y := nI ((min (min h0 1114111) (c0 / 262144 * 262144 + 262143)) + 1)) (nI_add (min (min h0 1114111) (c0 / 262144 * 262144 + 262143)) 1) ?_
              refine lv_iload hx hb dX1_lastOfRow_60 (lv_at hl 1 rfl) ?_
              refine lv_ineg hx hb dX1_lastOfRow_62 ?_
              refine lv_iand hx hb dX1_lastOfRow_63 ?_
              refine cr_top (y := nI ((min (min h0 1114111) (c0 / 262144 * 262144 + 262143) + 1) / 4096 * 4096)) (cr_neg4096 (by omega)) ?_
              refine lv_iconst (v := nI 1) hx hb dX1_lastOfRow_64 (by decide) ?_
              refine lv_isub hx hb dX1_lastOfRow_65 ?_
              refine lv_istore (lv' := [(7, .int ((nI ((min (min h0 1114111) (c0 / 262144 * 262144 + 262143) + 1) / 4096 * 4096)) - (nI 1))), (6, .int (nI (min (min h0 1114111) (c0 / 262144 * 262144 + 262143)))), (5, .int (nI 4096)), (4, .int (nI 2)), (3, .int (nI (min h0 1114111))), (2, .int (nI 4)), (0, .int (nI c0)), (1, .int (nI h0))]) hx hb dX1_lastOfRow_66 hl (by decide) rfl (fun ls hl => ?_)
              refine lv_iload_n hx hb dX1_lastOfRow_68 rfl (lv_at hl 6 rfl) ?_
              refine lv_iload hx hb dX1_lastOfRow_69 (lv_at hl 2 rfl) ?_
              refine lv_iconst (v := nI 1) hx hb dX1_lastOfRow_71 (by decide) ?_
              refine lv_isub hx hb dX1_lastOfRow_72 ?_
              refine cr_top (y := nI 4095) (by decide) ?_
              refine lv_iand hx hb dX1_lastOfRow_73 ?_
              refine cr_top (y := nI (c0 % 4096)) (cr_and4095 (by omega)) ?_
              refine lv_if_ne (tgt := 86) hx hb dX1_lastOfRow_74 (by decide) (fun c_74 => ?_) (fun c_74 => ?_)
              · rw [show (0 : Int32) = nI 0 from rfl, nI_eq (by omega) (by omega)] at c_74
                refine lv_iinc (v := nI 3) (lv' := [(4, .int (nI 3)), (7, .int ((nI ((min (min h0 1114111) (c0 / 262144 * 262144 + 262143) + 1) / 4096 * 4096)) - (nI 1))), (6, .int (nI (min (min h0 1114111) (c0 / 262144 * 262144 + 262143)))), (5, .int (nI 4096)), (3, .int (nI (min h0 1114111))), (2, .int (nI 4)), (0, .int (nI c0)), (1, .int (nI h0))]) hx hb dX1_lastOfRow_86 hl (k := 3) rfl (by decide) (by decide) rfl (fun ls hl => ?_)
                refine lv_goto (tgt := 24) hx hb dX1_lastOfRow_89 (by decide) ?_
                refine lv_iload hx hb dX1_lastOfRow_24 (lv_at hl 0 rfl) ?_
                refine lv_iload_n hx hb dX1_lastOfRow_26 rfl (lv_at hl 5 rfl) ?_
                refine lv_icmp_ge (tgt := 92) hx hb dX1_lastOfRow_27 (by decide) (fun c_27 => ?_) (fun c_27 => ?_)
                · exact absurd c_27 (by decide)
                · refine lv_iconst (v := nI 1) hx hb dX1_lastOfRow_30 (by decide) ?_
                  refine lv_bipush (v := nI 6) hx hb dX1_lastOfRow_31 (by decide) ?_
                  refine lv_iload_n hx hb dX1_lastOfRow_33 rfl (lv_at hl 5 rfl) ?_
                  refine lv_iload hx hb dX1_lastOfRow_34 (lv_at hl 0 rfl) ?_
                  refine lv_isub hx hb dX1_lastOfRow_36 ?_
                  refine cr_top (y := nI 1) (by decide) ?_
                  refine lv_imul hx hb dX1_lastOfRow_37 ?_
                  refine cr_top (y := nI 6) (by decide) ?_
                  refine lv_ishl hx hb dX1_lastOfRow_38 ?_
                  refine cr_top (y := nI 64) (by decide) ?_
                  refine lv_istore (lv' := [(5, .int (nI 64)), (4, .int (nI 3)), (7, .int ((nI ((min (min h0 1114111) (c0 / 262144 * 262144 + 262143) + 1) / 4096 * 4096)) - (nI 1))), (6, .int (nI (min (min h0 1114111) (c0 / 262144 * 262144 + 262143)))), (3, .int (nI (min h0 1114111))), (2, .int (nI 4)), (0, .int (nI c0)), (1, .int (nI h0))]) hx hb dX1_lastOfRow_39 hl (by decide) rfl (fun ls hl => ?_)
                  refine lv_iload_n hx hb dX1_lastOfRow_41 rfl (lv_at hl 4 rfl) ?_
                  refine lv_iload_n hx hb dX1_lastOfRow_42 rfl (lv_at hl 6 rfl) ?_
                  refine lv_bipush (v := nI 64) hx hb dX1_lastOfRow_43 (by decide) ?_
                  refine lv_iload hx hb dX1_lastOfRow_45 (lv_at hl 0 rfl) ?_
                  refine lv_imul hx hb dX1_lastOfRow_47 ?_
                  refine cr_top (y := nI 4096) (by decide) ?_
                  refine lv_iconst (v := nI 1) hx hb dX1_lastOfRow_48 (by decide) ?_
                  refine lv_isub hx hb dX1_lastOfRow_49 ?_
                  refine cr_top (y := nI 4095) (by decide) ?_
                  refine lv_ior hx hb dX1_lastOfRow_50 ?_
                  refine cr_top (y := nI (c0 / 4096 * 4096 + 4095)) (cr_or4095 c0) ?_
                  refine va_mmin hx hb (hml.trans hl.1.symm) hown (hts (.methodLink RX1 95 Lib.Math.min.name) (by decide +kernel)) (hts (.static Lib.Math.min.name) (by decide +kernel)) (hts (.initialized "java/lang/Math") (by decide +kernel)) (hts (.code Lib.Math.min.name Lib.Math.min.code 2 (some .int)) (by decide +kernel)) (Nat.le_of_ble_eq_true rfl) (Nat.le_of_ble_eq_true rfl) (Nat.zero_le _) (Nat.zero_le _) dX1_lastOfRow_51 ?_
                  refine cr_top (y := nI (min (min h0 1114111) (c0 / 4096 * 4096 + 4095))) (cr_min _ _ (by omega) (by omega)) ?_
                  refine lv_istore (lv' := [(6, .int (nI (min (min h0 1114111) (c0 / 4096 * 4096 + 4095)))), (5, .int (nI 64)), (4, .int (nI 3)), (7, .int ((nI ((min (min h0 1114111) (c0 / 262144 * 262144 + 262143) + 1) / 4096 * 4096)) - (nI 1))), (3, .int (nI (min h0 1114111))), (2, .int (nI 4)), (0, .int (nI c0)), (1, .int (nI h0))]) hx hb dX1_lastOfRow_54 hl (by decide) rfl (fun ls hl => ?_)
                  refine lv_iload hx hb dX1_lastOfRow_56 (lv_at hl 0 rfl) ?_
                  refine lv_iconst (v := nI 1) hx hb dX1_lastOfRow_58 (by decide) ?_
                  refine lv_iadd hx hb dX1_lastOfRow_59 ?_
                  refine cr_top (y := nI ((min (min h0 1114111) (c0 / 4096 * 4096 + 4095)) + 1)) (nI_add (min (min h0 1114111) (c0 / 4096 * 4096 + 4095)) 1) ?_
                  refine lv_iload hx hb dX1_lastOfRow_60 (lv_at hl 1 rfl) ?_
                  refine lv_ineg hx hb dX1_lastOfRow_62 ?_
                  refine lv_iand hx hb dX1_lastOfRow_63 ?_
                  refine cr_top (y := nI ((min (min h0 1114111) (c0 / 4096 * 4096 + 4095) + 1) / 64 * 64)) (cr_neg64 (by omega)) ?_
                  refine lv_iconst (v := nI 1) hx hb dX1_lastOfRow_64 (by decide) ?_
                  refine lv_isub hx hb dX1_lastOfRow_65 ?_
                  refine lv_istore (lv' := [(7, .int ((nI ((min (min h0 1114111) (c0 / 4096 * 4096 + 4095) + 1) / 64 * 64)) - (nI 1))), (6, .int (nI (min (min h0 1114111) (c0 / 4096 * 4096 + 4095)))), (5, .int (nI 64)), (4, .int (nI 3)), (3, .int (nI (min h0 1114111))), (2, .int (nI 4)), (0, .int (nI c0)), (1, .int (nI h0))]) hx hb dX1_lastOfRow_66 hl (by decide) rfl (fun ls hl => ?_)
                  refine lv_iload_n hx hb dX1_lastOfRow_68 rfl (lv_at hl 6 rfl) ?_
                  refine lv_iload hx hb dX1_lastOfRow_69 (lv_at hl 2 rfl) ?_
                  refine lv_iconst (v := nI 1) hx hb dX1_lastOfRow_71 (by decide) ?_
                  refine lv_isub hx hb dX1_lastOfRow_72 ?_
                  refine cr_top (y := nI 63) (by decide) ?_
                  refine lv_iand hx hb dX1_lastOfRow_73 ?_
                  refine cr_top (y := nI (c0 % 64)) (cr_and63 (by omega)) ?_
                  refine lv_if_ne (tgt := 86) hx hb dX1_lastOfRow_74 (by decide) (fun c_74 => ?_) (fun c_74 => ?_)
                  · rw [show (0 : Int32) = nI 0 from rfl, nI_eq (by omega) (by omega)] at c_74
                    refine lv_iinc (v := nI 4) (lv' := [(4, .int (nI 4)), (7, .int ((nI ((min (min h0 1114111) (c0 / 4096 * 4096 + 4095) + 1) / 64 * 64)) - (nI 1))), (6, .int (nI (min (min h0 1114111) (c0 / 4096 * 4096 + 4095)))), (5, .int (nI 64)), (3, .int (nI (min h0 1114111))), (2, .int (nI 4)), (0, .int (nI c0)), (1, .int (nI h0))]) hx hb dX1_lastOfRow_86 hl (k := 3) rfl (by decide) (by decide) rfl (fun ls hl => ?_)
                    refine lv_goto (tgt := 24) hx hb dX1_lastOfRow_89 (by decide) ?_
                    refine lv_iload hx hb dX1_lastOfRow_24 (lv_at hl 0 rfl) ?_
                    refine lv_iload_n hx hb dX1_lastOfRow_26 rfl (lv_at hl 5 rfl) ?_
                    refine lv_icmp_ge (tgt := 92) hx hb dX1_lastOfRow_27 (by decide) (fun c_27 => ?_) (fun c_27 => ?_)
                    · refine lv_iload_n hx hb dX1_lastOfRow_92 rfl (lv_at hl 4 rfl) ?_
                      refine lv_iload_n hx hb dX1_lastOfRow_93 rfl (lv_at hl 6 rfl) ?_
                      refine lv_bipush (v := nI 63) hx hb dX1_lastOfRow_94 (by decide) ?_
                      refine lv_ior hx hb dX1_lastOfRow_96 ?_
                      refine cr_top (y := nI (c0 / 64 * 64 + 63)) (cr_or63 c0) ?_
                      refine va_mmin hx hb (hml.trans hl.1.symm) hown (hts (.methodLink RX1 95 Lib.Math.min.name) (by decide +kernel)) (hts (.static Lib.Math.min.name) (by decide +kernel)) (hts (.initialized "java/lang/Math") (by decide +kernel)) (hts (.code Lib.Math.min.name Lib.Math.min.code 2 (some .int)) (by decide +kernel)) (Nat.le_of_ble_eq_true rfl) (Nat.le_of_ble_eq_true rfl) (Nat.zero_le _) (Nat.zero_le _) dX1_lastOfRow_97 ?_
                      refine cr_top (y := nI (min (min h0 1114111) (c0 / 64 * 64 + 63))) (cr_min _ _ (by omega) (by omega)) ?_
                      exact W.iret (v := nI (min (min h0 1114111) (c0 / 64 * 64 + 63))) hx hb hr (fun t9 ht9 hW9 => ⟨⟨nI (min (min h0 1114111) (c0 / 64 * 64 + 63)), [], rfl, ⟨rfl, by rw [cr_last4 (by omega), cr_e262144, cr_e4096, cr_e64, if_neg (by omega), if_neg (by omega), if_neg (by omega)]⟩, by rw [ht9]; exact hP, va_K.moved hW9.alike hK, hD⟩, hS.F ht9⟩) hS.2.2 dX1_lastOfRow_100
                    · exact absurd (by decide) c_27
                  · rw [show (0 : Int32) = nI 0 from rfl, nI_eq (by omega) (by omega)] at c_74
                    refine lv_iload hx hb dX1_lastOfRow_77 (lv_at hl 0 rfl) ?_
                    refine lv_iload_n hx hb dX1_lastOfRow_79 rfl (lv_at hl 6 rfl) ?_
                    refine lv_icmp_lt (tgt := 86) hx hb dX1_lastOfRow_80 (by decide) (fun c_80 => ?_) (fun c_80 => ?_)
                    · rw [Int32.lt_iff_toInt_lt, pk_sub_toInt (by omega) (by omega), nI_toInt (by omega)] at c_80
                      refine lv_iinc (v := nI 4) (lv' := [(4, .int (nI 4)), (7, .int ((nI ((min (min h0 1114111) (c0 / 4096 * 4096 + 4095) + 1) / 64 * 64)) - (nI 1))), (6, .int (nI (min (min h0 1114111) (c0 / 4096 * 4096 + 4095)))), (5, .int (nI 64)), (3, .int (nI (min h0 1114111))), (2, .int (nI 4)), (0, .int (nI c0)), (1, .int (nI h0))]) hx hb dX1_lastOfRow_86 hl (k := 3) rfl (by decide) (by decide) rfl (fun ls hl => ?_)
                      refine lv_goto (tgt := 24) hx hb dX1_lastOfRow_89 (by decide) ?_
                      refine lv_iload hx hb dX1_lastOfRow_24 (lv_at hl 0 rfl) ?_
                      refine lv_iload_n hx hb dX1_lastOfRow_26 rfl (lv_at hl 5 rfl) ?_
                      refine lv_icmp_ge (tgt := 92) hx hb dX1_lastOfRow_27 (by decide) (fun c_27 => ?_) (fun c_27 => ?_)
                      · refine lv_iload_n hx hb dX1_lastOfRow_92 rfl (lv_at hl 4 rfl) ?_
                        refine lv_iload_n hx hb dX1_lastOfRow_93 rfl (lv_at hl 6 rfl) ?_
                        refine lv_bipush (v := nI 63) hx hb dX1_lastOfRow_94 (by decide) ?_
                        refine lv_ior hx hb dX1_lastOfRow_96 ?_
                        refine cr_top (y := nI (c0 / 64 * 64 + 63)) (cr_or63 c0) ?_
                        refine va_mmin hx hb (hml.trans hl.1.symm) hown (hts (.methodLink RX1 95 Lib.Math.min.name) (by decide +kernel)) (hts (.static Lib.Math.min.name) (by decide +kernel)) (hts (.initialized "java/lang/Math") (by decide +kernel)) (hts (.code Lib.Math.min.name Lib.Math.min.code 2 (some .int)) (by decide +kernel)) (Nat.le_of_ble_eq_true rfl) (Nat.le_of_ble_eq_true rfl) (Nat.zero_le _) (Nat.zero_le _) dX1_lastOfRow_97 ?_
                        refine cr_top (y := nI (min (min h0 1114111) (c0 / 64 * 64 + 63))) (cr_min _ _ (by omega) (by omega)) ?_
                        exact W.iret (v := nI (min (min h0 1114111) (c0 / 64 * 64 + 63))) hx hb hr (fun t9 ht9 hW9 => ⟨⟨nI (min (min h0 1114111) (c0 / 64 * 64 + 63)), [], rfl, ⟨rfl, by rw [cr_last4 (by omega), cr_e262144, cr_e4096, cr_e64, if_neg (by omega), if_neg (by omega), if_neg (by omega)]⟩, by rw [ht9]; exact hP, va_K.moved hW9.alike hK, hD⟩, hS.F ht9⟩) hS.2.2 dX1_lastOfRow_100
                      · exact absurd (by decide) c_27
                    · rw [Int32.lt_iff_toInt_lt, pk_sub_toInt (by omega) (by omega), nI_toInt (by omega)] at c_80
                      refine lv_iload hx hb dX1_lastOfRow_83 (lv_at hl 0 rfl) ?_
                      exact W.iret (v := (nI ((min (min h0 1114111) (c0 / 4096 * 4096 + 4095) + 1) / 64 * 64)) - (nI 1)) hx hb hr (fun t9 ht9 hW9 => ⟨⟨(nI ((min (min h0 1114111) (c0 / 4096 * 4096 + 4095) + 1) / 64 * 64)) - (nI 1), [], rfl, ⟨rfl, by rw [cr_last4 (by omega), cr_e262144, cr_e4096, cr_e64, if_neg (by omega), if_neg (by omega), if_pos (by omega)]; exact pk_sub (by omega)⟩, by rw [ht9]; exact hP, va_K.moved hW9.alike hK, hD⟩, hS.F ht9⟩) hS.2.2 dX1_lastOfRow_85
              · rw [show (0 : Int32) = nI 0 from rfl, nI_eq (by omega) (by omega)] at c_74
                refine lv_iload hx hb dX1_lastOfRow_77 (lv_at hl 0 rfl) ?_
                refine lv_iload_n hx hb dX1_lastOfRow_79 rfl (lv_at hl 6 rfl) ?_
                refine lv_icmp_lt (tgt := 86) hx hb dX1_lastOfRow_80 (by decide) (fun c_80 => ?_) (fun c_80 => ?_)
                · rw [Int32.lt_iff_toInt_lt, pk_sub_toInt (by omega) (by omega), nI_toInt (by omega)] at c_80
                  refine lv_iinc (v := nI 3) (lv' := [(4, .int (nI 3)), (7, .int ((nI ((min (min h0 1114111) (c0 / 262144 * 262144 + 262143) + 1) / 4096 * 4096)) - (nI 1))), (6, .int (nI (min (min h0 1114111) (c0 / 262144 * 262144 + 262143)))), (5, .int (nI 4096)), (3, .int (nI (min h0 1114111))), (2, .int (nI 4)), (0, .int (nI c0)), (1, .int (nI h0))]) hx hb dX1_lastOfRow_86 hl (k := 3) rfl (by decide) (by decide) rfl (fun ls hl => ?_)
                  refine lv_goto (tgt := 24) hx hb dX1_lastOfRow_89 (by decide) ?_
                  refine lv_iload hx hb dX1_lastOfRow_24 (lv_at hl 0 rfl) ?_
                  refine lv_iload_n hx hb dX1_lastOfRow_26 rfl (lv_at hl 5 rfl) ?_
                  refine lv_icmp_ge (tgt := 92) hx hb dX1_lastOfRow_27 (by decide) (fun c_27 => ?_) (fun c_27 => ?_)
                  · exact absurd c_27 (by decide)
                  · refine lv_iconst (v := nI 1) hx hb dX1_lastOfRow_30 (by decide) ?_
                    refine lv_bipush (v := nI 6) hx hb dX1_lastOfRow_31 (by decide) ?_
                    refine lv_iload_n hx hb dX1_lastOfRow_33 rfl (lv_at hl 5 rfl) ?_
                    refine lv_iload hx hb dX1_lastOfRow_34 (lv_at hl 0 rfl) ?_
                    refine lv_isub hx hb dX1_lastOfRow_36 ?_
                    refine cr_top (y := nI 1) (by decide) ?_
                    refine lv_imul hx hb dX1_lastOfRow_37 ?_
                    refine cr_top (y := nI 6) (by decide) ?_
                    refine lv_ishl hx hb dX1_lastOfRow_38 ?_
                    refine cr_top (y := nI 64) (by decide) ?_
                    refine lv_istore (lv' := [(5, .int (nI 64)), (4, .int (nI 3)), (7, .int ((nI ((min (min h0 1114111) (c0 / 262144 * 262144 + 262143) + 1) / 4096 * 4096)) - (nI 1))), (6, .int (nI (min (min h0 1114111) (c0 / 262144 * 262144 + 262143)))), (3, .int (nI (min h0 1114111))), (2, .int (nI 4)), (0, .int (nI c0)), (1, .int (nI h0))]) hx hb dX1_lastOfRow_39 hl (by decide) rfl (fun ls hl => ?_)
                    refine lv_iload_n hx hb dX1_lastOfRow_41 rfl (lv_at hl 4 rfl) ?_
                    refine lv_iload_n hx hb dX1_lastOfRow_42 rfl (lv_at hl 6 rfl) ?_
                    refine lv_bipush (v := nI 64) hx hb dX1_lastOfRow_43 (by decide) ?_
                    refine lv_iload hx hb dX1_lastOfRow_45 (lv_at hl 0 rfl) ?_
                    refine lv_imul hx hb dX1_lastOfRow_47 ?_
                    refine cr_top (y := nI 4096) (by decide) ?_
                    refine lv_iconst (v := nI 1) hx hb dX1_lastOfRow_48 (by decide) ?_
                    refine lv_isub hx hb dX1_lastOfRow_49 ?_
                    refine cr_top (y := nI 4095) (by decide) ?_
                    refine lv_ior hx hb dX1_lastOfRow_50 ?_
                    refine cr_top (y := nI (c0 / 4096 * 4096 + 4095)) (cr_or4095 c0) ?_
                    refine va_mmin hx hb (hml.trans hl.1.symm) hown (hts (.methodLink RX1 95 Lib.Math.min.name) (by decide +kernel)) (hts (.static Lib.Math.min.name) (by decide +kernel)) (hts (.initialized "java/lang/Math") (by decide +kernel)) (hts (.code Lib.Math.min.name Lib.Math.min.code 2 (some .int)) (by decide +kernel)) (Nat.le_of_ble_eq_true rfl) (Nat.le_of_ble_eq_true rfl) (Nat.zero_le _) (Nat.zero_le _) dX1_lastOfRow_51 ?_
                    refine cr_top (y := nI (min (min h0 1114111) (c0 / 4096 * 4096 + 4095))) (cr_min _ _ (by omega) (by omega)) ?_
                    refine lv_istore (lv' := [(6, .int (nI (min (min h0 1114111) (c0 / 4096 * 4096 + 4095)))), (5, .int (nI 64)), (4, .int (nI 3)), (7, .int ((nI ((min (min h0 1114111) (c0 / 262144 * 262144 + 262143) + 1) / 4096 * 4096)) - (nI 1))), (3, .int (nI (min h0 1114111))), (2, .int (nI 4)), (0, .int (nI c0)), (1, .int (nI h0))]) hx hb dX1_lastOfRow_54 hl (by decide) rfl (fun ls hl => ?_)
                    refine lv_iload hx hb dX1_lastOfRow_56 (lv_at hl 0 rfl) ?_
                    refine lv_iconst (v := nI 1) hx hb dX1_lastOfRow_58 (by decide) ?_
                    refine lv_iadd hx hb dX1_lastOfRow_59 ?_
                    refine cr_top (y := nI ((min (min h0 1114111) (c0 / 4096 * 4096 + 4095)) + 1)) (nI_add (min (min h0 1114111) (c0 / 4096 * 4096 + 4095)) 1) ?_
                    refine lv_iload hx hb dX1_lastOfRow_60 (lv_at hl 1 rfl) ?_
                    refine lv_ineg hx hb dX1_lastOfRow_62 ?_
                    refine lv_iand hx hb dX1_lastOfRow_63 ?_
                    refine cr_top (y := nI ((min (min h0 1114111) (c0 / 4096 * 4096 + 4095) + 1) / 64 * 64)) (cr_neg64 (by omega)) ?_
                    refine lv_iconst (v := nI 1) hx hb dX1_lastOfRow_64 (by decide) ?_
                    refine lv_isub hx hb dX1_lastOfRow_65 ?_
                    refine lv_istore (lv' := [(7, .int ((nI ((min (min h0 1114111) (c0 / 4096 * 4096 + 4095) + 1) / 64 * 64)) - (nI 1))), (6, .int (nI (min (min h0 1114111) (c0 / 4096 * 4096 + 4095)))), (5, .int (nI 64)), (4, .int (nI 3)), (3, .int (nI (min h0 1114111))), (2, .int (nI 4)), (0, .int (nI c0)), (1, .int (nI h0))]) hx hb dX1_lastOfRow_66 hl (by decide) rfl (fun ls hl => ?_)
                    refine lv_iload_n hx hb dX1_lastOfRow_68 rfl (lv_at hl 6 rfl) ?_
                    refine lv_iload hx hb dX1_lastOfRow_69 (lv_at hl 2 rfl) ?_
                    refine lv_iconst (v := nI 1) hx hb dX1_lastOfRow_71 (by decide) ?_
                    refine lv_isub hx hb dX1_lastOfRow_72 ?_
                    refine cr_top (y := nI 63) (by decide) ?_
                    refine lv_iand hx hb dX1_lastOfRow_73 ?_
                    refine cr_top (y := nI (c0 % 64)) (cr_and63 (by omega)) ?_
                    refine lv_if_ne (tgt := 86) hx hb dX1_lastOfRow_74 (by decide) (fun c_74 => ?_) (fun c_74 => ?_)
                    · rw [show (0 : Int32) = nI 0 from rfl, nI_eq (by omega) (by omega)] at c_74
                      refine lv_iinc (v := nI 4) (lv' := [(4, .int (nI 4)), (7, .int ((nI ((min (min h0 1114111) (c0 / 4096 * 4096 + 4095) + 1) / 64 * 64)) - (nI 1))), (6, .int (nI (min (min h0 1114111) (c0 / 4096 * 4096 + 4095)))), (5, .int (nI 64)), (3, .int (nI (min h0 1114111))), (2, .int (nI 4)), (0, .int (nI c0)), (1, .int (nI h0))]) hx hb dX1_lastOfRow_86 hl (k := 3) rfl (by decide) (by decide) rfl (fun ls hl => ?_)
                      refine lv_goto (tgt := 24) hx hb dX1_lastOfRow_89 (by decide) ?_
                      refine lv_iload hx hb dX1_lastOfRow_24 (lv_at hl 0 rfl) ?_
                      refine lv_iload_n hx hb dX1_lastOfRow_26 rfl (lv_at hl 5 rfl) ?_
                      refine lv_icmp_ge (tgt := 92) hx hb dX1_lastOfRow_27 (by decide) (fun c_27 => ?_) (fun c_27 => ?_)
                      · refine lv_iload_n hx hb dX1_lastOfRow_92 rfl (lv_at hl 4 rfl) ?_
                        refine lv_iload_n hx hb dX1_lastOfRow_93 rfl (lv_at hl 6 rfl) ?_
                        refine lv_bipush (v := nI 63) hx hb dX1_lastOfRow_94 (by decide) ?_
                        refine lv_ior hx hb dX1_lastOfRow_96 ?_
                        refine cr_top (y := nI (c0 / 64 * 64 + 63)) (cr_or63 c0) ?_
                        refine va_mmin hx hb (hml.trans hl.1.symm) hown (hts (.methodLink RX1 95 Lib.Math.min.name) (by decide +kernel)) (hts (.static Lib.Math.min.name) (by decide +kernel)) (hts (.initialized "java/lang/Math") (by decide +kernel)) (hts (.code Lib.Math.min.name Lib.Math.min.code 2 (some .int)) (by decide +kernel)) (Nat.le_of_ble_eq_true rfl) (Nat.le_of_ble_eq_true rfl) (Nat.zero_le _) (Nat.zero_le _) dX1_lastOfRow_97 ?_
                        refine cr_top (y := nI (min (min h0 1114111) (c0 / 64 * 64 + 63))) (cr_min _ _ (by omega) (by omega)) ?_
                        exact W.iret (v := nI (min (min h0 1114111) (c0 / 64 * 64 + 63))) hx hb hr (fun t9 ht9 hW9 => ⟨⟨nI (min (min h0 1114111) (c0 / 64 * 64 + 63)), [], rfl, ⟨rfl, by rw [cr_last4 (by omega), cr_e262144, cr_e4096, cr_e64, if_neg (by omega), if_neg (by omega), if_neg (by omega)]⟩, by rw [ht9]; exact hP, va_K.moved hW9.alike hK, hD⟩, hS.F ht9⟩) hS.2.2 dX1_lastOfRow_100
                      · exact absurd (by decide) c_27
                    · rw [show (0 : Int32) = nI 0 from rfl, nI_eq (by omega) (by omega)] at c_74
                      refine lv_iload hx hb dX1_lastOfRow_77 (lv_at hl 0 rfl) ?_
                      refine lv_iload_n hx hb dX1_lastOfRow_79 rfl (lv_at hl 6 rfl) ?_
                      refine lv_icmp_lt (tgt := 86) hx hb dX1_lastOfRow_80 (by decide) (fun c_80 => ?_) (fun c_80 => ?_)
                      · rw [Int32.lt_iff_toInt_lt, pk_sub_toInt (by omega) (by omega), nI_toInt (by omega)] at c_80
                        refine lv_iinc (v := nI 4) (lv' := [(4, .int (nI 4)), (7, .int ((nI ((min (min h0 1114111) (c0 / 4096 * 4096 + 4095) + 1) / 64 * 64)) - (nI 1))), (6, .int (nI (min (min h0 1114111) (c0 / 4096 * 4096 + 4095)))), (5, .int (nI 64)), (3, .int (nI (min h0 1114111))), (2, .int (nI 4)), (0, .int (nI c0)), (1, .int (nI h0))]) hx hb dX1_lastOfRow_86 hl (k := 3) rfl (by decide) (by decide) rfl (fun ls hl => ?_)
                        refine lv_goto (tgt := 24) hx hb dX1_lastOfRow_89 (by decide) ?_
                        refine lv_iload hx hb dX1_lastOfRow_24 (lv_at hl 0 rfl) ?_
                        refine lv_iload_n hx hb dX1_lastOfRow_26 rfl (lv_at hl 5 rfl) ?_
                        refine lv_icmp_ge (tgt := 92) hx hb dX1_lastOfRow_27 (by decide) (fun c_27 => ?_) (fun c_27 => ?_)
                        · refine lv_iload_n hx hb dX1_lastOfRow_92 rfl (lv_at hl 4 rfl) ?_
                          refine lv_iload_n hx hb dX1_lastOfRow_93 rfl (lv_at hl 6 rfl) ?_
                          refine lv_bipush (v := nI 63) hx hb dX1_lastOfRow_94 (by decide) ?_
                          refine lv_ior hx hb dX1_lastOfRow_96 ?_
                          refine cr_top (y := nI (c0 / 64 * 64 + 63)) (cr_or63 c0) ?_
                          refine va_mmin hx hb (hml.trans hl.1.symm) hown (hts (.methodLink RX1 95 Lib.Math.min.name) (by decide +kernel)) (hts (.static Lib.Math.min.name) (by decide +kernel)) (hts (.initialized "java/lang/Math") (by decide +kernel)) (hts (.code Lib.Math.min.name Lib.Math.min.code 2 (some .int)) (by decide +kernel)) (Nat.le_of_ble_eq_true rfl) (Nat.le_of_ble_eq_true rfl) (Nat.zero_le _) (Nat.zero_le _) dX1_lastOfRow_97 ?_
                          refine cr_top (y := nI (min (min h0 1114111) (c0 / 64 * 64 + 63))) (cr_min _ _ (by omega) (by omega)) ?_
                          exact W.iret (v := nI (min (min h0 1114111) (c0 / 64 * 64 + 63))) hx hb hr (fun t9 ht9 hW9 => ⟨⟨nI (min (min h0 1114111) (c0 / 64 * 64 + 63)), [], rfl, ⟨rfl, by rw [cr_last4 (by omega), cr_e262144, cr_e4096, cr_e64, if_neg (by omega), if_neg (by omega), if_neg (by omega)]⟩, by rw [ht9]; exact hP, va_K.moved hW9.alike hK, hD⟩, hS.F ht9⟩) hS.2.2 dX1_lastOfRow_100
                        · exact absurd (by decide) c_27
                      · rw [Int32.lt_iff_toInt_lt, pk_sub_toInt (by omega) (by omega), nI_toInt (by omega)] at c_80
                        refine lv_iload hx hb dX1_lastOfRow_83 (lv_at hl 0 rfl) ?_
                        exact W.iret (v := (nI ((min (min h0 1114111) (c0 / 4096 * 4096 + 4095) + 1) / 64 * 64)) - (nI 1)) hx hb hr (fun t9 ht9 hW9 => ⟨⟨(nI ((min (min h0 1114111) (c0 / 4096 * 4096 + 4095) + 1) / 64 * 64)) - (nI 1), [], rfl, ⟨rfl, by rw [cr_last4 (by omega), cr_e262144, cr_e4096, cr_e64, if_neg (by omega), if_neg (by omega), if_pos (by omega)]; exact pk_sub (by omega)⟩, by rw [ht9]; exact hP, va_K.moved hW9.alike hK, hD⟩, hS.F ht9⟩) hS.2.2 dX1_lastOfRow_85
                · rw [Int32.lt_iff_toInt_lt, pk_sub_toInt (by omega) (by omega), nI_toInt (by omega)] at c_80
                  refine lv_iload hx hb dX1_lastOfRow_83 (lv_at hl 0 rfl) ?_
                  exact W.iret (v := (nI ((min (min h0 1114111) (c0 / 262144 * 262144 + 262143) + 1) / 4096 * 4096)) - (nI 1)) hx hb hr (fun t9 ht9 hW9 => ⟨⟨(nI ((min (min h0 1114111) (c0 / 262144 * 262144 + 262143) + 1) / 4096 * 4096)) - (nI 1), [], rfl, ⟨rfl, by rw [cr_last4 (by omega), cr_e262144, cr_e4096, cr_e64, if_neg (by omega), if_pos (by omega)]; exact pk_sub (by omega)⟩, by rw [ht9]; exact hP, va_K.moved hW9.alike hK, hD⟩, hS.F ht9⟩) hS.2.2 dX1_lastOfRow_85
          · rw [Int32.lt_iff_toInt_lt, pk_sub_toInt (by omega) (by omega), nI_toInt (by omega)] at c_80
            refine lv_iload hx hb dX1_lastOfRow_83 (lv_at hl 0 rfl) ?_
            exact W.iret (v := (nI ((min (min h0 1114111) (c0 / 16777216 * 16777216 + 16777215) + 1) / 262144 * 262144)) - (nI 1)) hx hb hr (fun t9 ht9 hW9 => ⟨⟨(nI ((min (min h0 1114111) (c0 / 16777216 * 16777216 + 16777215) + 1) / 262144 * 262144)) - (nI 1), [], rfl, ⟨rfl, by rw [cr_last4 (by omega), cr_e262144, cr_e4096, cr_e64, if_pos (by omega)]; exact pk_sub (by omega)⟩, by rw [ht9]; exact hP, va_K.moved hW9.alike hK, hD⟩, hS.F ht9⟩) hS.2.2 dX1_lastOfRow_85
    · exact absurd c_16 (by decide)

set_option maxHeartbeats 4000000 in
set_option maxRecDepth 100000 in
theorem c_countRows (l : Launch) (dC : Nat → ClassId) (dI : Nat → Nat → Nat) (sz : Nat) (c0 h0 : Nat) (hc0 : c0 ≤ 1114112) (hh : h0 ≤ 1114111) : Met l yX1_countRows wsX1_countRows ({ frames := 4, cells := 0, slots := 0, locals := 140 }) (va_Pc [.int (nI c0), .int (nI h0)] (cr_pre dC dI [] [] sz)) (va_Qi (fun (rr : Int32) (u : va_W) => u = [] ∧ rr = nI (cr_N c0 h0)) (cr_at dC dI [] (va_A [] sz)) (va_A [] sz)) 0 0 (va_A [] sz) := by
  refine Met.ofW (cc := cX1_countRows) (maxL := 4) (ret := (some .int)) (by decide) rfl ?_
  intro p e s m args below meth c s₁ B hml hv
  obtain ⟨rfl, hsz, hP, hK, hD0⟩ := hv
  have hx := B.exec
  have hb := B.bytes
  have hr := B.returns
  have hts := atoms_spec (ws := wsX1_countRows) B.pre
  have hown : s.vm.findClass RX1 = some m.cls := findClass_of_methodNamed B.named
  have hlocks := B.notSynchronized
  subst hsz
  have hD := hD0.self (sz := s.heap.size)
  generalize hAe : va_A [] s.heap.size = A at hD ⊢
  have hA : ∀ q : Nat, s.heap.size ≤ q → A q := fun q h => by rw [← hAe]; exact Or.inr h
  have hS : va_S A s.heap s.heap [] := va_S.rf
  have hP : va_P (dC, dI) crCl [] s.heap := hP
  have hl := lv_entry ([.int (nI c0), .int (nI h0)]) (n := 4) (Nat.le_of_ble_eq_true rfl)
  rw [lg_entry_eq]
  generalize (lg_sl ([.int (nI c0), .int (nI h0)]) ++ List.replicate (4 - (lg_sl ([.int (nI c0), .int (nI h0)])).length) Slot.unset).toArray = ls at hl ⊢
  have hl : lv_has ls 4 [(0, .int (nI c0)), (1, .int (nI h0))] := hl
  refine lv_iload_n hx hb dX1_countRows_0 rfl (lv_at hl 0 rfl) ?_
  refine lv_istore_n (lv' := [(2, .int (nI c0)), (0, .int (nI c0)), (1, .int (nI h0))]) hx hb dX1_countRows_1 rfl hl (by decide) rfl (fun ls hl => ?_)
  refine lv_iconst (v := nI 0) hx hb dX1_countRows_2 (by decide) ?_
  refine lv_istore_n (lv' := [(3, .int (nI 0)), (2, .int (nI c0)), (0, .int (nI c0)), (1, .int (nI h0))]) hx hb dX1_countRows_3 rfl hl (by decide) rfl (fun ls hl => ?_)
  refine cr_lp2 (fun (d : Nat) (k : Nat) => 16 - k) (fun (d : Nat) (k : Nat) H locs ls => (k ≤ 16 ∧ d ≤ 1114112 ∧ k + cr_nr (16 - k) d h0 = cr_nr 16 c0 h0) ∧ va_P (dC, dI) crCl [] H ∧ va_D A [] ∧ va_S A s.heap H locs ∧ lv_has ls 4 [(0, .int (nI c0)), (1, .int (nI h0)), (2, .int (nI d)), (3, .int (nI k))]) ?_ c0 0 ⟨⟨by omega, hc0, Nat.zero_add _⟩, hP, hD, hS, lv_sub hl [2, 3, 1, 0] rfl⟩
  intro d k H locs ls hI4 ih4
  obtain ⟨⟨h1, h2, h3⟩, hP, hD, hS, hl⟩ := hI4
  refine lv_iload_n hx hb dX1_countRows_4 rfl (lv_at hl 3 rfl) ?_
  refine lv_bipush (v := nI 16) hx hb dX1_countRows_5 (by decide) ?_
  refine lv_icmp_ge (tgt := 29) hx hb dX1_countRows_7 (by decide) (fun c_7 => ?_) (fun c_7 => ?_)
  · rw [nI_leI (by omega) (by omega)] at c_7
    refine lv_iload_n hx hb dX1_countRows_29 rfl (lv_at hl 3 rfl) ?_
    exact W.iret (v := nI k) hx hb hr (fun t9 ht9 hW9 => ⟨⟨nI k, [], rfl, ⟨rfl, by rw [show cr_N c0 h0 = cr_nr 16 c0 h0 from rfl, ← h3, show 16 - k = 0 from (by omega), show cr_nr 0 d h0 = 0 from rfl, Nat.add_zero]⟩, by rw [ht9]; exact hP, va_K.moved hW9.alike hK, hD⟩, hS.F ht9⟩) hS.2.2 dX1_countRows_30
  · rw [nI_leI (by omega) (by omega)] at c_7
    refine lv_iload_n hx hb dX1_countRows_10 rfl (lv_at hl 2 rfl) ?_
    refine lv_iload_n hx hb dX1_countRows_11 rfl (lv_at hl 1 rfl) ?_
    refine lv_icmp_gt (tgt := 29) hx hb dX1_countRows_12 (by decide) (fun c_12 => ?_) (fun c_12 => ?_)
    · rw [nI_ltI (by omega) (by omega)] at c_12
      refine lv_iload_n hx hb dX1_countRows_29 rfl (lv_at hl 3 rfl) ?_
      exact W.iret (v := nI k) hx hb hr (fun t9 ht9 hW9 => ⟨⟨nI k, [], rfl, ⟨rfl, by rw [show cr_N c0 h0 = cr_nr 16 c0 h0 from rfl, ← h3, cr_nr_out (by omega), Nat.add_zero]⟩, by rw [ht9]; exact hP, va_K.moved hW9.alike hK, hD⟩, hS.F ht9⟩) hS.2.2 dX1_countRows_30
    · rw [nI_ltI (by omega) (by omega)] at c_12
      refine lv_iload_n hx hb dX1_countRows_15 rfl (lv_at hl 2 rfl) ?_
      refine lv_iload_n hx hb dX1_countRows_16 rfl (lv_at hl 1 rfl) ?_
      have hPc := hP.sub (ws' := []) [] rfl
      have hDc := hD.sub (ws' := []) [] (by decide) rfl
      have hFc := va_free (wc := []) hD hS hA [] rfl
      refine va_calli (va_runS (As := [.int (nI d), .int (nI h0)]) (rest := []) ⟨hx, hb, hml, hown, hts⟩ (c_lastOfRow l dC dI _ d h0 (by omega) hh) (va_cwS 2 hts gX1_countRows_X1_lastOfRow rfl rfl rfl (by decide +kernel) ⟨Nat.le_of_ble_eq_true rfl, Nat.le_of_ble_eq_true rfl⟩) (cr_preS hPc hK hDc) rfl rfl hl.1 rfl (lv_room (Nat.le_of_ble_eq_true rfl)) dX1_countRows_17 ⟨Nat.zero_le _, Nat.zero_le _⟩) hS (fun q _ h => hFc q h) hFc (fun r_17 u_17 t_17 H_17 locs ht_17 hvm_17 hw_17 hB_17 hz_17 hk_17 hS => ?_)
      obtain ⟨rfl, rfl⟩ := hw_17
      have hla := cr_last_in (c := d) (high := h0) (by omega) hh
      obtain ⟨hP, hD⟩ := cr_back (wr := []) (w1 := []) hP hD [] [] rfl rfl (by decide) (by decide) hk_17 hFc hB_17 ht_17
      clear hPc hDc hFc
      generalize H_17 = H at hP hS ⊢
      have hP := hP.sub (ws' := []) [] rfl
      have hD := hD.sub (ws' := []) [] (by decide) rfl
      refine lv_iconst (v := nI 1) hx hb dX1_countRows_20 (by decide) ?_
      refine lv_iadd hx hb dX1_countRows_21 ?_
      refine cr_top (y := nI ((cr_last d h0) + 1)) (nI_add (cr_last d h0) 1) ?_
      refine lv_istore_n (lv' := [(2, .int (nI ((cr_last d h0) + 1))), (0, .int (nI c0)), (1, .int (nI h0)), (3, .int (nI k))]) hx hb dX1_countRows_22 rfl hl (by decide) rfl (fun ls hl => ?_)
      refine lv_iinc (v := nI (k + 1)) (lv' := [(3, .int (nI (k + 1))), (2, .int (nI ((cr_last d h0) + 1))), (0, .int (nI c0)), (1, .int (nI h0))]) hx hb dX1_countRows_23 hl (k := 3) rfl (nI_add k 1) (by decide) rfl (fun ls hl => ?_)
      refine lv_goto (tgt := 4) hx hb dX1_countRows_26 (by decide) ?_
      exact ih4 (cr_last d h0 + 1) (k + 1) _ _ _ ⟨⟨by omega, by omega, by rw [← h3]; exact cr_nr_step (by omega) (by omega)⟩, hP, hD, hS, lv_sub hl [2, 3, 1, 0] rfl⟩ (by omega)

set_option maxHeartbeats 4000000 in
set_option maxRecDepth 100000 in
theorem c_skipRows (l : Launch) (dC : Nat → ClassId) (dI : Nat → Nat → Nat) (sz : Nat) (c0 h0 t : Nat) (hc0 : c0 ≤ 1114112) (hh : h0 ≤ 1114111) (ht0 : t < cr_N c0 h0) (ht1 : t < 2 ^ 31) : Met l yX1_skipRows wsX1_skipRows ({ frames := 4, cells := 0, slots := 0, locals := 140 }) (va_Pc [.int (nI c0), .int (nI h0), .int (nI t)] (cr_pre dC dI [] [] sz)) (va_Qi (fun (rr : Int32) (u : va_W) => u = [] ∧ rr = nI (cr_go t c0 h0)) (cr_at dC dI [] (va_A [] sz)) (va_A [] sz)) 0 0 (va_A [] sz) := by
  refine Met.ofW (cc := cX1_skipRows) (maxL := 5) (ret := (some .int)) (by decide) rfl ?_
  intro p e s m args below meth c s₁ B hml hv
  obtain ⟨rfl, hsz, hP, hK, hD0⟩ := hv
  have hx := B.exec
  have hb := B.bytes
  have hr := B.returns
  have hts := atoms_spec (ws := wsX1_skipRows) B.pre
  have hown : s.vm.findClass RX1 = some m.cls := findClass_of_methodNamed B.named
  have hlocks := B.notSynchronized
  subst hsz
  have hD := hD0.self (sz := s.heap.size)
  generalize hAe : va_A [] s.heap.size = A at hD ⊢
  have hA : ∀ q : Nat, s.heap.size ≤ q → A q := fun q h => by rw [← hAe]; exact Or.inr h
  have hS : va_S A s.heap s.heap [] := va_S.rf
  have hP : va_P (dC, dI) crCl [] s.heap := hP
  have hl := lv_entry ([.int (nI c0), .int (nI h0), .int (nI t)]) (n := 5) (Nat.le_of_ble_eq_true rfl)
  rw [lg_entry_eq]
  generalize (lg_sl ([.int (nI c0), .int (nI h0), .int (nI t)]) ++ List.replicate (5 - (lg_sl ([.int (nI c0), .int (nI h0), .int (nI t)])).length) Slot.unset).toArray = ls at hl ⊢
  have hl : lv_has ls 5 [(0, .int (nI c0)), (1, .int (nI h0)), (2, .int (nI t))] := hl
  have hN : t < cr_nr 16 c0 h0 := ht0
  refine lv_iload_n hx hb dX1_skipRows_0 rfl (lv_at hl 0 rfl) ?_
  refine lv_istore_n (lv' := [(3, .int (nI c0)), (0, .int (nI c0)), (1, .int (nI h0)), (2, .int (nI t))]) hx hb dX1_skipRows_1 rfl hl (by decide) rfl (fun ls hl => ?_)
  refine lv_iconst (v := nI 0) hx hb dX1_skipRows_2 (by decide) ?_
  refine lv_istore (lv' := [(4, .int (nI 0)), (3, .int (nI c0)), (0, .int (nI c0)), (1, .int (nI h0)), (2, .int (nI t))]) hx hb dX1_skipRows_3 hl (by decide) rfl (fun ls hl => ?_)
  refine cr_lp1 (fun (k : Nat) => t - k) (fun (k : Nat) H locs ls => (k ≤ t) ∧ va_P (dC, dI) crCl [] H ∧ va_D A [] ∧ va_S A s.heap H locs ∧ lv_has ls 5 [(0, .int (nI c0)), (1, .int (nI h0)), (2, .int (nI t)), (3, .int (nI (cr_go k c0 h0))), (4, .int (nI k))]) ?_ 0 ⟨Nat.zero_le _, hP, hD, hS, lv_sub hl [2, 3, 4, 1, 0] rfl⟩
  intro k H locs ls hI5 ih5
  obtain ⟨h1, hP, hD, hS, hl⟩ := hI5
  refine lv_iload hx hb dX1_skipRows_5 (lv_at hl 4 rfl) ?_
  refine lv_iload_n hx hb dX1_skipRows_7 rfl (lv_at hl 2 rfl) ?_
  refine lv_icmp_ge (tgt := 25) hx hb dX1_skipRows_8 (by decide) (fun c_8 => ?_) (fun c_8 => ?_)
  · rw [nI_leI (by omega) (by omega)] at c_8
    obtain rfl : k = t := by omega
    refine lv_iload_n hx hb dX1_skipRows_25 rfl (lv_at hl 3 rfl) ?_
    exact W.iret (v := nI (cr_go k c0 h0)) hx hb hr (fun t9 ht9 hW9 => ⟨⟨nI (cr_go k c0 h0), [], rfl, ⟨rfl, rfl⟩, by rw [ht9]; exact hP, va_K.moved hW9.alike hK, hD⟩, hS.F ht9⟩) hS.2.2 dX1_skipRows_26
  · rw [nI_leI (by omega) (by omega)] at c_8
    have hgo := cr_go_in (m := 16) (show k < cr_nr 16 c0 h0 by omega)
    refine lv_iload_n hx hb dX1_skipRows_11 rfl (lv_at hl 3 rfl) ?_
    refine lv_iload_n hx hb dX1_skipRows_12 rfl (lv_at hl 1 rfl) ?_
    have hPc := hP.sub (ws' := []) [] rfl
    have hDc := hD.sub (ws' := []) [] (by decide) rfl
    have hFc := va_free (wc := []) hD hS hA [] rfl
    refine va_calli (va_runS (As := [.int (nI (cr_go k c0 h0)), .int (nI h0)]) (rest := []) ⟨hx, hb, hml, hown, hts⟩ (c_lastOfRow l dC dI _ (cr_go k c0 h0) h0 hgo hh) (va_cwS 2 hts gX1_skipRows_X1_lastOfRow rfl rfl rfl (by decide +kernel) ⟨Nat.le_of_ble_eq_true rfl, Nat.le_of_ble_eq_true rfl⟩) (cr_preS hPc hK hDc) rfl rfl hl.1 rfl (lv_room (Nat.le_of_ble_eq_true rfl)) dX1_skipRows_13 ⟨Nat.zero_le _, Nat.zero_le _⟩) hS (fun q _ h => hFc q h) hFc (fun r_13 u_13 t_13 H_13 locs ht_13 hvm_13 hw_13 hB_13 hz_13 hk_13 hS => ?_)
    obtain ⟨rfl, rfl⟩ := hw_13
    obtain ⟨hP, hD⟩ := cr_back (wr := []) (w1 := []) hP hD [] [] rfl rfl (by decide) (by decide) hk_13 hFc hB_13 ht_13
    clear hPc hDc hFc
    generalize H_13 = H at hP hS ⊢
    have hP := hP.sub (ws' := []) [] rfl
    have hD := hD.sub (ws' := []) [] (by decide) rfl
    refine lv_iconst (v := nI 1) hx hb dX1_skipRows_16 (by decide) ?_
    refine lv_iadd hx hb dX1_skipRows_17 ?_
    refine cr_top (y := nI ((cr_last (cr_go k c0 h0) h0) + 1)) (nI_add (cr_last (cr_go k c0 h0) h0) 1) ?_
    rw [← cr_go_succ]
    refine lv_istore_n (lv' := [(3, .int (nI (cr_go (k + 1) c0 h0))), (0, .int (nI c0)), (1, .int (nI h0)), (2, .int (nI t)), (4, .int (nI k))]) hx hb dX1_skipRows_18 rfl hl (by decide) rfl (fun ls hl => ?_)
    refine lv_iinc (v := nI (k + 1)) (lv' := [(4, .int (nI (k + 1))), (3, .int (nI (cr_go (k + 1) c0 h0))), (0, .int (nI c0)), (1, .int (nI h0)), (2, .int (nI t))]) hx hb dX1_skipRows_19 hl (k := 4) rfl (nI_add k 1) (by decide) rfl (fun ls hl => ?_)
    refine lv_goto (tgt := 5) hx hb dX1_skipRows_22 (by decide) ?_
    exact ih5 (k + 1) _ _ _ ⟨by omega, hP, hD, hS, lv_sub hl [2, 3, 4, 1, 0] rfl⟩ (by omega)

set_option maxHeartbeats 4000000 in
set_option maxRecDepth 100000 in
theorem c_leadMark (l : Launch) (dC : Nat → ClassId) (dI : Nat → Nat → Nat) (sz : Nat) (L : Nat) (h1 : 2 ≤ L) (h4 : L ≤ 4) : Met l yX1_leadMark wsX1_leadMark ({ frames := 1, cells := 0, slots := 0, locals := 20 }) (va_Pc [.int (nI L)] (cr_pre dC dI [] [] sz)) (va_Qi (fun (rr : Int32) (u : va_W) => u = [] ∧ rr = nI (cr_lm L)) (cr_at dC dI [] (va_A [] sz)) (va_A [] sz)) 0 0 (va_A [] sz) := by
  refine Met.ofW (cc := cX1_leadMark) (maxL := 1) (ret := (some .int)) (by decide) rfl ?_
  intro p e s m args below meth c s₁ B hml hv
  obtain ⟨rfl, hsz, hP, hK, hD0⟩ := hv
  have hx := B.exec
  have hb := B.bytes
  have hr := B.returns
  have hts := atoms_spec (ws := wsX1_leadMark) B.pre
  have hown : s.vm.findClass RX1 = some m.cls := findClass_of_methodNamed B.named
  have hlocks := B.notSynchronized
  subst hsz
  have hD := hD0.self (sz := s.heap.size)
  generalize hAe : va_A [] s.heap.size = A at hD ⊢
  have hA : ∀ q : Nat, s.heap.size ≤ q → A q := fun q h => by rw [← hAe]; exact Or.inr h
  have hS : va_S A s.heap s.heap [] := va_S.rf
  have hP : va_P (dC, dI) crCl [] s.heap := hP
  have hl := lv_entry ([.int (nI L)]) (n := 1) (Nat.le_of_ble_eq_true rfl)
  rw [lg_entry_eq]
  generalize (lg_sl ([.int (nI L)]) ++ List.replicate (1 - (lg_sl ([.int (nI L)])).length) Slot.unset).toArray = ls at hl ⊢
  have hl : lv_has ls 1 [(0, .int (nI L))] := hl
  rcases (show L = 2 ∨ L = 3 ∨ L = 4 by omega) with rfl | rfl | rfl
  · refine lv_ldc (v := nI 65280) hx hb hown (hts (.constant RX1 123 (nI 65280)) (by decide +kernel)) dX1_leadMark_0 ?_
    refine lv_iload_n hx hb dX1_leadMark_2 rfl (lv_at hl 0 rfl) ?_
    refine lv_ishr hx hb dX1_leadMark_3 ?_
    refine cr_top (y := nI 16320) (by decide) ?_
    refine lv_sipush (v := nI 255) hx hb dX1_leadMark_4 (by decide) ?_
    refine lv_iand hx hb dX1_leadMark_7 ?_
    refine cr_top (y := nI 192) (by decide) ?_
    exact W.iret (v := nI 192) hx hb hr (fun t9 ht9 hW9 => ⟨⟨nI 192, [], rfl, ⟨rfl, rfl⟩, by rw [ht9]; exact hP, va_K.moved hW9.alike hK, hD⟩, hS.F ht9⟩) hS.2.2 dX1_leadMark_8
  · refine lv_ldc (v := nI 65280) hx hb hown (hts (.constant RX1 123 (nI 65280)) (by decide +kernel)) dX1_leadMark_0 ?_
    refine lv_iload_n hx hb dX1_leadMark_2 rfl (lv_at hl 0 rfl) ?_
    refine lv_ishr hx hb dX1_leadMark_3 ?_
    refine cr_top (y := nI 8160) (by decide) ?_
    refine lv_sipush (v := nI 255) hx hb dX1_leadMark_4 (by decide) ?_
    refine lv_iand hx hb dX1_leadMark_7 ?_
    refine cr_top (y := nI 224) (by decide) ?_
    exact W.iret (v := nI 224) hx hb hr (fun t9 ht9 hW9 => ⟨⟨nI 224, [], rfl, ⟨rfl, rfl⟩, by rw [ht9]; exact hP, va_K.moved hW9.alike hK, hD⟩, hS.F ht9⟩) hS.2.2 dX1_leadMark_8
  · refine lv_ldc (v := nI 65280) hx hb hown (hts (.constant RX1 123 (nI 65280)) (by decide +kernel)) dX1_leadMark_0 ?_
    refine lv_iload_n hx hb dX1_leadMark_2 rfl (lv_at hl 0 rfl) ?_
    refine lv_ishr hx hb dX1_leadMark_3 ?_
    refine cr_top (y := nI 4080) (by decide) ?_
    refine lv_sipush (v := nI 255) hx hb dX1_leadMark_4 (by decide) ?_
    refine lv_iand hx hb dX1_leadMark_7 ?_
    refine cr_top (y := nI 240) (by decide) ?_
    exact W.iret (v := nI 240) hx hb hr (fun t9 ht9 hW9 => ⟨⟨nI 240, [], rfl, ⟨rfl, rfl⟩, by rw [ht9]; exact hP, va_K.moved hW9.alike hK, hD⟩, hS.F ht9⟩) hS.2.2 dX1_leadMark_8

set_option maxHeartbeats 4000000 in
set_option maxRecDepth 100000 in
theorem c_byteOf (l : Launch) (dC : Nat → ClassId) (dI : Nat → Nat → Nat) (sz : Nat) (c0 L i : Nat) (hL : cr_len c0 = L) (hc : c0 ≤ 1114111) (h1 : 1 ≤ i) (h4 : i ≤ L) : Met l yX1_byteOf wsX1_byteOf ({ frames := 2, cells := 0, slots := 0, locals := 60 }) (va_Pc [.int (nI c0), .int (nI L), .int (nI i)] (cr_pre dC dI [] [] sz)) (va_Qi (fun (rr : Int32) (u : va_W) => u = [] ∧ rr = nI (cr_by c0 (i - 1))) (cr_at dC dI [] (va_A [] sz)) (va_A [] sz)) 0 0 (va_A [] sz) := by
  refine Met.ofW (cc := cX1_byteOf) (maxL := 4) (ret := (some .int)) (by decide) rfl ?_
  intro p e s m args below meth c s₁ B hml hv
  obtain ⟨rfl, hsz, hP, hK, hD0⟩ := hv
  have hx := B.exec
  have hb := B.bytes
  have hr := B.returns
  have hts := atoms_spec (ws := wsX1_byteOf) B.pre
  have hown : s.vm.findClass RX1 = some m.cls := findClass_of_methodNamed B.named
  have hlocks := B.notSynchronized
  subst hsz
  have hD := hD0.self (sz := s.heap.size)
  generalize hAe : va_A [] s.heap.size = A at hD ⊢
  have hA : ∀ q : Nat, s.heap.size ≤ q → A q := fun q h => by rw [← hAe]; exact Or.inr h
  have hS : va_S A s.heap s.heap [] := va_S.rf
  have hP : va_P (dC, dI) crCl [] s.heap := hP
  have hl := lv_entry ([.int (nI c0), .int (nI L), .int (nI i)]) (n := 4) (Nat.le_of_ble_eq_true rfl)
  rw [lg_entry_eq]
  generalize (lg_sl ([.int (nI c0), .int (nI L), .int (nI i)]) ++ List.replicate (4 - (lg_sl ([.int (nI c0), .int (nI L), .int (nI i)])).length) Slot.unset).toArray = ls at hl ⊢
  have hl : lv_has ls 4 [(0, .int (nI c0)), (1, .int (nI L)), (2, .int (nI i))] := hl
  have hin := cr_len_in c0
  rcases (show (L = 1 ∧ i = 1) ∨ (L = 2 ∧ i = 1) ∨ (L = 2 ∧ i = 2) ∨ (L = 3 ∧ i = 1) ∨ (L = 3 ∧ i = 2) ∨ (L = 3 ∧ i = 3) ∨ (L = 4 ∧ i = 1) ∨ (L = 4 ∧ i = 2) ∨ (L = 4 ∧ i = 3) ∨ (L = 4 ∧ i = 4) by omega) with ⟨rfl, rfl⟩ | ⟨rfl, rfl⟩ | ⟨rfl, rfl⟩ | ⟨rfl, rfl⟩ | ⟨rfl, rfl⟩ | ⟨rfl, rfl⟩ | ⟨rfl, rfl⟩ | ⟨rfl, rfl⟩ | ⟨rfl, rfl⟩ | ⟨rfl, rfl⟩
  · refine lv_iload_n hx hb dX1_byteOf_0 rfl (lv_at hl 0 rfl) ?_
    refine lv_bipush (v := nI 6) hx hb dX1_byteOf_1 (by decide) ?_
    refine lv_iload_n hx hb dX1_byteOf_3 rfl (lv_at hl 1 rfl) ?_
    refine lv_iload_n hx hb dX1_byteOf_4 rfl (lv_at hl 2 rfl) ?_
    refine lv_isub hx hb dX1_byteOf_5 ?_
    refine cr_top (y := nI 0) (by decide) ?_
    refine lv_imul hx hb dX1_byteOf_6 ?_
    refine cr_top (y := nI 0) (by decide) ?_
    refine lv_ishr hx hb dX1_byteOf_7 ?_
    refine cr_top (y := nI c0) ((pk_shrN (by omega) _ 0 (by decide)).trans (by simp)) ?_
    refine lv_istore_n (lv' := [(3, .int (nI c0)), (0, .int (nI c0)), (1, .int (nI 1)), (2, .int (nI 1))]) hx hb dX1_byteOf_8 rfl hl (by decide) rfl (fun ls hl => ?_)
    refine lv_iload_n hx hb dX1_byteOf_9 rfl (lv_at hl 3 rfl) ?_
    refine lv_iconst (v := nI 1) hx hb dX1_byteOf_10 (by decide) ?_
    refine lv_icmp_le (tgt := 23) hx hb dX1_byteOf_11 (by decide) (fun c_11 => ?_) (fun c_11 => ?_)
    · refine lv_iload_n hx hb dX1_byteOf_23 rfl (lv_at hl 2 rfl) ?_
      refine lv_iconst (v := nI 1) hx hb dX1_byteOf_24 (by decide) ?_
      refine lv_icmp_ne (tgt := 32) hx hb dX1_byteOf_25 (by decide) (fun c_25 => ?_) (fun c_25 => ?_)
      · exact absurd (by decide) c_25
      · refine lv_iload_n hx hb dX1_byteOf_28 rfl (lv_at hl 0 rfl) ?_
        refine lv_goto (tgt := 38) hx hb dX1_byteOf_29 (by decide) ?_
        exact W.iret (v := nI c0) hx hb hr (fun t9 ht9 hW9 => ⟨⟨nI c0, [], rfl, ⟨rfl, by rw [show 1 - 1 = 0 from rfl, cr_by1 (by omega)]⟩, by rw [ht9]; exact hP, va_K.moved hW9.alike hK, hD⟩, hS.F ht9⟩) hS.2.2 dX1_byteOf_38
    · exact absurd (by decide) c_11
  · refine lv_iload_n hx hb dX1_byteOf_0 rfl (lv_at hl 0 rfl) ?_
    refine lv_bipush (v := nI 6) hx hb dX1_byteOf_1 (by decide) ?_
    refine lv_iload_n hx hb dX1_byteOf_3 rfl (lv_at hl 1 rfl) ?_
    refine lv_iload_n hx hb dX1_byteOf_4 rfl (lv_at hl 2 rfl) ?_
    refine lv_isub hx hb dX1_byteOf_5 ?_
    refine cr_top (y := nI 1) (by decide) ?_
    refine lv_imul hx hb dX1_byteOf_6 ?_
    refine cr_top (y := nI 6) (by decide) ?_
    refine lv_ishr hx hb dX1_byteOf_7 ?_
    refine cr_top (y := nI (c0 / 64)) (pk_shrN (by omega) _ 6 (by decide)) ?_
    refine lv_istore_n (lv' := [(3, .int (nI (c0 / 64))), (0, .int (nI c0)), (1, .int (nI 2)), (2, .int (nI 1))]) hx hb dX1_byteOf_8 rfl hl (by decide) rfl (fun ls hl => ?_)
    refine lv_iload_n hx hb dX1_byteOf_9 rfl (lv_at hl 3 rfl) ?_
    refine lv_iconst (v := nI 1) hx hb dX1_byteOf_10 (by decide) ?_
    refine lv_icmp_le (tgt := 23) hx hb dX1_byteOf_11 (by decide) (fun c_11 => ?_) (fun c_11 => ?_)
    · refine lv_iload_n hx hb dX1_byteOf_23 rfl (lv_at hl 2 rfl) ?_
      refine lv_iconst (v := nI 1) hx hb dX1_byteOf_24 (by decide) ?_
      refine lv_icmp_ne (tgt := 32) hx hb dX1_byteOf_25 (by decide) (fun c_25 => ?_) (fun c_25 => ?_)
      · refine lv_iload_n hx hb dX1_byteOf_32 rfl (lv_at hl 2 rfl) ?_
        have hPc := hP.sub (ws' := []) [] rfl
        have hDc := hD.sub (ws' := []) [] (by decide) rfl
        have hFc := va_free (wc := []) hD hS hA [] rfl
        refine va_calli (va_runS (As := [.int (nI 2)]) (rest := []) ⟨hx, hb, hml, hown, hts⟩ (c_leadMark l dC dI _ 2 (by decide) (by decide)) (va_cwS 1 hts gX1_byteOf_X1_leadMark rfl rfl rfl (by decide +kernel) ⟨Nat.le_of_ble_eq_true rfl, Nat.le_of_ble_eq_true rfl⟩) (cr_preS hPc hK hDc) rfl rfl hl.1 rfl (lv_room (Nat.le_of_ble_eq_true rfl)) dX1_byteOf_33 ⟨Nat.zero_le _, Nat.zero_le _⟩) hS (fun q _ h => hFc q h) hFc (fun r_33 u_33 t_33 H_33 locs ht_33 hvm_33 hw_33 hB_33 hz_33 hk_33 hS => ?_)
        obtain ⟨rfl, rfl⟩ := hw_33
        obtain ⟨hP, hD⟩ := cr_back (wr := []) (w1 := []) hP hD [] [] rfl rfl (by decide) (by decide) hk_33 hFc hB_33 ht_33
        clear hPc hDc hFc
        generalize H_33 = H at hP hS ⊢
        have hP := hP.sub (ws' := []) [] rfl
        have hD := hD.sub (ws' := []) [] (by decide) rfl
        refine lv_iload_n hx hb dX1_byteOf_36 rfl (lv_at hl 0 rfl) ?_
        refine lv_ior hx hb dX1_byteOf_37 ?_
        refine cr_top (y := nI (192 + c0 / 64)) (cr_orlead2 (by omega)) ?_
        exact W.iret (v := nI (192 + c0 / 64)) hx hb hr (fun t9 ht9 hW9 => ⟨⟨nI (192 + c0 / 64), [], rfl, ⟨rfl, by rw [show 1 - 1 = 0 from rfl, (cr_by2 (by omega) (by omega)).1]⟩, by rw [ht9]; exact hP, va_K.moved hW9.alike hK, hD⟩, hS.F ht9⟩) hS.2.2 dX1_byteOf_38
      · exact absurd c_25 (by decide)
    · exact absurd (by decide) c_11
  · refine lv_iload_n hx hb dX1_byteOf_0 rfl (lv_at hl 0 rfl) ?_
    refine lv_bipush (v := nI 6) hx hb dX1_byteOf_1 (by decide) ?_
    refine lv_iload_n hx hb dX1_byteOf_3 rfl (lv_at hl 1 rfl) ?_
    refine lv_iload_n hx hb dX1_byteOf_4 rfl (lv_at hl 2 rfl) ?_
    refine lv_isub hx hb dX1_byteOf_5 ?_
    refine cr_top (y := nI 0) (by decide) ?_
    refine lv_imul hx hb dX1_byteOf_6 ?_
    refine cr_top (y := nI 0) (by decide) ?_
    refine lv_ishr hx hb dX1_byteOf_7 ?_
    refine cr_top (y := nI c0) ((pk_shrN (by omega) _ 0 (by decide)).trans (by simp)) ?_
    refine lv_istore_n (lv' := [(3, .int (nI c0)), (0, .int (nI c0)), (1, .int (nI 2)), (2, .int (nI 2))]) hx hb dX1_byteOf_8 rfl hl (by decide) rfl (fun ls hl => ?_)
    refine lv_iload_n hx hb dX1_byteOf_9 rfl (lv_at hl 3 rfl) ?_
    refine lv_iconst (v := nI 1) hx hb dX1_byteOf_10 (by decide) ?_
    refine lv_icmp_le (tgt := 23) hx hb dX1_byteOf_11 (by decide) (fun c_11 => ?_) (fun c_11 => ?_)
    · exact absurd c_11 (by decide)
    · refine lv_sipush (v := nI 128) hx hb dX1_byteOf_14 (by decide) ?_
      refine lv_iload_n hx hb dX1_byteOf_17 rfl (lv_at hl 0 rfl) ?_
      refine lv_bipush (v := nI 63) hx hb dX1_byteOf_18 (by decide) ?_
      refine lv_iand hx hb dX1_byteOf_20 ?_
      refine cr_top (y := nI (c0 % 64)) (cr_and63 (by omega)) ?_
      refine lv_ior hx hb dX1_byteOf_21 ?_
      refine cr_top (y := nI (128 + c0 % 64)) (cr_or128 (by omega)) ?_
      exact W.iret (v := nI (128 + c0 % 64)) hx hb hr (fun t9 ht9 hW9 => ⟨⟨nI (128 + c0 % 64), [], rfl, ⟨rfl, by rw [show 2 - 1 = 1 from rfl, (cr_by2 (by omega) (by omega)).2]⟩, by rw [ht9]; exact hP, va_K.moved hW9.alike hK, hD⟩, hS.F ht9⟩) hS.2.2 dX1_byteOf_22
  · refine lv_iload_n hx hb dX1_byteOf_0 rfl (lv_at hl 0 rfl) ?_
    refine lv_bipush (v := nI 6) hx hb dX1_byteOf_1 (by decide) ?_
    refine lv_iload_n hx hb dX1_byteOf_3 rfl (lv_at hl 1 rfl) ?_
    refine lv_iload_n hx hb dX1_byteOf_4 rfl (lv_at hl 2 rfl) ?_
    refine lv_isub hx hb dX1_byteOf_5 ?_
    refine cr_top (y := nI 2) (by decide) ?_
    refine lv_imul hx hb dX1_byteOf_6 ?_
    refine cr_top (y := nI 12) (by decide) ?_
    refine lv_ishr hx hb dX1_byteOf_7 ?_
    refine cr_top (y := nI (c0 / 4096)) (pk_shrN (by omega) _ 12 (by decide)) ?_
    refine lv_istore_n (lv' := [(3, .int (nI (c0 / 4096))), (0, .int (nI c0)), (1, .int (nI 3)), (2, .int (nI 1))]) hx hb dX1_byteOf_8 rfl hl (by decide) rfl (fun ls hl => ?_)
    refine lv_iload_n hx hb dX1_byteOf_9 rfl (lv_at hl 3 rfl) ?_
    refine lv_iconst (v := nI 1) hx hb dX1_byteOf_10 (by decide) ?_
    refine lv_icmp_le (tgt := 23) hx hb dX1_byteOf_11 (by decide) (fun c_11 => ?_) (fun c_11 => ?_)
    · refine lv_iload_n hx hb dX1_byteOf_23 rfl (lv_at hl 2 rfl) ?_
      refine lv_iconst (v := nI 1) hx hb dX1_byteOf_24 (by decide) ?_
      refine lv_icmp_ne (tgt := 32) hx hb dX1_byteOf_25 (by decide) (fun c_25 => ?_) (fun c_25 => ?_)
      · refine lv_iload_n hx hb dX1_byteOf_32 rfl (lv_at hl 2 rfl) ?_
        have hPc := hP.sub (ws' := []) [] rfl
        have hDc := hD.sub (ws' := []) [] (by decide) rfl
        have hFc := va_free (wc := []) hD hS hA [] rfl
        refine va_calli (va_runS (As := [.int (nI 3)]) (rest := []) ⟨hx, hb, hml, hown, hts⟩ (c_leadMark l dC dI _ 3 (by decide) (by decide)) (va_cwS 1 hts gX1_byteOf_X1_leadMark rfl rfl rfl (by decide +kernel) ⟨Nat.le_of_ble_eq_true rfl, Nat.le_of_ble_eq_true rfl⟩) (cr_preS hPc hK hDc) rfl rfl hl.1 rfl (lv_room (Nat.le_of_ble_eq_true rfl)) dX1_byteOf_33 ⟨Nat.zero_le _, Nat.zero_le _⟩) hS (fun q _ h => hFc q h) hFc (fun r_33 u_33 t_33 H_33 locs ht_33 hvm_33 hw_33 hB_33 hz_33 hk_33 hS => ?_)
        obtain ⟨rfl, rfl⟩ := hw_33
        obtain ⟨hP, hD⟩ := cr_back (wr := []) (w1 := []) hP hD [] [] rfl rfl (by decide) (by decide) hk_33 hFc hB_33 ht_33
        clear hPc hDc hFc
        generalize H_33 = H at hP hS ⊢
        have hP := hP.sub (ws' := []) [] rfl
        have hD := hD.sub (ws' := []) [] (by decide) rfl
        refine lv_iload_n hx hb dX1_byteOf_36 rfl (lv_at hl 0 rfl) ?_
        refine lv_ior hx hb dX1_byteOf_37 ?_
        refine cr_top (y := nI (224 + c0 / 4096)) (cr_orlead3 (by omega)) ?_
        exact W.iret (v := nI (224 + c0 / 4096)) hx hb hr (fun t9 ht9 hW9 => ⟨⟨nI (224 + c0 / 4096), [], rfl, ⟨rfl, by rw [show 1 - 1 = 0 from rfl, (cr_by3 (by omega) (by omega)).1]⟩, by rw [ht9]; exact hP, va_K.moved hW9.alike hK, hD⟩, hS.F ht9⟩) hS.2.2 dX1_byteOf_38
      · exact absurd c_25 (by decide)
    · exact absurd (by decide) c_11
  · refine lv_iload_n hx hb dX1_byteOf_0 rfl (lv_at hl 0 rfl) ?_
    refine lv_bipush (v := nI 6) hx hb dX1_byteOf_1 (by decide) ?_
    refine lv_iload_n hx hb dX1_byteOf_3 rfl (lv_at hl 1 rfl) ?_
    refine lv_iload_n hx hb dX1_byteOf_4 rfl (lv_at hl 2 rfl) ?_
    refine lv_isub hx hb dX1_byteOf_5 ?_
    refine cr_top (y := nI 1) (by decide) ?_
    refine lv_imul hx hb dX1_byteOf_6 ?_
    refine cr_top (y := nI 6) (by decide) ?_
    refine lv_ishr hx hb dX1_byteOf_7 ?_
    refine cr_top (y := nI (c0 / 64)) (pk_shrN (by omega) _ 6 (by decide)) ?_
    refine lv_istore_n (lv' := [(3, .int (nI (c0 / 64))), (0, .int (nI c0)), (1, .int (nI 3)), (2, .int (nI 2))]) hx hb dX1_byteOf_8 rfl hl (by decide) rfl (fun ls hl => ?_)
    refine lv_iload_n hx hb dX1_byteOf_9 rfl (lv_at hl 3 rfl) ?_
    refine lv_iconst (v := nI 1) hx hb dX1_byteOf_10 (by decide) ?_
    refine lv_icmp_le (tgt := 23) hx hb dX1_byteOf_11 (by decide) (fun c_11 => ?_) (fun c_11 => ?_)
    · exact absurd c_11 (by decide)
    · refine lv_sipush (v := nI 128) hx hb dX1_byteOf_14 (by decide) ?_
      refine lv_iload_n hx hb dX1_byteOf_17 rfl (lv_at hl 0 rfl) ?_
      refine lv_bipush (v := nI 63) hx hb dX1_byteOf_18 (by decide) ?_
      refine lv_iand hx hb dX1_byteOf_20 ?_
      refine cr_top (y := nI (c0 / 64 % 64)) (cr_and63 (by omega)) ?_
      refine lv_ior hx hb dX1_byteOf_21 ?_
      refine cr_top (y := nI (128 + c0 / 64 % 64)) (cr_or128 (by omega)) ?_
      exact W.iret (v := nI (128 + c0 / 64 % 64)) hx hb hr (fun t9 ht9 hW9 => ⟨⟨nI (128 + c0 / 64 % 64), [], rfl, ⟨rfl, by rw [show 2 - 1 = 1 from rfl, (cr_by3 (by omega) (by omega)).2.1]⟩, by rw [ht9]; exact hP, va_K.moved hW9.alike hK, hD⟩, hS.F ht9⟩) hS.2.2 dX1_byteOf_22
  · refine lv_iload_n hx hb dX1_byteOf_0 rfl (lv_at hl 0 rfl) ?_
    refine lv_bipush (v := nI 6) hx hb dX1_byteOf_1 (by decide) ?_
    refine lv_iload_n hx hb dX1_byteOf_3 rfl (lv_at hl 1 rfl) ?_
    refine lv_iload_n hx hb dX1_byteOf_4 rfl (lv_at hl 2 rfl) ?_
    refine lv_isub hx hb dX1_byteOf_5 ?_
    refine cr_top (y := nI 0) (by decide) ?_
    refine lv_imul hx hb dX1_byteOf_6 ?_
    refine cr_top (y := nI 0) (by decide) ?_
    refine lv_ishr hx hb dX1_byteOf_7 ?_
    refine cr_top (y := nI c0) ((pk_shrN (by omega) _ 0 (by decide)).trans (by simp)) ?_
    refine lv_istore_n (lv' := [(3, .int (nI c0)), (0, .int (nI c0)), (1, .int (nI 3)), (2, .int (nI 3))]) hx hb dX1_byteOf_8 rfl hl (by decide) rfl (fun ls hl => ?_)
    refine lv_iload_n hx hb dX1_byteOf_9 rfl (lv_at hl 3 rfl) ?_
    refine lv_iconst (v := nI 1) hx hb dX1_byteOf_10 (by decide) ?_
    refine lv_icmp_le (tgt := 23) hx hb dX1_byteOf_11 (by decide) (fun c_11 => ?_) (fun c_11 => ?_)
    · exact absurd c_11 (by decide)
    · refine lv_sipush (v := nI 128) hx hb dX1_byteOf_14 (by decide) ?_
      refine lv_iload_n hx hb dX1_byteOf_17 rfl (lv_at hl 0 rfl) ?_
      refine lv_bipush (v := nI 63) hx hb dX1_byteOf_18 (by decide) ?_
      refine lv_iand hx hb dX1_byteOf_20 ?_
      refine cr_top (y := nI (c0 % 64)) (cr_and63 (by omega)) ?_
      refine lv_ior hx hb dX1_byteOf_21 ?_
      refine cr_top (y := nI (128 + c0 % 64)) (cr_or128 (by omega)) ?_
      exact W.iret (v := nI (128 + c0 % 64)) hx hb hr (fun t9 ht9 hW9 => ⟨⟨nI (128 + c0 % 64), [], rfl, ⟨rfl, by rw [show 3 - 1 = 2 from rfl, (cr_by3 (by omega) (by omega)).2.2]⟩, by rw [ht9]; exact hP, va_K.moved hW9.alike hK, hD⟩, hS.F ht9⟩) hS.2.2 dX1_byteOf_22
  · refine lv_iload_n hx hb dX1_byteOf_0 rfl (lv_at hl 0 rfl) ?_
    refine lv_bipush (v := nI 6) hx hb dX1_byteOf_1 (by decide) ?_
    refine lv_iload_n hx hb dX1_byteOf_3 rfl (lv_at hl 1 rfl) ?_
    refine lv_iload_n hx hb dX1_byteOf_4 rfl (lv_at hl 2 rfl) ?_
    refine lv_isub hx hb dX1_byteOf_5 ?_
    refine cr_top (y := nI 3) (by decide) ?_
    refine lv_imul hx hb dX1_byteOf_6 ?_
    refine cr_top (y := nI 18) (by decide) ?_
    refine lv_ishr hx hb dX1_byteOf_7 ?_
    refine cr_top (y := nI (c0 / 262144)) (pk_shrN (by omega) _ 18 (by decide)) ?_
    refine lv_istore_n (lv' := [(3, .int (nI (c0 / 262144))), (0, .int (nI c0)), (1, .int (nI 4)), (2, .int (nI 1))]) hx hb dX1_byteOf_8 rfl hl (by decide) rfl (fun ls hl => ?_)
    refine lv_iload_n hx hb dX1_byteOf_9 rfl (lv_at hl 3 rfl) ?_
    refine lv_iconst (v := nI 1) hx hb dX1_byteOf_10 (by decide) ?_
    refine lv_icmp_le (tgt := 23) hx hb dX1_byteOf_11 (by decide) (fun c_11 => ?_) (fun c_11 => ?_)
    · refine lv_iload_n hx hb dX1_byteOf_23 rfl (lv_at hl 2 rfl) ?_
      refine lv_iconst (v := nI 1) hx hb dX1_byteOf_24 (by decide) ?_
      refine lv_icmp_ne (tgt := 32) hx hb dX1_byteOf_25 (by decide) (fun c_25 => ?_) (fun c_25 => ?_)
      · refine lv_iload_n hx hb dX1_byteOf_32 rfl (lv_at hl 2 rfl) ?_
        have hPc := hP.sub (ws' := []) [] rfl
        have hDc := hD.sub (ws' := []) [] (by decide) rfl
        have hFc := va_free (wc := []) hD hS hA [] rfl
        refine va_calli (va_runS (As := [.int (nI 4)]) (rest := []) ⟨hx, hb, hml, hown, hts⟩ (c_leadMark l dC dI _ 4 (by decide) (by decide)) (va_cwS 1 hts gX1_byteOf_X1_leadMark rfl rfl rfl (by decide +kernel) ⟨Nat.le_of_ble_eq_true rfl, Nat.le_of_ble_eq_true rfl⟩) (cr_preS hPc hK hDc) rfl rfl hl.1 rfl (lv_room (Nat.le_of_ble_eq_true rfl)) dX1_byteOf_33 ⟨Nat.zero_le _, Nat.zero_le _⟩) hS (fun q _ h => hFc q h) hFc (fun r_33 u_33 t_33 H_33 locs ht_33 hvm_33 hw_33 hB_33 hz_33 hk_33 hS => ?_)
        obtain ⟨rfl, rfl⟩ := hw_33
        obtain ⟨hP, hD⟩ := cr_back (wr := []) (w1 := []) hP hD [] [] rfl rfl (by decide) (by decide) hk_33 hFc hB_33 ht_33
        clear hPc hDc hFc
        generalize H_33 = H at hP hS ⊢
        have hP := hP.sub (ws' := []) [] rfl
        have hD := hD.sub (ws' := []) [] (by decide) rfl
        refine lv_iload_n hx hb dX1_byteOf_36 rfl (lv_at hl 0 rfl) ?_
        refine lv_ior hx hb dX1_byteOf_37 ?_
        refine cr_top (y := nI (240 + c0 / 262144)) (cr_orlead4 (by omega)) ?_
        exact W.iret (v := nI (240 + c0 / 262144)) hx hb hr (fun t9 ht9 hW9 => ⟨⟨nI (240 + c0 / 262144), [], rfl, ⟨rfl, by rw [show 1 - 1 = 0 from rfl, (cr_by4 (by omega)).1]⟩, by rw [ht9]; exact hP, va_K.moved hW9.alike hK, hD⟩, hS.F ht9⟩) hS.2.2 dX1_byteOf_38
      · exact absurd c_25 (by decide)
    · exact absurd (by decide) c_11
  · refine lv_iload_n hx hb dX1_byteOf_0 rfl (lv_at hl 0 rfl) ?_
    refine lv_bipush (v := nI 6) hx hb dX1_byteOf_1 (by decide) ?_
    refine lv_iload_n hx hb dX1_byteOf_3 rfl (lv_at hl 1 rfl) ?_
    refine lv_iload_n hx hb dX1_byteOf_4 rfl (lv_at hl 2 rfl) ?_
    refine lv_isub hx hb dX1_byteOf_5 ?_
    refine cr_top (y := nI 2) (by decide) ?_
    refine lv_imul hx hb dX1_byteOf_6 ?_
    refine cr_top (y := nI 12) (by decide) ?_
    refine lv_ishr hx hb dX1_byteOf_7 ?_
    refine cr_top (y := nI (c0 / 4096)) (pk_shrN (by omega) _ 12 (by decide)) ?_
    refine lv_istore_n (lv' := [(3, .int (nI (c0 / 4096))), (0, .int (nI c0)), (1, .int (nI 4)), (2, .int (nI 2))]) hx hb dX1_byteOf_8 rfl hl (by decide) rfl (fun ls hl => ?_)
    refine lv_iload_n hx hb dX1_byteOf_9 rfl (lv_at hl 3 rfl) ?_
    refine lv_iconst (v := nI 1) hx hb dX1_byteOf_10 (by decide) ?_
    refine lv_icmp_le (tgt := 23) hx hb dX1_byteOf_11 (by decide) (fun c_11 => ?_) (fun c_11 => ?_)
    · exact absurd c_11 (by decide)
    · refine lv_sipush (v := nI 128) hx hb dX1_byteOf_14 (by decide) ?_
      refine lv_iload_n hx hb dX1_byteOf_17 rfl (lv_at hl 0 rfl) ?_
      refine lv_bipush (v := nI 63) hx hb dX1_byteOf_18 (by decide) ?_
      refine lv_iand hx hb dX1_byteOf_20 ?_
      refine cr_top (y := nI (c0 / 4096 % 64)) (cr_and63 (by omega)) ?_
      refine lv_ior hx hb dX1_byteOf_21 ?_
      refine cr_top (y := nI (128 + c0 / 4096 % 64)) (cr_or128 (by omega)) ?_
      exact W.iret (v := nI (128 + c0 / 4096 % 64)) hx hb hr (fun t9 ht9 hW9 => ⟨⟨nI (128 + c0 / 4096 % 64), [], rfl, ⟨rfl, by rw [show 2 - 1 = 1 from rfl, (cr_by4 (by omega)).2.1]⟩, by rw [ht9]; exact hP, va_K.moved hW9.alike hK, hD⟩, hS.F ht9⟩) hS.2.2 dX1_byteOf_22
  · refine lv_iload_n hx hb dX1_byteOf_0 rfl (lv_at hl 0 rfl) ?_
    refine lv_bipush (v := nI 6) hx hb dX1_byteOf_1 (by decide) ?_
    refine lv_iload_n hx hb dX1_byteOf_3 rfl (lv_at hl 1 rfl) ?_
    refine lv_iload_n hx hb dX1_byteOf_4 rfl (lv_at hl 2 rfl) ?_
    refine lv_isub hx hb dX1_byteOf_5 ?_
    refine cr_top (y := nI 1) (by decide) ?_
    refine lv_imul hx hb dX1_byteOf_6 ?_
    refine cr_top (y := nI 6) (by decide) ?_
    refine lv_ishr hx hb dX1_byteOf_7 ?_
    refine cr_top (y := nI (c0 / 64)) (pk_shrN (by omega) _ 6 (by decide)) ?_
    refine lv_istore_n (lv' := [(3, .int (nI (c0 / 64))), (0, .int (nI c0)), (1, .int (nI 4)), (2, .int (nI 3))]) hx hb dX1_byteOf_8 rfl hl (by decide) rfl (fun ls hl => ?_)
    refine lv_iload_n hx hb dX1_byteOf_9 rfl (lv_at hl 3 rfl) ?_
    refine lv_iconst (v := nI 1) hx hb dX1_byteOf_10 (by decide) ?_
    refine lv_icmp_le (tgt := 23) hx hb dX1_byteOf_11 (by decide) (fun c_11 => ?_) (fun c_11 => ?_)
    · exact absurd c_11 (by decide)
    · refine lv_sipush (v := nI 128) hx hb dX1_byteOf_14 (by decide) ?_
      refine lv_iload_n hx hb dX1_byteOf_17 rfl (lv_at hl 0 rfl) ?_
      refine lv_bipush (v := nI 63) hx hb dX1_byteOf_18 (by decide) ?_
      refine lv_iand hx hb dX1_byteOf_20 ?_
      refine cr_top (y := nI (c0 / 64 % 64)) (cr_and63 (by omega)) ?_
      refine lv_ior hx hb dX1_byteOf_21 ?_
      refine cr_top (y := nI (128 + c0 / 64 % 64)) (cr_or128 (by omega)) ?_
      exact W.iret (v := nI (128 + c0 / 64 % 64)) hx hb hr (fun t9 ht9 hW9 => ⟨⟨nI (128 + c0 / 64 % 64), [], rfl, ⟨rfl, by rw [show 3 - 1 = 2 from rfl, (cr_by4 (by omega)).2.2.1]⟩, by rw [ht9]; exact hP, va_K.moved hW9.alike hK, hD⟩, hS.F ht9⟩) hS.2.2 dX1_byteOf_22
  · refine lv_iload_n hx hb dX1_byteOf_0 rfl (lv_at hl 0 rfl) ?_
    refine lv_bipush (v := nI 6) hx hb dX1_byteOf_1 (by decide) ?_
    refine lv_iload_n hx hb dX1_byteOf_3 rfl (lv_at hl 1 rfl) ?_
    refine lv_iload_n hx hb dX1_byteOf_4 rfl (lv_at hl 2 rfl) ?_
    refine lv_isub hx hb dX1_byteOf_5 ?_
    refine cr_top (y := nI 0) (by decide) ?_
    refine lv_imul hx hb dX1_byteOf_6 ?_
    refine cr_top (y := nI 0) (by decide) ?_
    refine lv_ishr hx hb dX1_byteOf_7 ?_
    refine cr_top (y := nI c0) ((pk_shrN (by omega) _ 0 (by decide)).trans (by simp)) ?_
    refine lv_istore_n (lv' := [(3, .int (nI c0)), (0, .int (nI c0)), (1, .int (nI 4)), (2, .int (nI 4))]) hx hb dX1_byteOf_8 rfl hl (by decide) rfl (fun ls hl => ?_)
    refine lv_iload_n hx hb dX1_byteOf_9 rfl (lv_at hl 3 rfl) ?_
    refine lv_iconst (v := nI 1) hx hb dX1_byteOf_10 (by decide) ?_
    refine lv_icmp_le (tgt := 23) hx hb dX1_byteOf_11 (by decide) (fun c_11 => ?_) (fun c_11 => ?_)
    · exact absurd c_11 (by decide)
    · refine lv_sipush (v := nI 128) hx hb dX1_byteOf_14 (by decide) ?_
      refine lv_iload_n hx hb dX1_byteOf_17 rfl (lv_at hl 0 rfl) ?_
      refine lv_bipush (v := nI 63) hx hb dX1_byteOf_18 (by decide) ?_
      refine lv_iand hx hb dX1_byteOf_20 ?_
      refine cr_top (y := nI (c0 % 64)) (cr_and63 (by omega)) ?_
      refine lv_ior hx hb dX1_byteOf_21 ?_
      refine cr_top (y := nI (128 + c0 % 64)) (cr_or128 (by omega)) ?_
      exact W.iret (v := nI (128 + c0 % 64)) hx hb hr (fun t9 ht9 hW9 => ⟨⟨nI (128 + c0 % 64), [], rfl, ⟨rfl, by rw [show 4 - 1 = 3 from rfl, (cr_by4 (by omega)).2.2.2]⟩, by rw [ht9]; exact hP, va_K.moved hW9.alike hK, hD⟩, hS.F ht9⟩) hS.2.2 dX1_byteOf_22

set_option maxHeartbeats 4000000 in
set_option maxRecDepth 100000 in
theorem c_byteAt (l : Launch) (dC : Nat → ClassId) (dI : Nat → Nat → Nat) (sz : Nat) (x : Int32) (i : Nat) (h1 : 1 ≤ i) (h4 : i ≤ 4) : Met l yX1_byteAt wsX1_byteAt ({ frames := 1, cells := 0, slots := 0, locals := 20 }) (va_Pc [.int x, .int (nI i)] (cr_pre dC dI [] [] sz)) (va_Qi (fun (rr : Int32) (u : va_W) => u = [] ∧ rr = nI (cr_ba x i)) (cr_at dC dI [] (va_A [] sz)) (va_A [] sz)) 0 0 (va_A [] sz) := by
  refine Met.ofW (cc := cX1_byteAt) (maxL := 2) (ret := (some .int)) (by decide) rfl ?_
  intro p e s m args below meth c s₁ B hml hv
  obtain ⟨rfl, hsz, hP, hK, hD0⟩ := hv
  have hx := B.exec
  have hb := B.bytes
  have hr := B.returns
  have hts := atoms_spec (ws := wsX1_byteAt) B.pre
  have hown : s.vm.findClass RX1 = some m.cls := findClass_of_methodNamed B.named
  have hlocks := B.notSynchronized
  subst hsz
  have hD := hD0.self (sz := s.heap.size)
  generalize hAe : va_A [] s.heap.size = A at hD ⊢
  have hA : ∀ q : Nat, s.heap.size ≤ q → A q := fun q h => by rw [← hAe]; exact Or.inr h
  have hS : va_S A s.heap s.heap [] := va_S.rf
  have hP : va_P (dC, dI) crCl [] s.heap := hP
  have hl := lv_entry ([.int x, .int (nI i)]) (n := 2) (Nat.le_of_ble_eq_true rfl)
  rw [lg_entry_eq]
  generalize (lg_sl ([.int x, .int (nI i)]) ++ List.replicate (2 - (lg_sl ([.int x, .int (nI i)])).length) Slot.unset).toArray = ls at hl ⊢
  have hl : lv_has ls 2 [(0, .int x), (1, .int (nI i))] := hl
  rcases (show i = 1 ∨ i = 2 ∨ i = 3 ∨ i = 4 by omega) with rfl | rfl | rfl | rfl
  · refine lv_iload_n hx hb dX1_byteAt_0 rfl (lv_at hl 0 rfl) ?_
    refine lv_bipush (v := nI 32) hx hb dX1_byteAt_1 (by decide) ?_
    refine lv_bipush (v := nI 8) hx hb dX1_byteAt_3 (by decide) ?_
    refine lv_iload_n hx hb dX1_byteAt_5 rfl (lv_at hl 1 rfl) ?_
    refine lv_imul hx hb dX1_byteAt_6 ?_
    refine cr_top (y := nI 8) (by decide) ?_
    refine lv_isub hx hb dX1_byteAt_7 ?_
    refine cr_top (y := nI 24) (by decide) ?_
    refine lv_iushr (v := (x.toUInt32 >>> ((nI 24).toUInt32 &&& Int32.toUInt32 31)).toInt32) hx hb dX1_byteAt_8 (rfl) ?_
    refine lv_sipush (v := nI 255) hx hb dX1_byteAt_9 (by decide) ?_
    refine lv_iand hx hb dX1_byteAt_12 ?_
    refine cr_top (y := nI (cr_ba x 1)) (by rw [pk_and _ 8 (by decide), pk_ushr _ _ 24 (by decide)]; rfl) ?_
    exact W.iret (v := nI (cr_ba x 1)) hx hb hr (fun t9 ht9 hW9 => ⟨⟨nI (cr_ba x 1), [], rfl, ⟨rfl, rfl⟩, by rw [ht9]; exact hP, va_K.moved hW9.alike hK, hD⟩, hS.F ht9⟩) hS.2.2 dX1_byteAt_13
  · refine lv_iload_n hx hb dX1_byteAt_0 rfl (lv_at hl 0 rfl) ?_
    refine lv_bipush (v := nI 32) hx hb dX1_byteAt_1 (by decide) ?_
    refine lv_bipush (v := nI 8) hx hb dX1_byteAt_3 (by decide) ?_
    refine lv_iload_n hx hb dX1_byteAt_5 rfl (lv_at hl 1 rfl) ?_
    refine lv_imul hx hb dX1_byteAt_6 ?_
    refine cr_top (y := nI 16) (by decide) ?_
    refine lv_isub hx hb dX1_byteAt_7 ?_
    refine cr_top (y := nI 16) (by decide) ?_
    refine lv_iushr (v := (x.toUInt32 >>> ((nI 16).toUInt32 &&& Int32.toUInt32 31)).toInt32) hx hb dX1_byteAt_8 (rfl) ?_
    refine lv_sipush (v := nI 255) hx hb dX1_byteAt_9 (by decide) ?_
    refine lv_iand hx hb dX1_byteAt_12 ?_
    refine cr_top (y := nI (cr_ba x 2)) (by rw [pk_and _ 8 (by decide), pk_ushr _ _ 16 (by decide)]; rfl) ?_
    exact W.iret (v := nI (cr_ba x 2)) hx hb hr (fun t9 ht9 hW9 => ⟨⟨nI (cr_ba x 2), [], rfl, ⟨rfl, rfl⟩, by rw [ht9]; exact hP, va_K.moved hW9.alike hK, hD⟩, hS.F ht9⟩) hS.2.2 dX1_byteAt_13
  · refine lv_iload_n hx hb dX1_byteAt_0 rfl (lv_at hl 0 rfl) ?_
    refine lv_bipush (v := nI 32) hx hb dX1_byteAt_1 (by decide) ?_
    refine lv_bipush (v := nI 8) hx hb dX1_byteAt_3 (by decide) ?_
    refine lv_iload_n hx hb dX1_byteAt_5 rfl (lv_at hl 1 rfl) ?_
    refine lv_imul hx hb dX1_byteAt_6 ?_
    refine cr_top (y := nI 24) (by decide) ?_
    refine lv_isub hx hb dX1_byteAt_7 ?_
    refine cr_top (y := nI 8) (by decide) ?_
    refine lv_iushr (v := (x.toUInt32 >>> ((nI 8).toUInt32 &&& Int32.toUInt32 31)).toInt32) hx hb dX1_byteAt_8 (rfl) ?_
    refine lv_sipush (v := nI 255) hx hb dX1_byteAt_9 (by decide) ?_
    refine lv_iand hx hb dX1_byteAt_12 ?_
    refine cr_top (y := nI (cr_ba x 3)) (by rw [pk_and _ 8 (by decide), pk_ushr _ _ 8 (by decide)]; rfl) ?_
    exact W.iret (v := nI (cr_ba x 3)) hx hb hr (fun t9 ht9 hW9 => ⟨⟨nI (cr_ba x 3), [], rfl, ⟨rfl, rfl⟩, by rw [ht9]; exact hP, va_K.moved hW9.alike hK, hD⟩, hS.F ht9⟩) hS.2.2 dX1_byteAt_13
  · refine lv_iload_n hx hb dX1_byteAt_0 rfl (lv_at hl 0 rfl) ?_
    refine lv_bipush (v := nI 32) hx hb dX1_byteAt_1 (by decide) ?_
    refine lv_bipush (v := nI 8) hx hb dX1_byteAt_3 (by decide) ?_
    refine lv_iload_n hx hb dX1_byteAt_5 rfl (lv_at hl 1 rfl) ?_
    refine lv_imul hx hb dX1_byteAt_6 ?_
    refine cr_top (y := nI 32) (by decide) ?_
    refine lv_isub hx hb dX1_byteAt_7 ?_
    refine cr_top (y := nI 0) (by decide) ?_
    refine lv_iushr (v := (x.toUInt32 >>> ((nI 0).toUInt32 &&& Int32.toUInt32 31)).toInt32) hx hb dX1_byteAt_8 (rfl) ?_
    refine lv_sipush (v := nI 255) hx hb dX1_byteAt_9 (by decide) ?_
    refine lv_iand hx hb dX1_byteAt_12 ?_
    refine cr_top (y := nI (cr_ba x 4)) (by rw [pk_and _ 8 (by decide), pk_ushr _ _ 0 (by decide)]; rfl) ?_
    exact W.iret (v := nI (cr_ba x 4)) hx hb hr (fun t9 ht9 hW9 => ⟨⟨nI (cr_ba x 4), [], rfl, ⟨rfl, rfl⟩, by rw [ht9]; exact hP, va_K.moved hW9.alike hK, hD⟩, hS.F ht9⟩) hS.2.2 dX1_byteAt_13

set_option maxHeartbeats 4000000 in
set_option maxRecDepth 100000 in
theorem c_decode (l : Launch) (dC : Nat → ClassId) (dI : Nat → Nat → Nat) (sz : Nat) (x : Int32) (n0 : Nat) (h1 : 1 ≤ n0) (h4 : n0 ≤ 4) : Met l yX1_decode wsX1_decode ({ frames := 2, cells := 0, slots := 0, locals := 60 }) (va_Pc [.int x, .int (nI n0)] (cr_pre dC dI [] [] sz)) (va_Qi (fun (rr : Int32) (u : va_W) => u = [] ∧ rr = nI (cr_dec x n0)) (cr_at dC dI [] (va_A [] sz)) (va_A [] sz)) 0 0 (va_A [] sz) := by
  refine Met.ofW (cc := cX1_decode) (maxL := 4) (ret := (some .int)) (by decide) rfl ?_
  intro p e s m args below meth c s₁ B hml hv
  obtain ⟨rfl, hsz, hP, hK, hD0⟩ := hv
  have hx := B.exec
  have hb := B.bytes
  have hr := B.returns
  have hts := atoms_spec (ws := wsX1_decode) B.pre
  have hown : s.vm.findClass RX1 = some m.cls := findClass_of_methodNamed B.named
  have hlocks := B.notSynchronized
  subst hsz
  have hD := hD0.self (sz := s.heap.size)
  generalize hAe : va_A [] s.heap.size = A at hD ⊢
  have hA : ∀ q : Nat, s.heap.size ≤ q → A q := fun q h => by rw [← hAe]; exact Or.inr h
  have hS : va_S A s.heap s.heap [] := va_S.rf
  have hP : va_P (dC, dI) crCl [] s.heap := hP
  have hl := lv_entry ([.int x, .int (nI n0)]) (n := 4) (Nat.le_of_ble_eq_true rfl)
  rw [lg_entry_eq]
  generalize (lg_sl ([.int x, .int (nI n0)]) ++ List.replicate (4 - (lg_sl ([.int x, .int (nI n0)])).length) Slot.unset).toArray = ls at hl ⊢
  have hl : lv_has ls 4 [(0, .int x), (1, .int (nI n0))] := hl
  have hb1 := cr_ba_lt x 1
  have hb2 := cr_ba_lt x 2
  have hb3 := cr_ba_lt x 3
  have hb4 := cr_ba_lt x 4
  rcases (show n0 = 1 ∨ n0 = 2 ∨ n0 = 3 ∨ n0 = 4 by omega) with rfl | rfl | rfl | rfl
  · refine lv_iload_n hx hb dX1_decode_0 rfl (lv_at hl 0 rfl) ?_
    refine lv_iconst (v := nI 1) hx hb dX1_decode_1 (by decide) ?_
    have hPc := hP.sub (ws' := []) [] rfl
    have hDc := hD.sub (ws' := []) [] (by decide) rfl
    have hFc := va_free (wc := []) hD hS hA [] rfl
    refine va_calli (va_runS (As := [.int x, .int (nI 1)]) (rest := []) ⟨hx, hb, hml, hown, hts⟩ (c_byteAt l dC dI _ x 1 (by decide) (by decide)) (va_cwS 2 hts gX1_decode_X1_byteAt rfl rfl rfl (by decide +kernel) ⟨Nat.le_of_ble_eq_true rfl, Nat.le_of_ble_eq_true rfl⟩) (cr_preS hPc hK hDc) rfl rfl hl.1 rfl (lv_room (Nat.le_of_ble_eq_true rfl)) dX1_decode_2 ⟨Nat.zero_le _, Nat.zero_le _⟩) hS (fun q _ h => hFc q h) hFc (fun r_2 u_2 t_2 H_2 locs ht_2 hvm_2 hw_2 hB_2 hz_2 hk_2 hS => ?_)
    obtain ⟨rfl, rfl⟩ := hw_2
    obtain ⟨hP, hD⟩ := cr_back (wr := []) (w1 := []) hP hD [] [] rfl rfl (by decide) (by decide) hk_2 hFc hB_2 ht_2
    clear hPc hDc hFc
    generalize H_2 = H at hP hS ⊢
    have hP := hP.sub (ws' := []) [] rfl
    have hD := hD.sub (ws' := []) [] (by decide) rfl
    refine lv_istore_n (lv' := [(2, .int (nI (cr_ba x 1))), (0, .int x), (1, .int (nI 1))]) hx hb dX1_decode_5 rfl hl (by decide) rfl (fun ls hl => ?_)
    refine lv_iload_n hx hb dX1_decode_6 rfl (lv_at hl 2 rfl) ?_
    refine lv_iconst (v := nI 1) hx hb dX1_decode_7 (by decide) ?_
    refine lv_icmp_le (tgt := 21) hx hb dX1_decode_8 (by decide) (fun c_8 => ?_) (fun c_8 => ?_)
    · refine lv_iconst (v := nI 2) hx hb dX1_decode_21 (by decide) ?_
      refine lv_istore_n (lv' := [(3, .int (nI 2)), (2, .int (nI (cr_ba x 1))), (0, .int x), (1, .int (nI 1))]) hx hb dX1_decode_22 rfl hl (by decide) rfl (fun ls hl => ?_)
      refine lv_iload_n hx hb dX1_decode_23 rfl (lv_at hl 0 rfl) ?_
      refine lv_iload_n hx hb dX1_decode_24 rfl (lv_at hl 3 rfl) ?_
      refine lv_icmp_gt (tgt := 48) hx hb dX1_decode_25 (by decide) (fun c_25 => ?_) (fun c_25 => ?_)
      · refine lv_iload_n hx hb dX1_decode_48 rfl (lv_at hl 1 rfl) ?_
        exact W.iret (v := nI (cr_ba x 1)) hx hb hr (fun t9 ht9 hW9 => ⟨⟨nI (cr_ba x 1), [], rfl, ⟨rfl, rfl⟩, by rw [ht9]; exact hP, va_K.moved hW9.alike hK, hD⟩, hS.F ht9⟩) hS.2.2 dX1_decode_49
      · exact absurd (by decide) c_25
    · exact absurd (by decide) c_8
  · refine lv_iload_n hx hb dX1_decode_0 rfl (lv_at hl 0 rfl) ?_
    refine lv_iconst (v := nI 1) hx hb dX1_decode_1 (by decide) ?_
    have hPc := hP.sub (ws' := []) [] rfl
    have hDc := hD.sub (ws' := []) [] (by decide) rfl
    have hFc := va_free (wc := []) hD hS hA [] rfl
    refine va_calli (va_runS (As := [.int x, .int (nI 1)]) (rest := []) ⟨hx, hb, hml, hown, hts⟩ (c_byteAt l dC dI _ x 1 (by decide) (by decide)) (va_cwS 2 hts gX1_decode_X1_byteAt rfl rfl rfl (by decide +kernel) ⟨Nat.le_of_ble_eq_true rfl, Nat.le_of_ble_eq_true rfl⟩) (cr_preS hPc hK hDc) rfl rfl hl.1 rfl (lv_room (Nat.le_of_ble_eq_true rfl)) dX1_decode_2 ⟨Nat.zero_le _, Nat.zero_le _⟩) hS (fun q _ h => hFc q h) hFc (fun r_2 u_2 t_2 H_2 locs ht_2 hvm_2 hw_2 hB_2 hz_2 hk_2 hS => ?_)
    obtain ⟨rfl, rfl⟩ := hw_2
    obtain ⟨hP, hD⟩ := cr_back (wr := []) (w1 := []) hP hD [] [] rfl rfl (by decide) (by decide) hk_2 hFc hB_2 ht_2
    clear hPc hDc hFc
    generalize H_2 = H at hP hS ⊢
    have hP := hP.sub (ws' := []) [] rfl
    have hD := hD.sub (ws' := []) [] (by decide) rfl
    refine lv_istore_n (lv' := [(2, .int (nI (cr_ba x 1))), (0, .int x), (1, .int (nI 2))]) hx hb dX1_decode_5 rfl hl (by decide) rfl (fun ls hl => ?_)
    refine lv_iload_n hx hb dX1_decode_6 rfl (lv_at hl 2 rfl) ?_
    refine lv_iconst (v := nI 1) hx hb dX1_decode_7 (by decide) ?_
    refine lv_icmp_le (tgt := 21) hx hb dX1_decode_8 (by decide) (fun c_8 => ?_) (fun c_8 => ?_)
    · exact absurd c_8 (by decide)
    · refine lv_iload_n hx hb dX1_decode_11 rfl (lv_at hl 0 rfl) ?_
      refine lv_sipush (v := nI 255) hx hb dX1_decode_12 (by decide) ?_
      refine lv_iload_n hx hb dX1_decode_15 rfl (lv_at hl 2 rfl) ?_
      refine lv_iconst (v := nI 1) hx hb dX1_decode_16 (by decide) ?_
      refine lv_iadd hx hb dX1_decode_17 ?_
      refine cr_top (y := nI 3) (by decide) ?_
      refine lv_ishr hx hb dX1_decode_18 ?_
      refine cr_top (y := nI 31) (by decide) ?_
      refine lv_iand hx hb dX1_decode_19 ?_
      refine cr_top (y := nI (cr_ba x 1 % 32)) (pk_andN (by omega) 5 (by decide)) ?_
      refine lv_istore_n (lv' := [(2, .int (nI (cr_ba x 1 % 32))), (0, .int x), (1, .int (nI 2))]) hx hb dX1_decode_20 rfl hl (by decide) rfl (fun ls hl => ?_)
      refine lv_iconst (v := nI 2) hx hb dX1_decode_21 (by decide) ?_
      refine lv_istore_n (lv' := [(3, .int (nI 2)), (2, .int (nI (cr_ba x 1 % 32))), (0, .int x), (1, .int (nI 2))]) hx hb dX1_decode_22 rfl hl (by decide) rfl (fun ls hl => ?_)
      refine lv_iload_n hx hb dX1_decode_23 rfl (lv_at hl 0 rfl) ?_
      refine lv_iload_n hx hb dX1_decode_24 rfl (lv_at hl 3 rfl) ?_
      refine lv_icmp_gt (tgt := 48) hx hb dX1_decode_25 (by decide) (fun c_25 => ?_) (fun c_25 => ?_)
      · exact absurd c_25 (by decide)
      · refine lv_iload_n hx hb dX1_decode_28 rfl (lv_at hl 1 rfl) ?_
        refine lv_bipush (v := nI 6) hx hb dX1_decode_29 (by decide) ?_
        refine lv_ishl hx hb dX1_decode_31 ?_
        refine cr_top (y := nI ((cr_ba x 1 % 32) * 64)) (pk_shlN _ 6 (by decide) (by omega)) ?_
        refine lv_iload_n hx hb dX1_decode_32 rfl (lv_at hl 2 rfl) ?_
        refine lv_iload_n hx hb dX1_decode_33 rfl (lv_at hl 0 rfl) ?_
        have hPc := hP.sub (ws' := []) [] rfl
        have hDc := hD.sub (ws' := []) [] (by decide) rfl
        have hFc := va_free (wc := []) hD hS hA [] rfl
        refine va_calli (va_runS (As := [.int x, .int (nI 2)]) (rest := [.int (nI ((cr_ba x 1 % 32) * 64))]) ⟨hx, hb, hml, hown, hts⟩ (c_byteAt l dC dI _ x 2 (by decide) (by decide)) (va_cwS 2 hts gX1_decode_X1_byteAt rfl rfl rfl (by decide +kernel) ⟨Nat.le_of_ble_eq_true rfl, Nat.le_of_ble_eq_true rfl⟩) (cr_preS hPc hK hDc) rfl rfl hl.1 rfl (lv_room (Nat.le_of_ble_eq_true rfl)) dX1_decode_34 ⟨Nat.zero_le _, Nat.zero_le _⟩) hS (fun q _ h => hFc q h) hFc (fun r_34 u_34 t_34 H_34 locs ht_34 hvm_34 hw_34 hB_34 hz_34 hk_34 hS => ?_)
        obtain ⟨rfl, rfl⟩ := hw_34
        obtain ⟨hP, hD⟩ := cr_back (wr := []) (w1 := []) hP hD [] [] rfl rfl (by decide) (by decide) hk_34 hFc hB_34 ht_34
        clear hPc hDc hFc
        generalize H_34 = H at hP hS ⊢
        have hP := hP.sub (ws' := []) [] rfl
        have hD := hD.sub (ws' := []) [] (by decide) rfl
        refine lv_bipush (v := nI 63) hx hb dX1_decode_37 (by decide) ?_
        refine lv_iand hx hb dX1_decode_39 ?_
        refine cr_top (y := nI (cr_ba x 2 % 64)) (cr_and63 (by omega)) ?_
        refine lv_ior hx hb dX1_decode_40 ?_
        refine cr_top (y := nI ((cr_ba x 1 % 32) * 64 + cr_ba x 2 % 64)) (cr_or6 (by omega)) ?_
        refine lv_istore_n (lv' := [(2, .int (nI ((cr_ba x 1 % 32) * 64 + cr_ba x 2 % 64))), (3, .int (nI 2)), (0, .int x), (1, .int (nI 2))]) hx hb dX1_decode_41 rfl hl (by decide) rfl (fun ls hl => ?_)
        refine lv_iinc (v := nI 3) (lv' := [(3, .int (nI 3)), (2, .int (nI ((cr_ba x 1 % 32) * 64 + cr_ba x 2 % 64))), (0, .int x), (1, .int (nI 2))]) hx hb dX1_decode_42 hl (k := 1) rfl (by decide) (by decide) rfl (fun ls hl => ?_)
        refine lv_goto (tgt := 23) hx hb dX1_decode_45 (by decide) ?_
        refine lv_iload_n hx hb dX1_decode_23 rfl (lv_at hl 0 rfl) ?_
        refine lv_iload_n hx hb dX1_decode_24 rfl (lv_at hl 3 rfl) ?_
        refine lv_icmp_gt (tgt := 48) hx hb dX1_decode_25 (by decide) (fun c_25 => ?_) (fun c_25 => ?_)
        · refine lv_iload_n hx hb dX1_decode_48 rfl (lv_at hl 1 rfl) ?_
          exact W.iret (v := nI ((cr_ba x 1 % 32) * 64 + cr_ba x 2 % 64)) hx hb hr (fun t9 ht9 hW9 => ⟨⟨nI ((cr_ba x 1 % 32) * 64 + cr_ba x 2 % 64), [], rfl, ⟨rfl, rfl⟩, by rw [ht9]; exact hP, va_K.moved hW9.alike hK, hD⟩, hS.F ht9⟩) hS.2.2 dX1_decode_49
        · exact absurd (by decide) c_25
  · refine lv_iload_n hx hb dX1_decode_0 rfl (lv_at hl 0 rfl) ?_
    refine lv_iconst (v := nI 1) hx hb dX1_decode_1 (by decide) ?_
    have hPc := hP.sub (ws' := []) [] rfl
    have hDc := hD.sub (ws' := []) [] (by decide) rfl
    have hFc := va_free (wc := []) hD hS hA [] rfl
    refine va_calli (va_runS (As := [.int x, .int (nI 1)]) (rest := []) ⟨hx, hb, hml, hown, hts⟩ (c_byteAt l dC dI _ x 1 (by decide) (by decide)) (va_cwS 2 hts gX1_decode_X1_byteAt rfl rfl rfl (by decide +kernel) ⟨Nat.le_of_ble_eq_true rfl, Nat.le_of_ble_eq_true rfl⟩) (cr_preS hPc hK hDc) rfl rfl hl.1 rfl (lv_room (Nat.le_of_ble_eq_true rfl)) dX1_decode_2 ⟨Nat.zero_le _, Nat.zero_le _⟩) hS (fun q _ h => hFc q h) hFc (fun r_2 u_2 t_2 H_2 locs ht_2 hvm_2 hw_2 hB_2 hz_2 hk_2 hS => ?_)
    obtain ⟨rfl, rfl⟩ := hw_2
    obtain ⟨hP, hD⟩ := cr_back (wr := []) (w1 := []) hP hD [] [] rfl rfl (by decide) (by decide) hk_2 hFc hB_2 ht_2
    clear hPc hDc hFc
    generalize H_2 = H at hP hS ⊢
    have hP := hP.sub (ws' := []) [] rfl
    have hD := hD.sub (ws' := []) [] (by decide) rfl
    refine lv_istore_n (lv' := [(2, .int (nI (cr_ba x 1))), (0, .int x), (1, .int (nI 3))]) hx hb dX1_decode_5 rfl hl (by decide) rfl (fun ls hl => ?_)
    refine lv_iload_n hx hb dX1_decode_6 rfl (lv_at hl 2 rfl) ?_
    refine lv_iconst (v := nI 1) hx hb dX1_decode_7 (by decide) ?_
    refine lv_icmp_le (tgt := 21) hx hb dX1_decode_8 (by decide) (fun c_8 => ?_) (fun c_8 => ?_)
    · exact absurd c_8 (by decide)
    · refine lv_iload_n hx hb dX1_decode_11 rfl (lv_at hl 0 rfl) ?_
      refine lv_sipush (v := nI 255) hx hb dX1_decode_12 (by decide) ?_
      refine lv_iload_n hx hb dX1_decode_15 rfl (lv_at hl 2 rfl) ?_
      refine lv_iconst (v := nI 1) hx hb dX1_decode_16 (by decide) ?_
      refine lv_iadd hx hb dX1_decode_17 ?_
      refine cr_top (y := nI 4) (by decide) ?_
      refine lv_ishr hx hb dX1_decode_18 ?_
      refine cr_top (y := nI 15) (by decide) ?_
      refine lv_iand hx hb dX1_decode_19 ?_
      refine cr_top (y := nI (cr_ba x 1 % 16)) (pk_andN (by omega) 4 (by decide)) ?_
      refine lv_istore_n (lv' := [(2, .int (nI (cr_ba x 1 % 16))), (0, .int x), (1, .int (nI 3))]) hx hb dX1_decode_20 rfl hl (by decide) rfl (fun ls hl => ?_)
      refine lv_iconst (v := nI 2) hx hb dX1_decode_21 (by decide) ?_
      refine lv_istore_n (lv' := [(3, .int (nI 2)), (2, .int (nI (cr_ba x 1 % 16))), (0, .int x), (1, .int (nI 3))]) hx hb dX1_decode_22 rfl hl (by decide) rfl (fun ls hl => ?_)
      refine lv_iload_n hx hb dX1_decode_23 rfl (lv_at hl 0 rfl) ?_
      refine lv_iload_n hx hb dX1_decode_24 rfl (lv_at hl 3 rfl) ?_
      refine lv_icmp_gt (tgt := 48) hx hb dX1_decode_25 (by decide) (fun c_25 => ?_) (fun c_25 => ?_)
      · exact absurd c_25 (by decide)
      · refine lv_iload_n hx hb dX1_decode_28 rfl (lv_at hl 1 rfl) ?_
        refine lv_bipush (v := nI 6) hx hb dX1_decode_29 (by decide) ?_
        refine lv_ishl hx hb dX1_decode_31 ?_
        refine cr_top (y := nI ((cr_ba x 1 % 16) * 64)) (pk_shlN _ 6 (by decide) (by omega)) ?_
        refine lv_iload_n hx hb dX1_decode_32 rfl (lv_at hl 2 rfl) ?_
        refine lv_iload_n hx hb dX1_decode_33 rfl (lv_at hl 0 rfl) ?_
        have hPc := hP.sub (ws' := []) [] rfl
        have hDc := hD.sub (ws' := []) [] (by decide) rfl
        have hFc := va_free (wc := []) hD hS hA [] rfl
        refine va_calli (va_runS (As := [.int x, .int (nI 2)]) (rest := [.int (nI ((cr_ba x 1 % 16) * 64))]) ⟨hx, hb, hml, hown, hts⟩ (c_byteAt l dC dI _ x 2 (by decide) (by decide)) (va_cwS 2 hts gX1_decode_X1_byteAt rfl rfl rfl (by decide +kernel) ⟨Nat.le_of_ble_eq_true rfl, Nat.le_of_ble_eq_true rfl⟩) (cr_preS hPc hK hDc) rfl rfl hl.1 rfl (lv_room (Nat.le_of_ble_eq_true rfl)) dX1_decode_34 ⟨Nat.zero_le _, Nat.zero_le _⟩) hS (fun q _ h => hFc q h) hFc (fun r_34 u_34 t_34 H_34 locs ht_34 hvm_34 hw_34 hB_34 hz_34 hk_34 hS => ?_)
        obtain ⟨rfl, rfl⟩ := hw_34
        obtain ⟨hP, hD⟩ := cr_back (wr := []) (w1 := []) hP hD [] [] rfl rfl (by decide) (by decide) hk_34 hFc hB_34 ht_34
        clear hPc hDc hFc
        generalize H_34 = H at hP hS ⊢
        have hP := hP.sub (ws' := []) [] rfl
        have hD := hD.sub (ws' := []) [] (by decide) rfl
        refine lv_bipush (v := nI 63) hx hb dX1_decode_37 (by decide) ?_
        refine lv_iand hx hb dX1_decode_39 ?_
        refine cr_top (y := nI (cr_ba x 2 % 64)) (cr_and63 (by omega)) ?_
        refine lv_ior hx hb dX1_decode_40 ?_
        refine cr_top (y := nI ((cr_ba x 1 % 16) * 64 + cr_ba x 2 % 64)) (cr_or6 (by omega)) ?_
        refine lv_istore_n (lv' := [(2, .int (nI ((cr_ba x 1 % 16) * 64 + cr_ba x 2 % 64))), (3, .int (nI 2)), (0, .int x), (1, .int (nI 3))]) hx hb dX1_decode_41 rfl hl (by decide) rfl (fun ls hl => ?_)
        refine lv_iinc (v := nI 3) (lv' := [(3, .int (nI 3)), (2, .int (nI ((cr_ba x 1 % 16) * 64 + cr_ba x 2 % 64))), (0, .int x), (1, .int (nI 3))]) hx hb dX1_decode_42 hl (k := 1) rfl (by decide) (by decide) rfl (fun ls hl => ?_)
        refine lv_goto (tgt := 23) hx hb dX1_decode_45 (by decide) ?_
        refine lv_iload_n hx hb dX1_decode_23 rfl (lv_at hl 0 rfl) ?_
        refine lv_iload_n hx hb dX1_decode_24 rfl (lv_at hl 3 rfl) ?_
        refine lv_icmp_gt (tgt := 48) hx hb dX1_decode_25 (by decide) (fun c_25 => ?_) (fun c_25 => ?_)
        · exact absurd c_25 (by decide)
        · refine lv_iload_n hx hb dX1_decode_28 rfl (lv_at hl 1 rfl) ?_
          refine lv_bipush (v := nI 6) hx hb dX1_decode_29 (by decide) ?_
          refine lv_ishl hx hb dX1_decode_31 ?_
          refine cr_top (y := nI (((cr_ba x 1 % 16) * 64 + cr_ba x 2 % 64) * 64)) (pk_shlN _ 6 (by decide) (by omega)) ?_
          refine lv_iload_n hx hb dX1_decode_32 rfl (lv_at hl 2 rfl) ?_
          refine lv_iload_n hx hb dX1_decode_33 rfl (lv_at hl 0 rfl) ?_
          have hPc := hP.sub (ws' := []) [] rfl
          have hDc := hD.sub (ws' := []) [] (by decide) rfl
          have hFc := va_free (wc := []) hD hS hA [] rfl
          refine va_calli (va_runS (As := [.int x, .int (nI 3)]) (rest := [.int (nI (((cr_ba x 1 % 16) * 64 + cr_ba x 2 % 64) * 64))]) ⟨hx, hb, hml, hown, hts⟩ (c_byteAt l dC dI _ x 3 (by decide) (by decide)) (va_cwS 2 hts gX1_decode_X1_byteAt rfl rfl rfl (by decide +kernel) ⟨Nat.le_of_ble_eq_true rfl, Nat.le_of_ble_eq_true rfl⟩) (cr_preS hPc hK hDc) rfl rfl hl.1 rfl (lv_room (Nat.le_of_ble_eq_true rfl)) dX1_decode_34 ⟨Nat.zero_le _, Nat.zero_le _⟩) hS (fun q _ h => hFc q h) hFc (fun r_34 u_34 t_34 H_34 locs ht_34 hvm_34 hw_34 hB_34 hz_34 hk_34 hS => ?_)
          obtain ⟨rfl, rfl⟩ := hw_34
          obtain ⟨hP, hD⟩ := cr_back (wr := []) (w1 := []) hP hD [] [] rfl rfl (by decide) (by decide) hk_34 hFc hB_34 ht_34
          clear hPc hDc hFc
          generalize H_34 = H at hP hS ⊢
          have hP := hP.sub (ws' := []) [] rfl
          have hD := hD.sub (ws' := []) [] (by decide) rfl
          refine lv_bipush (v := nI 63) hx hb dX1_decode_37 (by decide) ?_
          refine lv_iand hx hb dX1_decode_39 ?_
          refine cr_top (y := nI (cr_ba x 3 % 64)) (cr_and63 (by omega)) ?_
          refine lv_ior hx hb dX1_decode_40 ?_
          refine cr_top (y := nI (((cr_ba x 1 % 16) * 64 + cr_ba x 2 % 64) * 64 + cr_ba x 3 % 64)) (cr_or6 (by omega)) ?_
          refine lv_istore_n (lv' := [(2, .int (nI (((cr_ba x 1 % 16) * 64 + cr_ba x 2 % 64) * 64 + cr_ba x 3 % 64))), (3, .int (nI 3)), (0, .int x), (1, .int (nI 3))]) hx hb dX1_decode_41 rfl hl (by decide) rfl (fun ls hl => ?_)
          refine lv_iinc (v := nI 4) (lv' := [(3, .int (nI 4)), (2, .int (nI (((cr_ba x 1 % 16) * 64 + cr_ba x 2 % 64) * 64 + cr_ba x 3 % 64))), (0, .int x), (1, .int (nI 3))]) hx hb dX1_decode_42 hl (k := 1) rfl (by decide) (by decide) rfl (fun ls hl => ?_)
          refine lv_goto (tgt := 23) hx hb dX1_decode_45 (by decide) ?_
          refine lv_iload_n hx hb dX1_decode_23 rfl (lv_at hl 0 rfl) ?_
          refine lv_iload_n hx hb dX1_decode_24 rfl (lv_at hl 3 rfl) ?_
          refine lv_icmp_gt (tgt := 48) hx hb dX1_decode_25 (by decide) (fun c_25 => ?_) (fun c_25 => ?_)
          · refine lv_iload_n hx hb dX1_decode_48 rfl (lv_at hl 1 rfl) ?_
            exact W.iret (v := nI (((cr_ba x 1 % 16) * 64 + cr_ba x 2 % 64) * 64 + cr_ba x 3 % 64)) hx hb hr (fun t9 ht9 hW9 => ⟨⟨nI (((cr_ba x 1 % 16) * 64 + cr_ba x 2 % 64) * 64 + cr_ba x 3 % 64), [], rfl, ⟨rfl, rfl⟩, by rw [ht9]; exact hP, va_K.moved hW9.alike hK, hD⟩, hS.F ht9⟩) hS.2.2 dX1_decode_49
          · exact absurd (by decide) c_25
  · refine lv_iload_n hx hb dX1_decode_0 rfl (lv_at hl 0 rfl) ?_
    refine lv_iconst (v := nI 1) hx hb dX1_decode_1 (by decide) ?_
    have hPc := hP.sub (ws' := []) [] rfl
    have hDc := hD.sub (ws' := []) [] (by decide) rfl
    have hFc := va_free (wc := []) hD hS hA [] rfl
    refine va_calli (va_runS (As := [.int x, .int (nI 1)]) (rest := []) ⟨hx, hb, hml, hown, hts⟩ (c_byteAt l dC dI _ x 1 (by decide) (by decide)) (va_cwS 2 hts gX1_decode_X1_byteAt rfl rfl rfl (by decide +kernel) ⟨Nat.le_of_ble_eq_true rfl, Nat.le_of_ble_eq_true rfl⟩) (cr_preS hPc hK hDc) rfl rfl hl.1 rfl (lv_room (Nat.le_of_ble_eq_true rfl)) dX1_decode_2 ⟨Nat.zero_le _, Nat.zero_le _⟩) hS (fun q _ h => hFc q h) hFc (fun r_2 u_2 t_2 H_2 locs ht_2 hvm_2 hw_2 hB_2 hz_2 hk_2 hS => ?_)
    obtain ⟨rfl, rfl⟩ := hw_2
    obtain ⟨hP, hD⟩ := cr_back (wr := []) (w1 := []) hP hD [] [] rfl rfl (by decide) (by decide) hk_2 hFc hB_2 ht_2
    clear hPc hDc hFc
    generalize H_2 = H at hP hS ⊢
    have hP := hP.sub (ws' := []) [] rfl
    have hD := hD.sub (ws' := []) [] (by decide) rfl
    refine lv_istore_n (lv' := [(2, .int (nI (cr_ba x 1))), (0, .int x), (1, .int (nI 4))]) hx hb dX1_decode_5 rfl hl (by decide) rfl (fun ls hl => ?_)
    refine lv_iload_n hx hb dX1_decode_6 rfl (lv_at hl 2 rfl) ?_
    refine lv_iconst (v := nI 1) hx hb dX1_decode_7 (by decide) ?_
    refine lv_icmp_le (tgt := 21) hx hb dX1_decode_8 (by decide) (fun c_8 => ?_) (fun c_8 => ?_)
    · exact absurd c_8 (by decide)
    · refine lv_iload_n hx hb dX1_decode_11 rfl (lv_at hl 0 rfl) ?_
      refine lv_sipush (v := nI 255) hx hb dX1_decode_12 (by decide) ?_
      refine lv_iload_n hx hb dX1_decode_15 rfl (lv_at hl 2 rfl) ?_
      refine lv_iconst (v := nI 1) hx hb dX1_decode_16 (by decide) ?_
      refine lv_iadd hx hb dX1_decode_17 ?_
      refine cr_top (y := nI 5) (by decide) ?_
      refine lv_ishr hx hb dX1_decode_18 ?_
      refine cr_top (y := nI 7) (by decide) ?_
      refine lv_iand hx hb dX1_decode_19 ?_
      refine cr_top (y := nI (cr_ba x 1 % 8)) (pk_andN (by omega) 3 (by decide)) ?_
      refine lv_istore_n (lv' := [(2, .int (nI (cr_ba x 1 % 8))), (0, .int x), (1, .int (nI 4))]) hx hb dX1_decode_20 rfl hl (by decide) rfl (fun ls hl => ?_)
      refine lv_iconst (v := nI 2) hx hb dX1_decode_21 (by decide) ?_
      refine lv_istore_n (lv' := [(3, .int (nI 2)), (2, .int (nI (cr_ba x 1 % 8))), (0, .int x), (1, .int (nI 4))]) hx hb dX1_decode_22 rfl hl (by decide) rfl (fun ls hl => ?_)
      refine lv_iload_n hx hb dX1_decode_23 rfl (lv_at hl 0 rfl) ?_
      refine lv_iload_n hx hb dX1_decode_24 rfl (lv_at hl 3 rfl) ?_
      refine lv_icmp_gt (tgt := 48) hx hb dX1_decode_25 (by decide) (fun c_25 => ?_) (fun c_25 => ?_)
      · exact absurd c_25 (by decide)
      · refine lv_iload_n hx hb dX1_decode_28 rfl (lv_at hl 1 rfl) ?_
        refine lv_bipush (v := nI 6) hx hb dX1_decode_29 (by decide) ?_
        refine lv_ishl hx hb dX1_decode_31 ?_
        refine cr_top (y := nI ((cr_ba x 1 % 8) * 64)) (pk_shlN _ 6 (by decide) (by omega)) ?_
        refine lv_iload_n hx hb dX1_decode_32 rfl (lv_at hl 2 rfl) ?_
        refine lv_iload_n hx hb dX1_decode_33 rfl (lv_at hl 0 rfl) ?_
        have hPc := hP.sub (ws' := []) [] rfl
        have hDc := hD.sub (ws' := []) [] (by decide) rfl
        have hFc := va_free (wc := []) hD hS hA [] rfl
        refine va_calli (va_runS (As := [.int x, .int (nI 2)]) (rest := [.int (nI ((cr_ba x 1 % 8) * 64))]) ⟨hx, hb, hml, hown, hts⟩ (c_byteAt l dC dI _ x 2 (by decide) (by decide)) (va_cwS 2 hts gX1_decode_X1_byteAt rfl rfl rfl (by decide +kernel) ⟨Nat.le_of_ble_eq_true rfl, Nat.le_of_ble_eq_true rfl⟩) (cr_preS hPc hK hDc) rfl rfl hl.1 rfl (lv_room (Nat.le_of_ble_eq_true rfl)) dX1_decode_34 ⟨Nat.zero_le _, Nat.zero_le _⟩) hS (fun q _ h => hFc q h) hFc (fun r_34 u_34 t_34 H_34 locs ht_34 hvm_34 hw_34 hB_34 hz_34 hk_34 hS => ?_)
        obtain ⟨rfl, rfl⟩ := hw_34
        obtain ⟨hP, hD⟩ := cr_back (wr := []) (w1 := []) hP hD [] [] rfl rfl (by decide) (by decide) hk_34 hFc hB_34 ht_34
        clear hPc hDc hFc
        generalize H_34 = H at hP hS ⊢
        have hP := hP.sub (ws' := []) [] rfl
        have hD := hD.sub (ws' := []) [] (by decide) rfl
        refine lv_bipush (v := nI 63) hx hb dX1_decode_37 (by decide) ?_
        refine lv_iand hx hb dX1_decode_39 ?_
        refine cr_top (y := nI (cr_ba x 2 % 64)) (cr_and63 (by omega)) ?_
        refine lv_ior hx hb dX1_decode_40 ?_
        refine cr_top (y := nI ((cr_ba x 1 % 8) * 64 + cr_ba x 2 % 64)) (cr_or6 (by omega)) ?_
        refine lv_istore_n (lv' := [(2, .int (nI ((cr_ba x 1 % 8) * 64 + cr_ba x 2 % 64))), (3, .int (nI 2)), (0, .int x), (1, .int (nI 4))]) hx hb dX1_decode_41 rfl hl (by decide) rfl (fun ls hl => ?_)
        refine lv_iinc (v := nI 3) (lv' := [(3, .int (nI 3)), (2, .int (nI ((cr_ba x 1 % 8) * 64 + cr_ba x 2 % 64))), (0, .int x), (1, .int (nI 4))]) hx hb dX1_decode_42 hl (k := 1) rfl (by decide) (by decide) rfl (fun ls hl => ?_)
        refine lv_goto (tgt := 23) hx hb dX1_decode_45 (by decide) ?_
        refine lv_iload_n hx hb dX1_decode_23 rfl (lv_at hl 0 rfl) ?_
        refine lv_iload_n hx hb dX1_decode_24 rfl (lv_at hl 3 rfl) ?_
        refine lv_icmp_gt (tgt := 48) hx hb dX1_decode_25 (by decide) (fun c_25 => ?_) (fun c_25 => ?_)
        · exact absurd c_25 (by decide)
        · refine lv_iload_n hx hb dX1_decode_28 rfl (lv_at hl 1 rfl) ?_
          refine lv_bipush (v := nI 6) hx hb dX1_decode_29 (by decide) ?_
          refine lv_ishl hx hb dX1_decode_31 ?_
          refine cr_top (y := nI (((cr_ba x 1 % 8) * 64 + cr_ba x 2 % 64) * 64)) (pk_shlN _ 6 (by decide) (by omega)) ?_
          refine lv_iload_n hx hb dX1_decode_32 rfl (lv_at hl 2 rfl) ?_
          refine lv_iload_n hx hb dX1_decode_33 rfl (lv_at hl 0 rfl) ?_
          have hPc := hP.sub (ws' := []) [] rfl
          have hDc := hD.sub (ws' := []) [] (by decide) rfl
          have hFc := va_free (wc := []) hD hS hA [] rfl
          refine va_calli (va_runS (As := [.int x, .int (nI 3)]) (rest := [.int (nI (((cr_ba x 1 % 8) * 64 + cr_ba x 2 % 64) * 64))]) ⟨hx, hb, hml, hown, hts⟩ (c_byteAt l dC dI _ x 3 (by decide) (by decide)) (va_cwS 2 hts gX1_decode_X1_byteAt rfl rfl rfl (by decide +kernel) ⟨Nat.le_of_ble_eq_true rfl, Nat.le_of_ble_eq_true rfl⟩) (cr_preS hPc hK hDc) rfl rfl hl.1 rfl (lv_room (Nat.le_of_ble_eq_true rfl)) dX1_decode_34 ⟨Nat.zero_le _, Nat.zero_le _⟩) hS (fun q _ h => hFc q h) hFc (fun r_34 u_34 t_34 H_34 locs ht_34 hvm_34 hw_34 hB_34 hz_34 hk_34 hS => ?_)
          obtain ⟨rfl, rfl⟩ := hw_34
          obtain ⟨hP, hD⟩ := cr_back (wr := []) (w1 := []) hP hD [] [] rfl rfl (by decide) (by decide) hk_34 hFc hB_34 ht_34
          clear hPc hDc hFc
          generalize H_34 = H at hP hS ⊢
          have hP := hP.sub (ws' := []) [] rfl
          have hD := hD.sub (ws' := []) [] (by decide) rfl
          refine lv_bipush (v := nI 63) hx hb dX1_decode_37 (by decide) ?_
          refine lv_iand hx hb dX1_decode_39 ?_
          refine cr_top (y := nI (cr_ba x 3 % 64)) (cr_and63 (by omega)) ?_
          refine lv_ior hx hb dX1_decode_40 ?_
          refine cr_top (y := nI (((cr_ba x 1 % 8) * 64 + cr_ba x 2 % 64) * 64 + cr_ba x 3 % 64)) (cr_or6 (by omega)) ?_
          refine lv_istore_n (lv' := [(2, .int (nI (((cr_ba x 1 % 8) * 64 + cr_ba x 2 % 64) * 64 + cr_ba x 3 % 64))), (3, .int (nI 3)), (0, .int x), (1, .int (nI 4))]) hx hb dX1_decode_41 rfl hl (by decide) rfl (fun ls hl => ?_)
          refine lv_iinc (v := nI 4) (lv' := [(3, .int (nI 4)), (2, .int (nI (((cr_ba x 1 % 8) * 64 + cr_ba x 2 % 64) * 64 + cr_ba x 3 % 64))), (0, .int x), (1, .int (nI 4))]) hx hb dX1_decode_42 hl (k := 1) rfl (by decide) (by decide) rfl (fun ls hl => ?_)
          refine lv_goto (tgt := 23) hx hb dX1_decode_45 (by decide) ?_
          refine lv_iload_n hx hb dX1_decode_23 rfl (lv_at hl 0 rfl) ?_
          refine lv_iload_n hx hb dX1_decode_24 rfl (lv_at hl 3 rfl) ?_
          refine lv_icmp_gt (tgt := 48) hx hb dX1_decode_25 (by decide) (fun c_25 => ?_) (fun c_25 => ?_)
          · exact absurd c_25 (by decide)
          · refine lv_iload_n hx hb dX1_decode_28 rfl (lv_at hl 1 rfl) ?_
            refine lv_bipush (v := nI 6) hx hb dX1_decode_29 (by decide) ?_
            refine lv_ishl hx hb dX1_decode_31 ?_
            refine cr_top (y := nI ((((cr_ba x 1 % 8) * 64 + cr_ba x 2 % 64) * 64 + cr_ba x 3 % 64) * 64)) (pk_shlN _ 6 (by decide) (by omega)) ?_
            refine lv_iload_n hx hb dX1_decode_32 rfl (lv_at hl 2 rfl) ?_
            refine lv_iload_n hx hb dX1_decode_33 rfl (lv_at hl 0 rfl) ?_
            have hPc := hP.sub (ws' := []) [] rfl
            have hDc := hD.sub (ws' := []) [] (by decide) rfl
            have hFc := va_free (wc := []) hD hS hA [] rfl
            refine va_calli (va_runS (As := [.int x, .int (nI 4)]) (rest := [.int (nI ((((cr_ba x 1 % 8) * 64 + cr_ba x 2 % 64) * 64 + cr_ba x 3 % 64) * 64))]) ⟨hx, hb, hml, hown, hts⟩ (c_byteAt l dC dI _ x 4 (by decide) (by decide)) (va_cwS 2 hts gX1_decode_X1_byteAt rfl rfl rfl (by decide +kernel) ⟨Nat.le_of_ble_eq_true rfl, Nat.le_of_ble_eq_true rfl⟩) (cr_preS hPc hK hDc) rfl rfl hl.1 rfl (lv_room (Nat.le_of_ble_eq_true rfl)) dX1_decode_34 ⟨Nat.zero_le _, Nat.zero_le _⟩) hS (fun q _ h => hFc q h) hFc (fun r_34 u_34 t_34 H_34 locs ht_34 hvm_34 hw_34 hB_34 hz_34 hk_34 hS => ?_)
            obtain ⟨rfl, rfl⟩ := hw_34
            obtain ⟨hP, hD⟩ := cr_back (wr := []) (w1 := []) hP hD [] [] rfl rfl (by decide) (by decide) hk_34 hFc hB_34 ht_34
            clear hPc hDc hFc
            generalize H_34 = H at hP hS ⊢
            have hP := hP.sub (ws' := []) [] rfl
            have hD := hD.sub (ws' := []) [] (by decide) rfl
            refine lv_bipush (v := nI 63) hx hb dX1_decode_37 (by decide) ?_
            refine lv_iand hx hb dX1_decode_39 ?_
            refine cr_top (y := nI (cr_ba x 4 % 64)) (cr_and63 (by omega)) ?_
            refine lv_ior hx hb dX1_decode_40 ?_
            refine cr_top (y := nI ((((cr_ba x 1 % 8) * 64 + cr_ba x 2 % 64) * 64 + cr_ba x 3 % 64) * 64 + cr_ba x 4 % 64)) (cr_or6 (by omega)) ?_
            refine lv_istore_n (lv' := [(2, .int (nI ((((cr_ba x 1 % 8) * 64 + cr_ba x 2 % 64) * 64 + cr_ba x 3 % 64) * 64 + cr_ba x 4 % 64))), (3, .int (nI 4)), (0, .int x), (1, .int (nI 4))]) hx hb dX1_decode_41 rfl hl (by decide) rfl (fun ls hl => ?_)
            refine lv_iinc (v := nI 5) (lv' := [(3, .int (nI 5)), (2, .int (nI ((((cr_ba x 1 % 8) * 64 + cr_ba x 2 % 64) * 64 + cr_ba x 3 % 64) * 64 + cr_ba x 4 % 64))), (0, .int x), (1, .int (nI 4))]) hx hb dX1_decode_42 hl (k := 1) rfl (by decide) (by decide) rfl (fun ls hl => ?_)
            refine lv_goto (tgt := 23) hx hb dX1_decode_45 (by decide) ?_
            refine lv_iload_n hx hb dX1_decode_23 rfl (lv_at hl 0 rfl) ?_
            refine lv_iload_n hx hb dX1_decode_24 rfl (lv_at hl 3 rfl) ?_
            refine lv_icmp_gt (tgt := 48) hx hb dX1_decode_25 (by decide) (fun c_25 => ?_) (fun c_25 => ?_)
            · refine lv_iload_n hx hb dX1_decode_48 rfl (lv_at hl 1 rfl) ?_
              exact W.iret (v := nI ((((cr_ba x 1 % 8) * 64 + cr_ba x 2 % 64) * 64 + cr_ba x 3 % 64) * 64 + cr_ba x 4 % 64)) hx hb hr (fun t9 ht9 hW9 => ⟨⟨nI ((((cr_ba x 1 % 8) * 64 + cr_ba x 2 % 64) * 64 + cr_ba x 3 % 64) * 64 + cr_ba x 4 % 64), [], rfl, ⟨rfl, rfl⟩, by rw [ht9]; exact hP, va_K.moved hW9.alike hK, hD⟩, hS.F ht9⟩) hS.2.2 dX1_decode_49
            · exact absurd (by decide) c_25

set_option maxHeartbeats 4000000 in
set_option maxRecDepth 100000 in
theorem c_startsWithBytesOf (l : Launch) (dC : Nat → ClassId) (dI : Nat → Nat → Nat) (sz : Nat) (c0 : Nat) (x : Int32) (n0 : Nat) (hL : cr_len c0 = n0) (hc : c0 ≤ 1114111) : Met l yX1_startsWithBytesOf wsX1_startsWithBytesOf ({ frames := 3, cells := 0, slots := 0, locals := 100 }) (va_Pc [.int (nI c0), .int x, .int (nI n0)] (cr_pre dC dI [] [] sz)) (va_Qi (fun (rr : Int32) (u : va_W) => u = [] ∧ cr_zb rr (∀ i, i < n0 → cr_by c0 i = cr_ba x (i + 1))) (cr_at dC dI [] (va_A [] sz)) (va_A [] sz)) 0 0 (va_A [] sz) := by
  refine Met.ofW (cc := cX1_startsWithBytesOf) (maxL := 4) (ret := (some .boolean)) (by decide) rfl ?_
  intro p e s m args below meth c s₁ B hml hv
  obtain ⟨rfl, hsz, hP, hK, hD0⟩ := hv
  have hx := B.exec
  have hb := B.bytes
  have hr := B.returns
  have hts := atoms_spec (ws := wsX1_startsWithBytesOf) B.pre
  have hown : s.vm.findClass RX1 = some m.cls := findClass_of_methodNamed B.named
  have hlocks := B.notSynchronized
  subst hsz
  have hD := hD0.self (sz := s.heap.size)
  generalize hAe : va_A [] s.heap.size = A at hD ⊢
  have hA : ∀ q : Nat, s.heap.size ≤ q → A q := fun q h => by rw [← hAe]; exact Or.inr h
  have hS : va_S A s.heap s.heap [] := va_S.rf
  have hP : va_P (dC, dI) crCl [] s.heap := hP
  have hl := lv_entry ([.int (nI c0), .int x, .int (nI n0)]) (n := 4) (Nat.le_of_ble_eq_true rfl)
  rw [lg_entry_eq]
  generalize (lg_sl ([.int (nI c0), .int x, .int (nI n0)]) ++ List.replicate (4 - (lg_sl ([.int (nI c0), .int x, .int (nI n0)])).length) Slot.unset).toArray = ls at hl ⊢
  have hl : lv_has ls 4 [(0, .int (nI c0)), (1, .int x), (2, .int (nI n0))] := hl
  have hin := cr_len_in c0
  refine lv_iconst (v := nI 1) hx hb dX1_startsWithBytesOf_0 (by decide) ?_
  refine lv_istore_n (lv' := [(3, .int (nI 1)), (0, .int (nI c0)), (1, .int x), (2, .int (nI n0))]) hx hb dX1_startsWithBytesOf_1 rfl hl (by decide) rfl (fun ls hl => ?_)
  refine cr_lp1 (fun (i : Nat) => n0 + 1 - i) (fun (i : Nat) H locs ls => (1 ≤ i ∧ i ≤ n0 + 1 ∧ ∀ j, j + 1 < i → cr_by c0 j = cr_ba x (j + 1)) ∧ va_P (dC, dI) crCl [] H ∧ va_D A [] ∧ va_S A s.heap H locs ∧ lv_has ls 4 [(0, .int (nI c0)), (1, .int x), (2, .int (nI n0)), (3, .int (nI i))]) ?_ 1 ⟨⟨Nat.le_refl _, by omega, fun j hj => absurd hj (by omega)⟩, hP, hD, hS, lv_sub hl [1, 2, 3, 0] rfl⟩
  intro i H locs ls hI2 ih2
  obtain ⟨⟨h1, h2, h3⟩, hP, hD, hS, hl⟩ := hI2
  refine lv_iload_n hx hb dX1_startsWithBytesOf_2 rfl (lv_at hl 3 rfl) ?_
  refine lv_iload_n hx hb dX1_startsWithBytesOf_3 rfl (lv_at hl 2 rfl) ?_
  refine lv_icmp_gt (tgt := 29) hx hb dX1_startsWithBytesOf_4 (by decide) (fun c_4 => ?_) (fun c_4 => ?_)
  · rw [nI_ltI (by omega) (by omega)] at c_4
    refine lv_iconst (v := nI 1) hx hb dX1_startsWithBytesOf_29 (by decide) ?_
    exact W.zret (v := nI 1) (ty := .boolean) hx hb hr (by first | rfl | decide) (fun t9 ht9 hW9 => ⟨⟨nI 1, [], rfl, ⟨rfl, Or.inl ⟨rfl, fun j hj => h3 j (by omega)⟩⟩, by rw [ht9]; exact hP, va_K.moved hW9.alike hK, hD⟩, hS.F ht9⟩) hS.2.2 dX1_startsWithBytesOf_30
  · rw [nI_ltI (by omega) (by omega)] at c_4
    refine lv_iload_n hx hb dX1_startsWithBytesOf_7 rfl (lv_at hl 0 rfl) ?_
    refine lv_iload_n hx hb dX1_startsWithBytesOf_8 rfl (lv_at hl 2 rfl) ?_
    refine lv_iload_n hx hb dX1_startsWithBytesOf_9 rfl (lv_at hl 3 rfl) ?_
    have hPc := hP.sub (ws' := []) [] rfl
    have hDc := hD.sub (ws' := []) [] (by decide) rfl
    have hFc := va_free (wc := []) hD hS hA [] rfl
    refine va_calli (va_runS (As := [.int (nI c0), .int (nI n0), .int (nI i)]) (rest := []) ⟨hx, hb, hml, hown, hts⟩ (c_byteOf l dC dI _ c0 n0 i hL hc (by omega) (by omega)) (va_cwS 3 hts gX1_startsWithBytesOf_X1_byteOf rfl rfl rfl (by decide +kernel) ⟨Nat.le_of_ble_eq_true rfl, Nat.le_of_ble_eq_true rfl⟩) (cr_preS hPc hK hDc) rfl rfl hl.1 rfl (lv_room (Nat.le_of_ble_eq_true rfl)) dX1_startsWithBytesOf_10 ⟨Nat.zero_le _, Nat.zero_le _⟩) hS (fun q _ h => hFc q h) hFc (fun r_10 u_10 t_10 H_10 locs ht_10 hvm_10 hw_10 hB_10 hz_10 hk_10 hS => ?_)
    obtain ⟨rfl, rfl⟩ := hw_10
    obtain ⟨hP, hD⟩ := cr_back (wr := []) (w1 := []) hP hD [] [] rfl rfl (by decide) (by decide) hk_10 hFc hB_10 ht_10
    clear hPc hDc hFc
    generalize H_10 = H at hP hS ⊢
    have hP := hP.sub (ws' := []) [] rfl
    have hD := hD.sub (ws' := []) [] (by decide) rfl
    refine lv_iload_n hx hb dX1_startsWithBytesOf_13 rfl (lv_at hl 1 rfl) ?_
    refine lv_iload_n hx hb dX1_startsWithBytesOf_14 rfl (lv_at hl 3 rfl) ?_
    have hPc := hP.sub (ws' := []) [] rfl
    have hDc := hD.sub (ws' := []) [] (by decide) rfl
    have hFc := va_free (wc := []) hD hS hA [] rfl
    refine va_calli (va_runS (As := [.int x, .int (nI i)]) (rest := [.int (nI (cr_by c0 (i - 1)))]) ⟨hx, hb, hml, hown, hts⟩ (c_byteAt l dC dI _ x i (by omega) (by omega)) (va_cwS 2 hts gX1_startsWithBytesOf_X1_byteAt rfl rfl rfl (by decide +kernel) ⟨Nat.le_of_ble_eq_true rfl, Nat.le_of_ble_eq_true rfl⟩) (cr_preS hPc hK hDc) rfl rfl hl.1 rfl (lv_room (Nat.le_of_ble_eq_true rfl)) dX1_startsWithBytesOf_15 ⟨Nat.zero_le _, Nat.zero_le _⟩) hS (fun q _ h => hFc q h) hFc (fun r_15 u_15 t_15 H_15 locs ht_15 hvm_15 hw_15 hB_15 hz_15 hk_15 hS => ?_)
    obtain ⟨rfl, rfl⟩ := hw_15
    obtain ⟨hP, hD⟩ := cr_back (wr := []) (w1 := []) hP hD [] [] rfl rfl (by decide) (by decide) hk_15 hFc hB_15 ht_15
    clear hPc hDc hFc
    generalize H_15 = H at hP hS ⊢
    have hP := hP.sub (ws' := []) [] rfl
    have hD := hD.sub (ws' := []) [] (by decide) rfl
    refine lv_icmp_eq (tgt := 23) hx hb dX1_startsWithBytesOf_18 (by decide) (fun c_18 => ?_) (fun c_18 => ?_)
    · have hq1 := cr_ba_lt x i
      have hq2 := cr_by_lt c0 (i - 1) hc
      rw [nI_eq (by omega) (by omega)] at c_18
      refine lv_iinc (v := nI (i + 1)) (lv' := [(3, .int (nI (i + 1))), (0, .int (nI c0)), (1, .int x), (2, .int (nI n0))]) hx hb dX1_startsWithBytesOf_23 hl (k := 3) rfl (nI_add i 1) (by decide) rfl (fun ls hl => ?_)
      refine lv_goto (tgt := 2) hx hb dX1_startsWithBytesOf_26 (by decide) ?_
      exact ih2 (i + 1) _ _ _ ⟨⟨by omega, by omega, cr_starts h1 h3 c_18⟩, hP, hD, hS, lv_sub hl [1, 2, 3, 0] rfl⟩ (by omega)
    · have hq1 := cr_ba_lt x i
      have hq2 := cr_by_lt c0 (i - 1) hc
      rw [nI_eq (by omega) (by omega)] at c_18
      refine lv_iconst (v := nI 0) hx hb dX1_startsWithBytesOf_21 (by decide) ?_
      exact W.zret (v := nI 0) (ty := .boolean) hx hb hr (by first | rfl | decide) (fun t9 ht9 hW9 => ⟨⟨nI 0, [], rfl, ⟨rfl, Or.inr ⟨rfl, fun hall => c_18 (by have := hall (i - 1) (by omega); rw [show i - 1 + 1 = i from (by omega)] at this; exact this)⟩⟩, by rw [ht9]; exact hP, va_K.moved hW9.alike hK, hD⟩, hS.F ht9⟩) hS.2.2 dX1_startsWithBytesOf_22
end
section
set_option maxHeartbeats 4000000 in
set_option maxRecDepth 100000 in
theorem c_putCharacters (l : Launch) (dC : Nat → ClassId) (dI : Nat → Nat → Nat) (sz : Nat) (r a b : Nat) (cI : ClassId) (n : Nat) (f g : Nat → Int32) (S : Nat → Prop) (hSet : cr_Set n f g S) (hn : n + 1 < 768) (p0 : Nat) (y : Int32) (hp : p0 ≤ 1114112) (hy : y.toInt ≤ 1114111) : Met l yX1_putCharacters wsX1_putCharacters ({ frames := 5, cells := 0, slots := 0, locals := 180 }) (va_Pc [.ref r, .int (nI p0), .int y] (cr_preN dC dI [(cI, .int)] [(r, .inr (0, [.ref a, .ref b, .int (nI n)])), (a, .inl (cI, 768, .inl f)), (b, .inl (cI, 768, .inl g))] sz)) (va_Qv (fun (u : va_W) => ∃ (n' : Nat) (f' g' : Nat → Int32), u = [(r, .inr (0, [.ref a, .ref b, .int (nI n')])), (a, .inl (cI, 768, .inl f')), (b, .inl (cI, 768, .inl g'))] ∧ n' ≤ n + 2 ∧ cr_Set n' f' g' (fun c => (S c ∨ (p0 ≤ c ∧ (c : Int) ≤ y.toInt ∧ cr_ch c)))) (cr_at dC dI [(cI, .int)] (va_A [(r, .inr (0, [.ref a, .ref b, .int (nI n)])), (a, .inl (cI, 768, .inl f)), (b, .inl (cI, 768, .inl g))] sz)) (va_A [(r, .inr (0, [.ref a, .ref b, .int (nI n)])), (a, .inl (cI, 768, .inl f)), (b, .inl (cI, 768, .inl g))] sz)) 0 0 (va_A [(r, .inr (0, [.ref a, .ref b, .int (nI n)])), (a, .inl (cI, 768, .inl f)), (b, .inl (cI, 768, .inl g))] sz) := by
  refine Met.ofW (cc := cX1_putCharacters) (maxL := 3) (ret := none) (by decide) rfl ?_
  intro p e s m args below meth c s₁ B hml hv
  obtain ⟨rfl, ⟨hsz, hP, hK, hD0⟩, hN⟩ := hv
  have hx := B.exec
  have hb := B.bytes
  have hr := B.returns
  have hts := atoms_spec (ws := wsX1_putCharacters) B.pre
  have hown : s.vm.findClass RX1 = some m.cls := findClass_of_methodNamed B.named
  have hlocks := B.notSynchronized
  subst hsz
  have hD := hD0.self (sz := s.heap.size)
  generalize hAe : va_A [(r, .inr (0, [.ref a, .ref b, .int (nI n)])), (a, .inl (cI, 768, .inl f)), (b, .inl (cI, 768, .inl g))] s.heap.size = A at hD ⊢
  have hA : ∀ q : Nat, s.heap.size ≤ q → A q := fun q h => by rw [← hAe]; exact Or.inr h
  have hS : va_S A s.heap s.heap [] := va_S.rf
  have hP : va_P (dC, dI) crCl [(r, .inr (0, [.ref a, .ref b, .int (nI n)])), (a, .inl (cI, 768, .inl f)), (b, .inl (cI, 768, .inl g))] s.heap := hP
  have hl := lv_entry ([.ref r, .int (nI p0), .int y]) (n := 3) (Nat.le_of_ble_eq_true rfl)
  rw [lg_entry_eq]
  generalize (lg_sl ([.ref r, .int (nI p0), .int y]) ++ List.replicate (3 - (lg_sl ([.ref r, .int (nI p0), .int y])).length) Slot.unset).toArray = ls at hl ⊢
  have hl : lv_has ls 3 [(0, .ref r), (1, .int (nI p0)), (2, .int y)] := hl
  refine lv_aload_n hx hb dX1_putCharacters_0 rfl (lv_at hl 0 rfl) ?_
  refine lv_iload_n hx hb dX1_putCharacters_1 rfl (lv_at hl 1 rfl) ?_
  refine lv_iload_n hx hb dX1_putCharacters_2 rfl (lv_at hl 2 rfl) ?_
  refine lv_ldc (v := nI 55295) hx hb hown (hts (.constant RX1 94 (nI 55295)) (by decide +kernel)) dX1_putCharacters_3 ?_
  refine va_mmin hx hb (hml.trans hl.1.symm) hown (hts (.methodLink RX1 95 Lib.Math.min.name) (by decide +kernel)) (hts (.static Lib.Math.min.name) (by decide +kernel)) (hts (.initialized "java/lang/Math") (by decide +kernel)) (hts (.code Lib.Math.min.name Lib.Math.min.code 2 (some .int)) (by decide +kernel)) (Nat.le_of_ble_eq_true rfl) (Nat.le_of_ble_eq_true rfl) (Nat.zero_le _) (Nat.zero_le _) dX1_putCharacters_5 ?_
  obtain ⟨ym, hym⟩ : ∃ z, z = (if nI 55295 < y then nI 55295 else y) := ⟨_, rfl⟩
  refine cr_top hym.symm ?_
  have hym2 : ym.toInt = min y.toInt 55295 := by rw [hym]; exact cr_minI y
  have hPc := hP.sub (ws' := [(r, .inr (0, [.ref a, .ref b, .int (nI n)])), (a, .inl (cI, 768, .inl f)), (b, .inl (cI, 768, .inl g))]) [0, 1, 2] rfl
  have hDc := hD.sub (ws' := [(r, .inr (0, [.ref a, .ref b, .int (nI n)])), (a, .inl (cI, 768, .inl f)), (b, .inl (cI, 768, .inl g))]) [0, 1, 2] (by decide) rfl
  have hFc := va_free (wc := [(r, .inr (0, [.ref a, .ref b, .int (nI n)])), (a, .inl (cI, 768, .inl f)), (b, .inl (cI, 768, .inl g))]) hD hS hA [0, 1, 2] rfl
  refine va_callv (va_runVN (As := [.int (nI p0), .int ym]) (rest := []) ⟨hx, hb, hml, hown, hts⟩ (c_put l dC dI _ r a b cI n f g S hSet (by omega) (nI p0) ym (by rw [nI_toInt (by omega)]; omega)) (⟨va_cnB (host := "CharRows") 2 hts gX1_putCharacters_X0_put_n58 rfl rfl rfl (hN _ nw_58) (hts (.initialized RX0) (by decide +kernel)) (by decide +kernel) ⟨Nat.le_of_ble_eq_true rfl, Nat.le_of_ble_eq_true rfl⟩, hts (.instanceMethod yX0_put) (by decide +kernel), hts (.selects RX0 yX0_put yX0_put) (by decide +kernel)⟩) (cr_preV hPc hK hDc (ci := 0) (q0 := 0) rfl rfl) rfl rfl hl.1 rfl (lv_room (Nat.le_of_ble_eq_true rfl)) dX1_putCharacters_8 ⟨Nat.zero_le _, Nat.zero_le _⟩) hS (fun q _ h => hFc q h) hFc (fun u_8 t_8 H_8 locs ht_8 hvm_8 hw_8 hB_8 hz_8 hk_8 hS => ?_)
  obtain ⟨n1, f1, g1, rfl, hn1, hSet1⟩ := hw_8
  obtain ⟨hP, hD⟩ := cr_back (wr := []) (w1 := [(r, .inr (0, [.ref a, .ref b, .int (nI n1)])), (a, .inl (cI, 768, .inl f1)), (b, .inl (cI, 768, .inl g1))]) hP hD [0, 1, 2] [] rfl rfl (by decide) (by decide) hk_8 hFc hB_8 ht_8
  clear hPc hDc hFc
  generalize H_8 = H at hP hS ⊢
  have hP := hP.sub (ws' := [(r, .inr (0, [.ref a, .ref b, .int (nI n1)])), (a, .inl (cI, 768, .inl f1)), (b, .inl (cI, 768, .inl g1))]) [0, 1, 2] rfl
  have hD := hD.sub (ws' := [(r, .inr (0, [.ref a, .ref b, .int (nI n1)])), (a, .inl (cI, 768, .inl f1)), (b, .inl (cI, 768, .inl g1))]) [0, 1, 2] (by decide) rfl
  refine lv_aload_n hx hb dX1_putCharacters_11 rfl (lv_at hl 0 rfl) ?_
  refine lv_iload_n hx hb dX1_putCharacters_12 rfl (lv_at hl 1 rfl) ?_
  refine lv_ldc (v := nI 57344) hx hb hown (hts (.constant RX1 100 (nI 57344)) (by decide +kernel)) dX1_putCharacters_13 ?_
  refine va_mmax hx hb (hml.trans hl.1.symm) hown (hts (.methodLink RX1 101 Lib.Math.max.name) (by decide +kernel)) (hts (.static Lib.Math.max.name) (by decide +kernel)) (hts (.initialized "java/lang/Math") (by decide +kernel)) (hts (.code Lib.Math.max.name Lib.Math.max.code 2 (some .int)) (by decide +kernel)) (Nat.le_of_ble_eq_true rfl) (Nat.le_of_ble_eq_true rfl) (Nat.zero_le _) (Nat.zero_le _) dX1_putCharacters_15 ?_
  refine cr_top (y := nI (max p0 57344)) (cr_max _ _ (by omega) (by omega)) ?_
  refine lv_iload_n hx hb dX1_putCharacters_18 rfl (lv_at hl 2 rfl) ?_
  have hPc := hP.sub (ws' := [(r, .inr (0, [.ref a, .ref b, .int (nI n1)])), (a, .inl (cI, 768, .inl f1)), (b, .inl (cI, 768, .inl g1))]) [0, 1, 2] rfl
  have hDc := hD.sub (ws' := [(r, .inr (0, [.ref a, .ref b, .int (nI n1)])), (a, .inl (cI, 768, .inl f1)), (b, .inl (cI, 768, .inl g1))]) [0, 1, 2] (by decide) rfl
  have hFc := va_free (wc := [(r, .inr (0, [.ref a, .ref b, .int (nI n1)])), (a, .inl (cI, 768, .inl f1)), (b, .inl (cI, 768, .inl g1))]) hD hS hA [0, 1, 2] rfl
  refine va_callv (va_runVN (As := [.int (nI (max p0 57344)), .int y]) (rest := []) ⟨hx, hb, hml, hown, hts⟩ (c_put l dC dI _ r a b cI n1 f1 g1 _ hSet1 (by omega) (nI (max p0 57344)) y (by rw [nI_toInt (by omega)]; omega)) (⟨va_cnB (host := "CharRows") 2 hts gX1_putCharacters_X0_put_n58 rfl rfl rfl (hN _ nw_58) (hts (.initialized RX0) (by decide +kernel)) (by decide +kernel) ⟨Nat.le_of_ble_eq_true rfl, Nat.le_of_ble_eq_true rfl⟩, hts (.instanceMethod yX0_put) (by decide +kernel), hts (.selects RX0 yX0_put yX0_put) (by decide +kernel)⟩) (cr_preV hPc hK hDc (ci := 0) (q0 := 0) rfl rfl) rfl rfl hl.1 rfl (lv_room (Nat.le_of_ble_eq_true rfl)) dX1_putCharacters_19 ⟨Nat.zero_le _, Nat.zero_le _⟩) hS (fun q _ h => hFc q h) hFc (fun u_19 t_19 H_19 locs ht_19 hvm_19 hw_19 hB_19 hz_19 hk_19 hS => ?_)
  obtain ⟨n2, f2, g2, rfl, hn2, hSet2⟩ := hw_19
  obtain ⟨hP, hD⟩ := cr_back (wr := []) (w1 := [(r, .inr (0, [.ref a, .ref b, .int (nI n2)])), (a, .inl (cI, 768, .inl f2)), (b, .inl (cI, 768, .inl g2))]) hP hD [0, 1, 2] [] rfl rfl (by decide) (by decide) hk_19 hFc hB_19 ht_19
  clear hPc hDc hFc
  generalize H_19 = H at hP hS ⊢
  have hP := hP.sub (ws' := [(r, .inr (0, [.ref a, .ref b, .int (nI n2)])), (a, .inl (cI, 768, .inl f2)), (b, .inl (cI, 768, .inl g2))]) [0, 1, 2] rfl
  have hD := hD.sub (ws' := [(r, .inr (0, [.ref a, .ref b, .int (nI n2)])), (a, .inl (cI, 768, .inl f2)), (b, .inl (cI, 768, .inl g2))]) [0, 1, 2] (by decide) rfl
  exact W.vret hx hb hr (fun t9 ht9 hW9 => ⟨⟨[(r, .inr (0, [.ref a, .ref b, .int (nI n2)])), (a, .inl (cI, 768, .inl f2)), (b, .inl (cI, 768, .inl g2))], rfl, ⟨n2, f2, g2, rfl, by omega, hSet2.iff (fun c => by rw [nI_toInt (by omega), nI_toInt (by omega), hym2]; exact cr_or3 (by unfold cr_ch; omega))⟩, by rw [ht9]; exact hP, va_K.moved hW9.alike hK, hD⟩, hS.F ht9⟩) hS.2.2 dX1_putCharacters_22

set_option maxHeartbeats 4000000 in
set_option maxRecDepth 100000 in
theorem c_clear (l : Launch) (dC : Nat → ClassId) (dI : Nat → Nat → Nat) (sz : Nat) (x r r2 r3 a b : Nat) (cI : ClassId) (n : Nat) (f g : Nat → Int32) : Met l yX1_clear wsX1_clear ({ frames := 2, cells := 0, slots := 0, locals := 60 }) (va_Pc [.ref x] (cr_preN dC dI [(cI, .int)] [(x, .inr (1, [.ref r, .ref r2, .ref r3])), (r, .inr (0, [.ref a, .ref b, .int (nI n)])), (a, .inl (cI, 768, .inl f)), (b, .inl (cI, 768, .inl g))] sz)) (va_Qv (fun (u : va_W) => u = [(x, .inr (1, [.ref r, .ref r2, .ref r3])), (r, .inr (0, [.ref a, .ref b, .int (nI 0)])), (a, .inl (cI, 768, .inl f)), (b, .inl (cI, 768, .inl g))]) (cr_at dC dI [(cI, .int)] (va_A [(x, .inr (1, [.ref r, .ref r2, .ref r3])), (r, .inr (0, [.ref a, .ref b, .int (nI n)])), (a, .inl (cI, 768, .inl f)), (b, .inl (cI, 768, .inl g))] sz)) (va_A [(x, .inr (1, [.ref r, .ref r2, .ref r3])), (r, .inr (0, [.ref a, .ref b, .int (nI n)])), (a, .inl (cI, 768, .inl f)), (b, .inl (cI, 768, .inl g))] sz)) 0 0 (va_A [(x, .inr (1, [.ref r, .ref r2, .ref r3])), (r, .inr (0, [.ref a, .ref b, .int (nI n)])), (a, .inl (cI, 768, .inl f)), (b, .inl (cI, 768, .inl g))] sz) := by
  refine Met.ofW (cc := cX1_clear) (maxL := 1) (ret := none) (by decide) rfl ?_
  intro p e s m args below meth c s₁ B hml hv
  obtain ⟨rfl, ⟨hsz, hP, hK, hD0⟩, hN⟩ := hv
  have hx := B.exec
  have hb := B.bytes
  have hr := B.returns
  have hts := atoms_spec (ws := wsX1_clear) B.pre
  have hown : s.vm.findClass RX1 = some m.cls := findClass_of_methodNamed B.named
  have hlocks := B.notSynchronized
  subst hsz
  have hD := hD0.self (sz := s.heap.size)
  generalize hAe : va_A [(x, .inr (1, [.ref r, .ref r2, .ref r3])), (r, .inr (0, [.ref a, .ref b, .int (nI n)])), (a, .inl (cI, 768, .inl f)), (b, .inl (cI, 768, .inl g))] s.heap.size = A at hD ⊢
  have hA : ∀ q : Nat, s.heap.size ≤ q → A q := fun q h => by rw [← hAe]; exact Or.inr h
  have hS : va_S A s.heap s.heap [] := va_S.rf
  have hP : va_P (dC, dI) crCl [(x, .inr (1, [.ref r, .ref r2, .ref r3])), (r, .inr (0, [.ref a, .ref b, .int (nI n)])), (a, .inl (cI, 768, .inl f)), (b, .inl (cI, 768, .inl g))] s.heap := hP
  have hl := lv_entry ([.ref x]) (n := 1) (Nat.le_of_ble_eq_true rfl)
  rw [lg_entry_eq]
  generalize (lg_sl ([.ref x]) ++ List.replicate (1 - (lg_sl ([.ref x])).length) Slot.unset).toArray = ls at hl ⊢
  have hl : lv_has ls 1 [(0, .ref x)] := hl
  refine lv_aload_n hx hb dX1_clear_0 rfl (lv_at hl 0 rfl) ?_
  refine va_get (D := (dC, dI)) (ci := 1) (v := .ref r) (C := RX1) (T := TX1) (N := 3) hx hb hts (by decide +kernel) hown hK hP 0 rfl rfl 0 (by decide) (hts (.fieldLink RX1 10 "CharRows" "held" "LCharRows$Ranges;") (by decide +kernel)) (fun _ h9 => h9) rfl dX1_clear_1 ?_
  have hPc := hP.sub (ws' := [(r, .inr (0, [.ref a, .ref b, .int (nI n)])), (a, .inl (cI, 768, .inl f)), (b, .inl (cI, 768, .inl g))]) [1, 2, 3] rfl
  have hDc := hD.sub (ws' := [(r, .inr (0, [.ref a, .ref b, .int (nI n)])), (a, .inl (cI, 768, .inl f)), (b, .inl (cI, 768, .inl g))]) [1, 2, 3] (by decide) rfl
  have hFc := va_free (wc := [(r, .inr (0, [.ref a, .ref b, .int (nI n)])), (a, .inl (cI, 768, .inl f)), (b, .inl (cI, 768, .inl g))]) hD hS hA [1, 2, 3] rfl
  refine va_callv (va_runVN (As := []) (rest := []) ⟨hx, hb, hml, hown, hts⟩ (c_empty l dC dI _ r a b cI (nI n) f g) (⟨va_cnB (host := "CharRows") 0 hts gX1_clear_X0_empty_n38 rfl rfl rfl (hN _ nw_38) (hts (.initialized RX0) (by decide +kernel)) (by decide +kernel) ⟨Nat.le_of_ble_eq_true rfl, Nat.le_of_ble_eq_true rfl⟩, hts (.instanceMethod yX0_empty) (by decide +kernel), hts (.selects RX0 yX0_empty yX0_empty) (by decide +kernel)⟩) (cr_preV hPc hK hDc (ci := 0) (q0 := 0) rfl rfl) rfl rfl hl.1 rfl (lv_room (Nat.le_of_ble_eq_true rfl)) dX1_clear_4 ⟨Nat.zero_le _, Nat.zero_le _⟩) hS (fun q _ h => hFc q h) hFc (fun u_4 t_4 H_4 locs ht_4 hvm_4 hw_4 hB_4 hz_4 hk_4 hS => ?_)
  subst hw_4
  obtain ⟨hP, hD⟩ := cr_back (wr := [(x, .inr (1, [.ref r, .ref r2, .ref r3]))]) (w1 := [(r, .inr (0, [.ref a, .ref b, .int (nI 0)])), (a, .inl (cI, 768, .inl f)), (b, .inl (cI, 768, .inl g))]) hP hD [1, 2, 3] [0] rfl rfl (by decide) (by decide) hk_4 hFc hB_4 ht_4
  clear hPc hDc hFc
  generalize H_4 = H at hP hS ⊢
  have hP := hP.sub (ws' := [(x, .inr (1, [.ref r, .ref r2, .ref r3])), (r, .inr (0, [.ref a, .ref b, .int (nI 0)])), (a, .inl (cI, 768, .inl f)), (b, .inl (cI, 768, .inl g))]) [0, 1, 2, 3] rfl
  have hD := hD.sub (ws' := [(x, .inr (1, [.ref r, .ref r2, .ref r3])), (r, .inr (0, [.ref a, .ref b, .int (nI 0)])), (a, .inl (cI, 768, .inl f)), (b, .inl (cI, 768, .inl g))]) [0, 1, 2, 3] (by decide) rfl
  exact W.vret hx hb hr (fun t9 ht9 hW9 => ⟨⟨[(x, .inr (1, [.ref r, .ref r2, .ref r3])), (r, .inr (0, [.ref a, .ref b, .int (nI 0)])), (a, .inl (cI, 768, .inl f)), (b, .inl (cI, 768, .inl g))], rfl, rfl, by rw [ht9]; exact hP, va_K.moved hW9.alike hK, hD⟩, hS.F ht9⟩) hS.2.2 dX1_clear_7

set_option maxHeartbeats 4000000 in
set_option maxRecDepth 100000 in
theorem c_add (l : Launch) (dC : Nat → ClassId) (dI : Nat → Nat → Nat) (sz : Nat) (x r r2 r3 a b : Nat) (cI : ClassId) (n : Nat) (f g : Nat → Int32) (S : Nat → Prop) (hSet : cr_Set n f g S) (hn : n + 1 < 768) (p0 q0 : Nat) (hpq : p0 ≤ q0) (hq : q0 ≤ 1114111) : Met l yX1_add wsX1_add ({ frames := 6, cells := 0, slots := 0, locals := 220 }) (va_Pc [.ref x, .int (nI p0), .int (nI q0)] (cr_preN dC dI [(cI, .int)] [(x, .inr (1, [.ref r, .ref r2, .ref r3])), (r, .inr (0, [.ref a, .ref b, .int (nI n)])), (a, .inl (cI, 768, .inl f)), (b, .inl (cI, 768, .inl g))] sz)) (va_Qi (fun (rr : Int32) (u : va_W) => ∃ (n' : Nat) (f' g' : Nat → Int32), rr = nI n' ∧ u = [(x, .inr (1, [.ref r, .ref r2, .ref r3])), (r, .inr (0, [.ref a, .ref b, .int (nI n')])), (a, .inl (cI, 768, .inl f')), (b, .inl (cI, 768, .inl g'))] ∧ n' ≤ 768 ∧ cr_Set n' f' g' (fun c => (S c ∨ (p0 ≤ c ∧ c ≤ q0 ∧ cr_ch c)))) (cr_at dC dI [(cI, .int)] (va_A [(x, .inr (1, [.ref r, .ref r2, .ref r3])), (r, .inr (0, [.ref a, .ref b, .int (nI n)])), (a, .inl (cI, 768, .inl f)), (b, .inl (cI, 768, .inl g))] sz)) (va_A [(x, .inr (1, [.ref r, .ref r2, .ref r3])), (r, .inr (0, [.ref a, .ref b, .int (nI n)])), (a, .inl (cI, 768, .inl f)), (b, .inl (cI, 768, .inl g))] sz)) 0 0 (va_A [(x, .inr (1, [.ref r, .ref r2, .ref r3])), (r, .inr (0, [.ref a, .ref b, .int (nI n)])), (a, .inl (cI, 768, .inl f)), (b, .inl (cI, 768, .inl g))] sz) := by
  refine Met.ofW (cc := cX1_add) (maxL := 3) (ret := (some .int)) (by decide) rfl ?_
  intro p e s m args below meth c s₁ B hml hv
  obtain ⟨rfl, ⟨hsz, hP, hK, hD0⟩, hN⟩ := hv
  have hx := B.exec
  have hb := B.bytes
  have hr := B.returns
  have hts := atoms_spec (ws := wsX1_add) B.pre
  have hown : s.vm.findClass RX1 = some m.cls := findClass_of_methodNamed B.named
  have hlocks := B.notSynchronized
  subst hsz
  have hD := hD0.self (sz := s.heap.size)
  generalize hAe : va_A [(x, .inr (1, [.ref r, .ref r2, .ref r3])), (r, .inr (0, [.ref a, .ref b, .int (nI n)])), (a, .inl (cI, 768, .inl f)), (b, .inl (cI, 768, .inl g))] s.heap.size = A at hD ⊢
  have hA : ∀ q : Nat, s.heap.size ≤ q → A q := fun q h => by rw [← hAe]; exact Or.inr h
  have hS : va_S A s.heap s.heap [] := va_S.rf
  have hP : va_P (dC, dI) crCl [(x, .inr (1, [.ref r, .ref r2, .ref r3])), (r, .inr (0, [.ref a, .ref b, .int (nI n)])), (a, .inl (cI, 768, .inl f)), (b, .inl (cI, 768, .inl g))] s.heap := hP
  have hl := lv_entry ([.ref x, .int (nI p0), .int (nI q0)]) (n := 3) (Nat.le_of_ble_eq_true rfl)
  rw [lg_entry_eq]
  generalize (lg_sl ([.ref x, .int (nI p0), .int (nI q0)]) ++ List.replicate (3 - (lg_sl ([.ref x, .int (nI p0), .int (nI q0)])).length) Slot.unset).toArray = ls at hl ⊢
  have hl : lv_has ls 3 [(0, .ref x), (1, .int (nI p0)), (2, .int (nI q0))] := hl
  refine lv_iload_n hx hb dX1_add_0 rfl (lv_at hl 1 rfl) ?_
  refine lv_if_lt (tgt := 15) hx hb dX1_add_1 (by decide) (fun c_1 => ?_) (fun c_1 => ?_)
  · exact absurd c_1 (nI_pos (by omega))
  · refine lv_iload_n hx hb dX1_add_4 rfl (lv_at hl 2 rfl) ?_
    refine lv_iload_n hx hb dX1_add_5 rfl (lv_at hl 1 rfl) ?_
    refine lv_icmp_lt (tgt := 15) hx hb dX1_add_6 (by decide) (fun c_6 => ?_) (fun c_6 => ?_)
    · exact absurd ((nI_ltI (by omega) (by omega)).1 c_6) (by omega)
    · refine lv_iload_n hx hb dX1_add_9 rfl (lv_at hl 2 rfl) ?_
      refine lv_ldc (v := nI 1114111) hx hb hown (hts (.constant RX1 22 (nI 1114111)) (by decide +kernel)) dX1_add_10 ?_
      refine lv_icmp_le (tgt := 25) hx hb dX1_add_12 (by decide) (fun c_12 => ?_) (fun c_12 => ?_)
      · refine lv_aload_n hx hb dX1_add_25 rfl (lv_at hl 0 rfl) ?_
        refine va_get (D := (dC, dI)) (ci := 1) (v := .ref r) (C := RX1) (T := TX1) (N := 3) hx hb hts (by decide +kernel) hown hK hP 0 rfl rfl 0 (by decide) (hts (.fieldLink RX1 10 "CharRows" "held" "LCharRows$Ranges;") (by decide +kernel)) (fun _ h9 => h9) rfl dX1_add_26 ?_
        refine lv_iload_n hx hb dX1_add_29 rfl (lv_at hl 1 rfl) ?_
        refine lv_iload_n hx hb dX1_add_30 rfl (lv_at hl 2 rfl) ?_
        have hPc := hP.sub (ws' := [(r, .inr (0, [.ref a, .ref b, .int (nI n)])), (a, .inl (cI, 768, .inl f)), (b, .inl (cI, 768, .inl g))]) [1, 2, 3] rfl
        have hDc := hD.sub (ws' := [(r, .inr (0, [.ref a, .ref b, .int (nI n)])), (a, .inl (cI, 768, .inl f)), (b, .inl (cI, 768, .inl g))]) [1, 2, 3] (by decide) rfl
        have hFc := va_free (wc := [(r, .inr (0, [.ref a, .ref b, .int (nI n)])), (a, .inl (cI, 768, .inl f)), (b, .inl (cI, 768, .inl g))]) hD hS hA [1, 2, 3] rfl
        refine va_callv (va_runS (As := [.ref r, .int (nI p0), .int (nI q0)]) (rest := []) ⟨hx, hb, hml, hown, hts⟩ (c_putCharacters l dC dI _ r a b cI n f g S hSet hn p0 (nI q0) (by omega) (by rw [nI_toInt (by omega)]; omega)) (va_cwS 3 hts gX1_add_X1_putCharacters rfl rfl rfl (by decide +kernel) ⟨Nat.le_of_ble_eq_true rfl, Nat.le_of_ble_eq_true rfl⟩) (cr_preSN hN hPc hK hDc) rfl rfl hl.1 rfl (lv_room (Nat.le_of_ble_eq_true rfl)) dX1_add_31 ⟨Nat.zero_le _, Nat.zero_le _⟩) hS (fun q _ h => hFc q h) hFc (fun u_31 t_31 H_31 locs ht_31 hvm_31 hw_31 hB_31 hz_31 hk_31 hS => ?_)
        obtain ⟨n1, f1, g1, rfl, hn1, hSet1⟩ := hw_31
        obtain ⟨hP, hD⟩ := cr_back (wr := [(x, .inr (1, [.ref r, .ref r2, .ref r3]))]) (w1 := [(r, .inr (0, [.ref a, .ref b, .int (nI n1)])), (a, .inl (cI, 768, .inl f1)), (b, .inl (cI, 768, .inl g1))]) hP hD [1, 2, 3] [0] rfl rfl (by decide) (by decide) hk_31 hFc hB_31 ht_31
        clear hPc hDc hFc
        generalize H_31 = H at hP hS ⊢
        have hP := hP.sub (ws' := [(x, .inr (1, [.ref r, .ref r2, .ref r3])), (r, .inr (0, [.ref a, .ref b, .int (nI n1)])), (a, .inl (cI, 768, .inl f1)), (b, .inl (cI, 768, .inl g1))]) [0, 1, 2, 3] rfl
        have hD := hD.sub (ws' := [(x, .inr (1, [.ref r, .ref r2, .ref r3])), (r, .inr (0, [.ref a, .ref b, .int (nI n1)])), (a, .inl (cI, 768, .inl f1)), (b, .inl (cI, 768, .inl g1))]) [0, 1, 2, 3] (by decide) rfl
        refine lv_aload_n hx hb dX1_add_34 rfl (lv_at hl 0 rfl) ?_
        refine va_get (D := (dC, dI)) (ci := 1) (v := .ref r) (C := RX1) (T := TX1) (N := 3) hx hb hts (by decide +kernel) hown hK hP 0 rfl rfl 0 (by decide) (hts (.fieldLink RX1 10 "CharRows" "held" "LCharRows$Ranges;") (by decide +kernel)) (fun _ h9 => h9) rfl dX1_add_35 ?_
        refine va_getN (D := (dC, dI)) (ci := 0) (v := .int (nI n1)) (C := RX0) (T := TX0) (N := 3) hx hb hts (by decide +kernel) hown hK hP 1 rfl rfl 2 (by decide) (va_Nw.use rfl (hN _ nw_34)) (fun _ h9 => h9) rfl dX1_add_38 ?_
        exact W.iret (v := nI n1) hx hb hr (fun t9 ht9 hW9 => ⟨⟨nI n1, [(x, .inr (1, [.ref r, .ref r2, .ref r3])), (r, .inr (0, [.ref a, .ref b, .int (nI n1)])), (a, .inl (cI, 768, .inl f1)), (b, .inl (cI, 768, .inl g1))], rfl, ⟨n1, f1, g1, rfl, rfl, by omega, hSet1.iff (fun c => by rw [nI_toInt (by omega)]; exact or_congr_right (by unfold cr_ch; omega))⟩, by rw [ht9]; exact hP, va_K.moved hW9.alike hK, hD⟩, hS.F ht9⟩) hS.2.2 dX1_add_41
      · exact absurd ((nI_leI (by omega) (by omega)).2 hq) c_12

set_option maxHeartbeats 4000000 in
set_option maxRecDepth 100000 in
theorem c_has (l : Launch) (dC : Nat → ClassId) (dI : Nat → Nat → Nat) (sz : Nat) (x r r2 r3 a b : Nat) (cI : ClassId) (n : Nat) (f g : Nat → Int32) (S : Nat → Prop) (hSet : cr_Set n f g S) (hn : n ≤ 768) (y : Int32) : Met l yX1_has wsX1_has ({ frames := 3, cells := 0, slots := 0, locals := 100 }) (va_Pc [.ref x, .int y] (cr_preN dC dI [(cI, .int)] [(x, .inr (1, [.ref r, .ref r2, .ref r3])), (r, .inr (0, [.ref a, .ref b, .int (nI n)])), (a, .inl (cI, 768, .inl f)), (b, .inl (cI, 768, .inl g))] sz)) (va_Qi (fun (rr : Int32) (u : va_W) => u = [(x, .inr (1, [.ref r, .ref r2, .ref r3])), (r, .inr (0, [.ref a, .ref b, .int (nI n)])), (a, .inl (cI, 768, .inl f)), (b, .inl (cI, 768, .inl g))] ∧ cr_zb rr (cr_Hs S y)) (cr_at dC dI [(cI, .int)] (va_A [(x, .inr (1, [.ref r, .ref r2, .ref r3])), (r, .inr (0, [.ref a, .ref b, .int (nI n)])), (a, .inl (cI, 768, .inl f)), (b, .inl (cI, 768, .inl g))] sz)) (va_A [(x, .inr (1, [.ref r, .ref r2, .ref r3])), (r, .inr (0, [.ref a, .ref b, .int (nI n)])), (a, .inl (cI, 768, .inl f)), (b, .inl (cI, 768, .inl g))] sz)) 0 0 (va_A [(x, .inr (1, [.ref r, .ref r2, .ref r3])), (r, .inr (0, [.ref a, .ref b, .int (nI n)])), (a, .inl (cI, 768, .inl f)), (b, .inl (cI, 768, .inl g))] sz) := by
  refine Met.ofW (cc := cX1_has) (maxL := 2) (ret := (some .boolean)) (by decide) rfl ?_
  intro p e s m args below meth c s₁ B hml hv
  obtain ⟨rfl, ⟨hsz, hP, hK, hD0⟩, hN⟩ := hv
  have hx := B.exec
  have hb := B.bytes
  have hr := B.returns
  have hts := atoms_spec (ws := wsX1_has) B.pre
  have hown : s.vm.findClass RX1 = some m.cls := findClass_of_methodNamed B.named
  have hlocks := B.notSynchronized
  subst hsz
  have hD := hD0.self (sz := s.heap.size)
  generalize hAe : va_A [(x, .inr (1, [.ref r, .ref r2, .ref r3])), (r, .inr (0, [.ref a, .ref b, .int (nI n)])), (a, .inl (cI, 768, .inl f)), (b, .inl (cI, 768, .inl g))] s.heap.size = A at hD ⊢
  have hA : ∀ q : Nat, s.heap.size ≤ q → A q := fun q h => by rw [← hAe]; exact Or.inr h
  have hS : va_S A s.heap s.heap [] := va_S.rf
  have hP : va_P (dC, dI) crCl [(x, .inr (1, [.ref r, .ref r2, .ref r3])), (r, .inr (0, [.ref a, .ref b, .int (nI n)])), (a, .inl (cI, 768, .inl f)), (b, .inl (cI, 768, .inl g))] s.heap := hP
  have hl := lv_entry ([.ref x, .int y]) (n := 2) (Nat.le_of_ble_eq_true rfl)
  rw [lg_entry_eq]
  generalize (lg_sl ([.ref x, .int y]) ++ List.replicate (2 - (lg_sl ([.ref x, .int y])).length) Slot.unset).toArray = ls at hl ⊢
  have hl : lv_has ls 2 [(0, .ref x), (1, .int y)] := hl
  refine lv_aload_n hx hb dX1_has_0 rfl (lv_at hl 0 rfl) ?_
  refine va_get (D := (dC, dI)) (ci := 1) (v := .ref r) (C := RX1) (T := TX1) (N := 3) hx hb hts (by decide +kernel) hown hK hP 0 rfl rfl 0 (by decide) (hts (.fieldLink RX1 10 "CharRows" "held" "LCharRows$Ranges;") (by decide +kernel)) (fun _ h9 => h9) rfl dX1_has_1 ?_
  refine lv_iload_n hx hb dX1_has_4 rfl (lv_at hl 1 rfl) ?_
  have hPc := hP.sub (ws' := [(r, .inr (0, [.ref a, .ref b, .int (nI n)])), (a, .inl (cI, 768, .inl f)), (b, .inl (cI, 768, .inl g))]) [1, 2, 3] rfl
  have hDc := hD.sub (ws' := [(r, .inr (0, [.ref a, .ref b, .int (nI n)])), (a, .inl (cI, 768, .inl f)), (b, .inl (cI, 768, .inl g))]) [1, 2, 3] (by decide) rfl
  have hFc := va_free (wc := [(r, .inr (0, [.ref a, .ref b, .int (nI n)])), (a, .inl (cI, 768, .inl f)), (b, .inl (cI, 768, .inl g))]) hD hS hA [1, 2, 3] rfl
  refine va_calli (va_runVN (As := [.int y]) (rest := []) ⟨hx, hb, hml, hown, hts⟩ (c_holds l dC dI _ r a b cI n f g S hSet hn y) (⟨va_cnB (host := "CharRows") 1 hts gX1_has_X0_holds_n62 rfl rfl rfl (hN _ nw_62) (hts (.initialized RX0) (by decide +kernel)) (by decide +kernel) ⟨Nat.le_of_ble_eq_true rfl, Nat.le_of_ble_eq_true rfl⟩, hts (.instanceMethod yX0_holds) (by decide +kernel), hts (.selects RX0 yX0_holds yX0_holds) (by decide +kernel)⟩) (cr_preV hPc hK hDc (ci := 0) (q0 := 0) rfl rfl) rfl rfl hl.1 rfl (lv_room (Nat.le_of_ble_eq_true rfl)) dX1_has_5 ⟨Nat.zero_le _, Nat.zero_le _⟩) hS (fun q _ h => hFc q h) hFc (fun r_5 u_5 t_5 H_5 locs ht_5 hvm_5 hw_5 hB_5 hz_5 hk_5 hS => ?_)
  obtain ⟨rfl, hzb⟩ := hw_5
  have hzr : narrow .boolean (.int r_5) = .int r_5 := cr_zb_nar hzb
  obtain ⟨hP, hD⟩ := cr_back (wr := [(x, .inr (1, [.ref r, .ref r2, .ref r3]))]) (w1 := [(r, .inr (0, [.ref a, .ref b, .int (nI n)])), (a, .inl (cI, 768, .inl f)), (b, .inl (cI, 768, .inl g))]) hP hD [1, 2, 3] [0] rfl rfl (by decide) (by decide) hk_5 hFc hB_5 ht_5
  clear hPc hDc hFc
  generalize H_5 = H at hP hS ⊢
  have hP := hP.sub (ws' := [(x, .inr (1, [.ref r, .ref r2, .ref r3])), (r, .inr (0, [.ref a, .ref b, .int (nI n)])), (a, .inl (cI, 768, .inl f)), (b, .inl (cI, 768, .inl g))]) [0, 1, 2, 3] rfl
  have hD := hD.sub (ws' := [(x, .inr (1, [.ref r, .ref r2, .ref r3])), (r, .inr (0, [.ref a, .ref b, .int (nI n)])), (a, .inl (cI, 768, .inl f)), (b, .inl (cI, 768, .inl g))]) [0, 1, 2, 3] (by decide) rfl
  exact W.zret (v := r_5) (ty := .boolean) hx hb hr hzr (fun t9 ht9 hW9 => ⟨⟨r_5, [(x, .inr (1, [.ref r, .ref r2, .ref r3])), (r, .inr (0, [.ref a, .ref b, .int (nI n)])), (a, .inl (cI, 768, .inl f)), (b, .inl (cI, 768, .inl g))], rfl, ⟨rfl, hzb⟩, by rw [ht9]; exact hP, va_K.moved hW9.alike hK, hD⟩, hS.F ht9⟩) hS.2.2 dX1_has_8

set_option maxHeartbeats 4000000 in
set_option maxRecDepth 100000 in
theorem c_ranges (l : Launch) (dC : Nat → ClassId) (dI : Nat → Nat → Nat) (sz : Nat) (x r r2 r3 a b : Nat) (cI : ClassId) (n : Nat) (f g : Nat → Int32) : Met l yX1_ranges wsX1_ranges ({ frames := 1, cells := 0, slots := 0, locals := 20 }) (va_Pc [.ref x] (cr_preN dC dI [(cI, .int)] [(x, .inr (1, [.ref r, .ref r2, .ref r3])), (r, .inr (0, [.ref a, .ref b, .int (nI n)])), (a, .inl (cI, 768, .inl f)), (b, .inl (cI, 768, .inl g))] sz)) (va_Qi (fun (rr : Int32) (u : va_W) => u = [(x, .inr (1, [.ref r, .ref r2, .ref r3])), (r, .inr (0, [.ref a, .ref b, .int (nI n)])), (a, .inl (cI, 768, .inl f)), (b, .inl (cI, 768, .inl g))] ∧ rr = nI n) (cr_at dC dI [(cI, .int)] (va_A [(x, .inr (1, [.ref r, .ref r2, .ref r3])), (r, .inr (0, [.ref a, .ref b, .int (nI n)])), (a, .inl (cI, 768, .inl f)), (b, .inl (cI, 768, .inl g))] sz)) (va_A [(x, .inr (1, [.ref r, .ref r2, .ref r3])), (r, .inr (0, [.ref a, .ref b, .int (nI n)])), (a, .inl (cI, 768, .inl f)), (b, .inl (cI, 768, .inl g))] sz)) 0 0 (va_A [(x, .inr (1, [.ref r, .ref r2, .ref r3])), (r, .inr (0, [.ref a, .ref b, .int (nI n)])), (a, .inl (cI, 768, .inl f)), (b, .inl (cI, 768, .inl g))] sz) := by
  refine Met.ofW (cc := cX1_ranges) (maxL := 1) (ret := (some .int)) (by decide) rfl ?_
  intro p e s m args below meth c s₁ B hml hv
  obtain ⟨rfl, ⟨hsz, hP, hK, hD0⟩, hN⟩ := hv
  have hx := B.exec
  have hb := B.bytes
  have hr := B.returns
  have hts := atoms_spec (ws := wsX1_ranges) B.pre
  have hown : s.vm.findClass RX1 = some m.cls := findClass_of_methodNamed B.named
  have hlocks := B.notSynchronized
  subst hsz
  have hD := hD0.self (sz := s.heap.size)
  generalize hAe : va_A [(x, .inr (1, [.ref r, .ref r2, .ref r3])), (r, .inr (0, [.ref a, .ref b, .int (nI n)])), (a, .inl (cI, 768, .inl f)), (b, .inl (cI, 768, .inl g))] s.heap.size = A at hD ⊢
  have hA : ∀ q : Nat, s.heap.size ≤ q → A q := fun q h => by rw [← hAe]; exact Or.inr h
  have hS : va_S A s.heap s.heap [] := va_S.rf
  have hP : va_P (dC, dI) crCl [(x, .inr (1, [.ref r, .ref r2, .ref r3])), (r, .inr (0, [.ref a, .ref b, .int (nI n)])), (a, .inl (cI, 768, .inl f)), (b, .inl (cI, 768, .inl g))] s.heap := hP
  have hl := lv_entry ([.ref x]) (n := 1) (Nat.le_of_ble_eq_true rfl)
  rw [lg_entry_eq]
  generalize (lg_sl ([.ref x]) ++ List.replicate (1 - (lg_sl ([.ref x])).length) Slot.unset).toArray = ls at hl ⊢
  have hl : lv_has ls 1 [(0, .ref x)] := hl
  refine lv_aload_n hx hb dX1_ranges_0 rfl (lv_at hl 0 rfl) ?_
  refine va_get (D := (dC, dI)) (ci := 1) (v := .ref r) (C := RX1) (T := TX1) (N := 3) hx hb hts (by decide +kernel) hown hK hP 0 rfl rfl 0 (by decide) (hts (.fieldLink RX1 10 "CharRows" "held" "LCharRows$Ranges;") (by decide +kernel)) (fun _ h9 => h9) rfl dX1_ranges_1 ?_
  refine va_getN (D := (dC, dI)) (ci := 0) (v := .int (nI n)) (C := RX0) (T := TX0) (N := 3) hx hb hts (by decide +kernel) hown hK hP 1 rfl rfl 2 (by decide) (va_Nw.use rfl (hN _ nw_34)) (fun _ h9 => h9) rfl dX1_ranges_4 ?_
  exact W.iret (v := nI n) hx hb hr (fun t9 ht9 hW9 => ⟨⟨nI n, [(x, .inr (1, [.ref r, .ref r2, .ref r3])), (r, .inr (0, [.ref a, .ref b, .int (nI n)])), (a, .inl (cI, 768, .inl f)), (b, .inl (cI, 768, .inl g))], rfl, ⟨rfl, rfl⟩, by rw [ht9]; exact hP, va_K.moved hW9.alike hK, hD⟩, hS.F ht9⟩) hS.2.2 dX1_ranges_7

set_option maxHeartbeats 4000000 in
set_option maxRecDepth 100000 in
theorem c_range (l : Launch) (dC : Nat → ClassId) (dI : Nat → Nat → Nat) (sz : Nat) (x r r2 r3 a b : Nat) (cI : ClassId) (n : Nat) (f g : Nat → Int32) (hn : n ≤ 768) (k w : Int32) : Met l yX1_range wsX1_range ({ frames := 1, cells := 0, slots := 0, locals := 20 }) (va_Pc [.ref x, .int k, .int w] (cr_preN dC dI [(cI, .int)] [(x, .inr (1, [.ref r, .ref r2, .ref r3])), (r, .inr (0, [.ref a, .ref b, .int (nI n)])), (a, .inl (cI, 768, .inl f)), (b, .inl (cI, 768, .inl g))] sz)) (va_Qi (fun (rr : Int32) (u : va_W) => u = [(x, .inr (1, [.ref r, .ref r2, .ref r3])), (r, .inr (0, [.ref a, .ref b, .int (nI n)])), (a, .inl (cI, 768, .inl f)), (b, .inl (cI, 768, .inl g))] ∧ rr = cr_rng n f g k w) (cr_at dC dI [(cI, .int)] (va_A [(x, .inr (1, [.ref r, .ref r2, .ref r3])), (r, .inr (0, [.ref a, .ref b, .int (nI n)])), (a, .inl (cI, 768, .inl f)), (b, .inl (cI, 768, .inl g))] sz)) (va_A [(x, .inr (1, [.ref r, .ref r2, .ref r3])), (r, .inr (0, [.ref a, .ref b, .int (nI n)])), (a, .inl (cI, 768, .inl f)), (b, .inl (cI, 768, .inl g))] sz)) 0 0 (va_A [(x, .inr (1, [.ref r, .ref r2, .ref r3])), (r, .inr (0, [.ref a, .ref b, .int (nI n)])), (a, .inl (cI, 768, .inl f)), (b, .inl (cI, 768, .inl g))] sz) := by
  refine Met.ofW (cc := cX1_range) (maxL := 3) (ret := (some .int)) (by decide) rfl ?_
  intro p e s m args below meth c s₁ B hml hv
  obtain ⟨rfl, ⟨hsz, hP, hK, hD0⟩, hN⟩ := hv
  have hx := B.exec
  have hb := B.bytes
  have hr := B.returns
  have hts := atoms_spec (ws := wsX1_range) B.pre
  have hown : s.vm.findClass RX1 = some m.cls := findClass_of_methodNamed B.named
  have hlocks := B.notSynchronized
  subst hsz
  have hD := hD0.self (sz := s.heap.size)
  generalize hAe : va_A [(x, .inr (1, [.ref r, .ref r2, .ref r3])), (r, .inr (0, [.ref a, .ref b, .int (nI n)])), (a, .inl (cI, 768, .inl f)), (b, .inl (cI, 768, .inl g))] s.heap.size = A at hD ⊢
  have hA : ∀ q : Nat, s.heap.size ≤ q → A q := fun q h => by rw [← hAe]; exact Or.inr h
  have hS : va_S A s.heap s.heap [] := va_S.rf
  have hP : va_P (dC, dI) crCl [(x, .inr (1, [.ref r, .ref r2, .ref r3])), (r, .inr (0, [.ref a, .ref b, .int (nI n)])), (a, .inl (cI, 768, .inl f)), (b, .inl (cI, 768, .inl g))] s.heap := hP
  have hl := lv_entry ([.ref x, .int k, .int w]) (n := 3) (Nat.le_of_ble_eq_true rfl)
  rw [lg_entry_eq]
  generalize (lg_sl ([.ref x, .int k, .int w]) ++ List.replicate (3 - (lg_sl ([.ref x, .int k, .int w])).length) Slot.unset).toArray = ls at hl ⊢
  have hl : lv_has ls 3 [(0, .ref x), (1, .int k), (2, .int w)] := hl
  refine lv_iload_n hx hb dX1_range_0 rfl (lv_at hl 1 rfl) ?_
  refine lv_if_lt (tgt := 15) hx hb dX1_range_1 (by decide) (fun c_1 => ?_) (fun c_1 => ?_)
  · refine lv_iconst (v := (-1)) hx hb dX1_range_15 (by decide) ?_
    exact W.iret (v := (-1)) hx hb hr (fun t9 ht9 hW9 => ⟨⟨(-1), [(x, .inr (1, [.ref r, .ref r2, .ref r3])), (r, .inr (0, [.ref a, .ref b, .int (nI n)])), (a, .inl (cI, 768, .inl f)), (b, .inl (cI, 768, .inl g))], rfl, ⟨rfl, (cr_rng_neg c_1).symm⟩, by rw [ht9]; exact hP, va_K.moved hW9.alike hK, hD⟩, hS.F ht9⟩) hS.2.2 dX1_range_16
  · refine lv_iload_n hx hb dX1_range_4 rfl (lv_at hl 1 rfl) ?_
    refine lv_aload_n hx hb dX1_range_5 rfl (lv_at hl 0 rfl) ?_
    refine va_get (D := (dC, dI)) (ci := 1) (v := .ref r) (C := RX1) (T := TX1) (N := 3) hx hb hts (by decide +kernel) hown hK hP 0 rfl rfl 0 (by decide) (hts (.fieldLink RX1 10 "CharRows" "held" "LCharRows$Ranges;") (by decide +kernel)) (fun _ h9 => h9) rfl dX1_range_6 ?_
    refine va_getN (D := (dC, dI)) (ci := 0) (v := .int (nI n)) (C := RX0) (T := TX0) (N := 3) hx hb hts (by decide +kernel) hown hK hP 1 rfl rfl 2 (by decide) (va_Nw.use rfl (hN _ nw_34)) (fun _ h9 => h9) rfl dX1_range_9 ?_
    refine lv_icmp_lt (tgt := 17) hx hb dX1_range_12 (by decide) (fun c_12 => ?_) (fun c_12 => ?_)
    · refine lv_iload_n hx hb dX1_range_17 rfl (lv_at hl 2 rfl) ?_
      refine lv_if_ne (tgt := 31) hx hb dX1_range_18 (by decide) (fun c_18 => ?_) (fun c_18 => ?_)
      · refine lv_iload_n hx hb dX1_range_31 rfl (lv_at hl 2 rfl) ?_
        refine lv_iconst (v := nI 1) hx hb dX1_range_32 (by decide) ?_
        refine lv_icmp_ne (tgt := 48) hx hb dX1_range_33 (by decide) (fun c_33 => ?_) (fun c_33 => ?_)
        · refine lv_iconst (v := (-1)) hx hb dX1_range_48 (by decide) ?_
          exact W.iret (v := (-1)) hx hb hr (fun t9 ht9 hW9 => ⟨⟨(-1), [(x, .inr (1, [.ref r, .ref r2, .ref r3])), (r, .inr (0, [.ref a, .ref b, .int (nI n)])), (a, .inl (cI, 768, .inl f)), (b, .inl (cI, 768, .inl g))], rfl, ⟨rfl, (cr_rng_2 c_1 c_12 c_18 c_33).symm⟩, by rw [ht9]; exact hP, va_K.moved hW9.alike hK, hD⟩, hS.F ht9⟩) hS.2.2 dX1_range_49
        · refine lv_aload_n hx hb dX1_range_36 rfl (lv_at hl 0 rfl) ?_
          refine va_get (D := (dC, dI)) (ci := 1) (v := .ref r) (C := RX1) (T := TX1) (N := 3) hx hb hts (by decide +kernel) hown hK hP 0 rfl rfl 0 (by decide) (hts (.fieldLink RX1 10 "CharRows" "held" "LCharRows$Ranges;") (by decide +kernel)) (fun _ h9 => h9) rfl dX1_range_37 ?_
          refine va_getN (D := (dC, dI)) (ci := 0) (v := .ref b) (C := RX0) (T := TX0) (N := 3) hx hb hts (by decide +kernel) hown hK hP 1 rfl rfl 1 (by decide) (va_Nw.use rfl (hN _ nw_51)) (fun _ h9 => h9) rfl dX1_range_40 ?_
          refine lv_iload_n hx hb dX1_range_43 rfl (lv_at hl 1 rfl) ?_
          refine va_iald hx hb hK hP 3 0 rfl rfl (cr_in_of c_1 c_12 hn) dX1_range_44 ?_
          refine lv_goto (tgt := 49) hx hb dX1_range_45 (by decide) ?_
          exact W.iret (v := g k.toNatClampNeg) hx hb hr (fun t9 ht9 hW9 => ⟨⟨g k.toNatClampNeg, [(x, .inr (1, [.ref r, .ref r2, .ref r3])), (r, .inr (0, [.ref a, .ref b, .int (nI n)])), (a, .inl (cI, 768, .inl f)), (b, .inl (cI, 768, .inl g))], rfl, ⟨rfl, (cr_rng_1 c_1 c_12 c_18 c_33).symm⟩, by rw [ht9]; exact hP, va_K.moved hW9.alike hK, hD⟩, hS.F ht9⟩) hS.2.2 dX1_range_49
      · refine lv_aload_n hx hb dX1_range_21 rfl (lv_at hl 0 rfl) ?_
        refine va_get (D := (dC, dI)) (ci := 1) (v := .ref r) (C := RX1) (T := TX1) (N := 3) hx hb hts (by decide +kernel) hown hK hP 0 rfl rfl 0 (by decide) (hts (.fieldLink RX1 10 "CharRows" "held" "LCharRows$Ranges;") (by decide +kernel)) (fun _ h9 => h9) rfl dX1_range_22 ?_
        refine va_getN (D := (dC, dI)) (ci := 0) (v := .ref a) (C := RX0) (T := TX0) (N := 3) hx hb hts (by decide +kernel) hown hK hP 1 rfl rfl 0 (by decide) (va_Nw.use rfl (hN _ nw_47)) (fun _ h9 => h9) rfl dX1_range_25 ?_
        refine lv_iload_n hx hb dX1_range_28 rfl (lv_at hl 1 rfl) ?_
        refine va_iald hx hb hK hP 2 0 rfl rfl (cr_in_of c_1 c_12 hn) dX1_range_29 ?_
        exact W.iret (v := f k.toNatClampNeg) hx hb hr (fun t9 ht9 hW9 => ⟨⟨f k.toNatClampNeg, [(x, .inr (1, [.ref r, .ref r2, .ref r3])), (r, .inr (0, [.ref a, .ref b, .int (nI n)])), (a, .inl (cI, 768, .inl f)), (b, .inl (cI, 768, .inl g))], rfl, ⟨rfl, (cr_rng_0 c_1 c_12 c_18).symm⟩, by rw [ht9]; exact hP, va_K.moved hW9.alike hK, hD⟩, hS.F ht9⟩) hS.2.2 dX1_range_30
    · refine lv_iconst (v := (-1)) hx hb dX1_range_15 (by decide) ?_
      exact W.iret (v := (-1)) hx hb hr (fun t9 ht9 hW9 => ⟨⟨(-1), [(x, .inr (1, [.ref r, .ref r2, .ref r3])), (r, .inr (0, [.ref a, .ref b, .int (nI n)])), (a, .inl (cI, 768, .inl f)), (b, .inl (cI, 768, .inl g))], rfl, ⟨rfl, (cr_rng_big c_12).symm⟩, by rw [ht9]; exact hP, va_K.moved hW9.alike hK, hD⟩, hS.F ht9⟩) hS.2.2 dX1_range_16

set_option maxHeartbeats 4000000 in
set_option maxRecDepth 100000 in
theorem c_foldTwo (l : Launch) (dC : Nat → ClassId) (dI : Nat → Nat → Nat) (sz : Nat) (x r r2 r3 a b : Nat) (cI : ClassId) (n : Nat) (f g : Nat → Int32) (S : Nat → Prop) (hSet : cr_Set n f g S) (hn : n < 768) (p0 q0 : Nat) (hp : p0 < 55296) (hq : q0 < 55296) : Met l yX1_foldTwo wsX1_foldTwo ({ frames := 5, cells := 0, slots := 0, locals := 180 }) (va_Pc [.ref x, .int (nI p0), .int (nI q0)] (cr_preN dC dI [(cI, .int)] [(x, .inr (1, [.ref r, .ref r2, .ref r3])), (r, .inr (0, [.ref a, .ref b, .int (nI n)])), (a, .inl (cI, 768, .inl f)), (b, .inl (cI, 768, .inl g))] sz)) (va_Qv (fun (u : va_W) => ∃ (n' : Nat) (f' g' : Nat → Int32), u = [(x, .inr (1, [.ref r, .ref r2, .ref r3])), (r, .inr (0, [.ref a, .ref b, .int (nI n')])), (a, .inl (cI, 768, .inl f')), (b, .inl (cI, 768, .inl g'))] ∧ n' ≤ 768 ∧ cr_Set n' f' g' (fun c => (S c ∨ ((c = p0 ∨ c = q0) ∧ (S p0 ∨ S q0))))) (cr_at dC dI [(cI, .int)] (va_A [(x, .inr (1, [.ref r, .ref r2, .ref r3])), (r, .inr (0, [.ref a, .ref b, .int (nI n)])), (a, .inl (cI, 768, .inl f)), (b, .inl (cI, 768, .inl g))] sz)) (va_A [(x, .inr (1, [.ref r, .ref r2, .ref r3])), (r, .inr (0, [.ref a, .ref b, .int (nI n)])), (a, .inl (cI, 768, .inl f)), (b, .inl (cI, 768, .inl g))] sz)) 0 0 (va_A [(x, .inr (1, [.ref r, .ref r2, .ref r3])), (r, .inr (0, [.ref a, .ref b, .int (nI n)])), (a, .inl (cI, 768, .inl f)), (b, .inl (cI, 768, .inl g))] sz) := by
  refine Met.ofW (cc := cX1_foldTwo) (maxL := 5) (ret := none) (by decide) rfl ?_
  intro p e s m args below meth c s₁ B hml hv
  obtain ⟨rfl, ⟨hsz, hP, hK, hD0⟩, hN⟩ := hv
  have hx := B.exec
  have hb := B.bytes
  have hr := B.returns
  have hts := atoms_spec (ws := wsX1_foldTwo) B.pre
  have hown : s.vm.findClass RX1 = some m.cls := findClass_of_methodNamed B.named
  have hlocks := B.notSynchronized
  subst hsz
  have hD := hD0.self (sz := s.heap.size)
  generalize hAe : va_A [(x, .inr (1, [.ref r, .ref r2, .ref r3])), (r, .inr (0, [.ref a, .ref b, .int (nI n)])), (a, .inl (cI, 768, .inl f)), (b, .inl (cI, 768, .inl g))] s.heap.size = A at hD ⊢
  have hA : ∀ q : Nat, s.heap.size ≤ q → A q := fun q h => by rw [← hAe]; exact Or.inr h
  have hS : va_S A s.heap s.heap [] := va_S.rf
  have hP : va_P (dC, dI) crCl [(x, .inr (1, [.ref r, .ref r2, .ref r3])), (r, .inr (0, [.ref a, .ref b, .int (nI n)])), (a, .inl (cI, 768, .inl f)), (b, .inl (cI, 768, .inl g))] s.heap := hP
  have hl := lv_entry ([.ref x, .int (nI p0), .int (nI q0)]) (n := 5) (Nat.le_of_ble_eq_true rfl)
  rw [lg_entry_eq]
  generalize (lg_sl ([.ref x, .int (nI p0), .int (nI q0)]) ++ List.replicate (5 - (lg_sl ([.ref x, .int (nI p0), .int (nI q0)])).length) Slot.unset).toArray = ls at hl ⊢
  have hl : lv_has ls 5 [(0, .ref x), (1, .int (nI p0)), (2, .int (nI q0))] := hl
  refine lv_aload_n hx hb dX1_foldTwo_0 rfl (lv_at hl 0 rfl) ?_
  refine va_get (D := (dC, dI)) (ci := 1) (v := .ref r) (C := RX1) (T := TX1) (N := 3) hx hb hts (by decide +kernel) hown hK hP 0 rfl rfl 0 (by decide) (hts (.fieldLink RX1 10 "CharRows" "held" "LCharRows$Ranges;") (by decide +kernel)) (fun _ h9 => h9) rfl dX1_foldTwo_1 ?_
  refine lv_iload_n hx hb dX1_foldTwo_4 rfl (lv_at hl 1 rfl) ?_
  have hPc := hP.sub (ws' := [(r, .inr (0, [.ref a, .ref b, .int (nI n)])), (a, .inl (cI, 768, .inl f)), (b, .inl (cI, 768, .inl g))]) [1, 2, 3] rfl
  have hDc := hD.sub (ws' := [(r, .inr (0, [.ref a, .ref b, .int (nI n)])), (a, .inl (cI, 768, .inl f)), (b, .inl (cI, 768, .inl g))]) [1, 2, 3] (by decide) rfl
  have hFc := va_free (wc := [(r, .inr (0, [.ref a, .ref b, .int (nI n)])), (a, .inl (cI, 768, .inl f)), (b, .inl (cI, 768, .inl g))]) hD hS hA [1, 2, 3] rfl
  refine va_calli (va_runVN (As := [.int (nI p0)]) (rest := []) ⟨hx, hb, hml, hown, hts⟩ (c_holds l dC dI _ r a b cI n f g S hSet (by omega) (nI p0)) (⟨va_cnB (host := "CharRows") 1 hts gX1_foldTwo_X0_holds_n62 rfl rfl rfl (hN _ nw_62) (hts (.initialized RX0) (by decide +kernel)) (by decide +kernel) ⟨Nat.le_of_ble_eq_true rfl, Nat.le_of_ble_eq_true rfl⟩, hts (.instanceMethod yX0_holds) (by decide +kernel), hts (.selects RX0 yX0_holds yX0_holds) (by decide +kernel)⟩) (cr_preV hPc hK hDc (ci := 0) (q0 := 0) rfl rfl) rfl rfl hl.1 rfl (lv_room (Nat.le_of_ble_eq_true rfl)) dX1_foldTwo_5 ⟨Nat.zero_le _, Nat.zero_le _⟩) hS (fun q _ h => hFc q h) hFc (fun r_5 u_5 t_5 H_5 locs ht_5 hvm_5 hw_5 hB_5 hz_5 hk_5 hS => ?_)
  obtain ⟨rfl, hz_5⟩ := hw_5
  rw [cr_Hs_nI (by omega)] at hz_5
  obtain ⟨hP, hD⟩ := cr_back (wr := [(x, .inr (1, [.ref r, .ref r2, .ref r3]))]) (w1 := [(r, .inr (0, [.ref a, .ref b, .int (nI n)])), (a, .inl (cI, 768, .inl f)), (b, .inl (cI, 768, .inl g))]) hP hD [1, 2, 3] [0] rfl rfl (by decide) (by decide) hk_5 hFc hB_5 ht_5
  clear hPc hDc hFc
  generalize H_5 = H at hP hS ⊢
  have hP := hP.sub (ws' := [(x, .inr (1, [.ref r, .ref r2, .ref r3])), (r, .inr (0, [.ref a, .ref b, .int (nI n)])), (a, .inl (cI, 768, .inl f)), (b, .inl (cI, 768, .inl g))]) [0, 1, 2, 3] rfl
  have hD := hD.sub (ws' := [(x, .inr (1, [.ref r, .ref r2, .ref r3])), (r, .inr (0, [.ref a, .ref b, .int (nI n)])), (a, .inl (cI, 768, .inl f)), (b, .inl (cI, 768, .inl g))]) [0, 1, 2, 3] (by decide) rfl
  rcases hz_5 with ⟨rfl, hA1⟩ | ⟨rfl, hA1⟩
  · refine lv_istore_n (lv' := [(3, .int (nI 1)), (0, .ref x), (1, .int (nI p0)), (2, .int (nI q0))]) hx hb dX1_foldTwo_8 rfl hl (by decide) rfl (fun ls hl => ?_)
    refine lv_iload_n hx hb dX1_foldTwo_9 rfl (lv_at hl 0 rfl) ?_
    refine lv_aload_n hx hb dX1_foldTwo_10 rfl (lv_at hl 1 rfl) ?_
    refine va_get (D := (dC, dI)) (ci := 1) (v := .ref r) (C := RX1) (T := TX1) (N := 3) hx hb hts (by decide +kernel) hown hK hP 0 rfl rfl 0 (by decide) (hts (.fieldLink RX1 10 "CharRows" "held" "LCharRows$Ranges;") (by decide +kernel)) (fun _ h9 => h9) rfl dX1_foldTwo_11 ?_
    refine lv_iload_n hx hb dX1_foldTwo_14 rfl (lv_at hl 3 rfl) ?_
    have hPc := hP.sub (ws' := [(r, .inr (0, [.ref a, .ref b, .int (nI n)])), (a, .inl (cI, 768, .inl f)), (b, .inl (cI, 768, .inl g))]) [1, 2, 3] rfl
    have hDc := hD.sub (ws' := [(r, .inr (0, [.ref a, .ref b, .int (nI n)])), (a, .inl (cI, 768, .inl f)), (b, .inl (cI, 768, .inl g))]) [1, 2, 3] (by decide) rfl
    have hFc := va_free (wc := [(r, .inr (0, [.ref a, .ref b, .int (nI n)])), (a, .inl (cI, 768, .inl f)), (b, .inl (cI, 768, .inl g))]) hD hS hA [1, 2, 3] rfl
    refine va_calli (va_runVN (As := [.int (nI q0)]) (rest := [.int (nI 1)]) ⟨hx, hb, hml, hown, hts⟩ (c_holds l dC dI _ r a b cI n f g S hSet (by omega) (nI q0)) (⟨va_cnB (host := "CharRows") 1 hts gX1_foldTwo_X0_holds_n62 rfl rfl rfl (hN _ nw_62) (hts (.initialized RX0) (by decide +kernel)) (by decide +kernel) ⟨Nat.le_of_ble_eq_true rfl, Nat.le_of_ble_eq_true rfl⟩, hts (.instanceMethod yX0_holds) (by decide +kernel), hts (.selects RX0 yX0_holds yX0_holds) (by decide +kernel)⟩) (cr_preV hPc hK hDc (ci := 0) (q0 := 0) rfl rfl) rfl rfl hl.1 rfl (lv_room (Nat.le_of_ble_eq_true rfl)) dX1_foldTwo_15 ⟨Nat.zero_le _, Nat.zero_le _⟩) hS (fun q _ h => hFc q h) hFc (fun r_15 u_15 t_15 H_15 locs ht_15 hvm_15 hw_15 hB_15 hz_15 hk_15 hS => ?_)
    obtain ⟨rfl, hz_15⟩ := hw_15
    rw [cr_Hs_nI (by omega)] at hz_15
    obtain ⟨hP, hD⟩ := cr_back (wr := [(x, .inr (1, [.ref r, .ref r2, .ref r3]))]) (w1 := [(r, .inr (0, [.ref a, .ref b, .int (nI n)])), (a, .inl (cI, 768, .inl f)), (b, .inl (cI, 768, .inl g))]) hP hD [1, 2, 3] [0] rfl rfl (by decide) (by decide) hk_15 hFc hB_15 ht_15
    clear hPc hDc hFc
    generalize H_15 = H at hP hS ⊢
    have hP := hP.sub (ws' := [(x, .inr (1, [.ref r, .ref r2, .ref r3])), (r, .inr (0, [.ref a, .ref b, .int (nI n)])), (a, .inl (cI, 768, .inl f)), (b, .inl (cI, 768, .inl g))]) [0, 1, 2, 3] rfl
    have hD := hD.sub (ws' := [(x, .inr (1, [.ref r, .ref r2, .ref r3])), (r, .inr (0, [.ref a, .ref b, .int (nI n)])), (a, .inl (cI, 768, .inl f)), (b, .inl (cI, 768, .inl g))]) [0, 1, 2, 3] (by decide) rfl
    rcases hz_15 with ⟨rfl, hA2⟩ | ⟨rfl, hA2⟩
    · refine lv_icmp_eq (tgt := 43) hx hb dX1_foldTwo_18 (by decide) (fun c_18 => ?_) (fun c_18 => ?_)
      · exact W.vret hx hb hr (fun t9 ht9 hW9 => ⟨⟨[(x, .inr (1, [.ref r, .ref r2, .ref r3])), (r, .inr (0, [.ref a, .ref b, .int (nI n)])), (a, .inl (cI, 768, .inl f)), (b, .inl (cI, 768, .inl g))], rfl, ⟨n, f, g, rfl, by omega, hSet.iff (cr_two_11 hA1 hA2)⟩, by rw [ht9]; exact hP, va_K.moved hW9.alike hK, hD⟩, hS.F ht9⟩) hS.2.2 dX1_foldTwo_43
      · exact absurd (by decide) c_18
    · refine lv_icmp_eq (tgt := 43) hx hb dX1_foldTwo_18 (by decide) (fun c_18 => ?_) (fun c_18 => ?_)
      · exact absurd c_18 (by decide)
      · refine lv_iload_n hx hb dX1_foldTwo_21 rfl (lv_at hl 0 rfl) ?_
        refine lv_if_eq (tgt := 29) hx hb dX1_foldTwo_22 (by decide) (fun c_22 => ?_) (fun c_22 => ?_)
        · exact absurd c_22 (by decide)
        · refine lv_iload_n hx hb dX1_foldTwo_25 rfl (lv_at hl 3 rfl) ?_
          refine lv_goto (tgt := 30) hx hb dX1_foldTwo_26 (by decide) ?_
          refine lv_istore (lv' := [(4, .int (nI q0)), (3, .int (nI 1)), (0, .ref x), (1, .int (nI p0)), (2, .int (nI q0))]) hx hb dX1_foldTwo_30 hl (by decide) rfl (fun ls hl => ?_)
          refine lv_aload_n hx hb dX1_foldTwo_32 rfl (lv_at hl 2 rfl) ?_
          refine va_get (D := (dC, dI)) (ci := 1) (v := .ref r) (C := RX1) (T := TX1) (N := 3) hx hb hts (by decide +kernel) hown hK hP 0 rfl rfl 0 (by decide) (hts (.fieldLink RX1 10 "CharRows" "held" "LCharRows$Ranges;") (by decide +kernel)) (fun _ h9 => h9) rfl dX1_foldTwo_33 ?_
          refine lv_iload hx hb dX1_foldTwo_36 (lv_at hl 0 rfl) ?_
          refine lv_iload hx hb dX1_foldTwo_38 (lv_at hl 0 rfl) ?_
          have hPc := hP.sub (ws' := [(r, .inr (0, [.ref a, .ref b, .int (nI n)])), (a, .inl (cI, 768, .inl f)), (b, .inl (cI, 768, .inl g))]) [1, 2, 3] rfl
          have hDc := hD.sub (ws' := [(r, .inr (0, [.ref a, .ref b, .int (nI n)])), (a, .inl (cI, 768, .inl f)), (b, .inl (cI, 768, .inl g))]) [1, 2, 3] (by decide) rfl
          have hFc := va_free (wc := [(r, .inr (0, [.ref a, .ref b, .int (nI n)])), (a, .inl (cI, 768, .inl f)), (b, .inl (cI, 768, .inl g))]) hD hS hA [1, 2, 3] rfl
          refine va_callv (va_runVN (As := [.int (nI q0), .int (nI q0)]) (rest := []) ⟨hx, hb, hml, hown, hts⟩ (c_put l dC dI _ r a b cI n f g S hSet hn (nI q0) (nI q0) (by rw [nI_toInt (by omega)]; omega)) (⟨va_cnB (host := "CharRows") 2 hts gX1_foldTwo_X0_put_n58 rfl rfl rfl (hN _ nw_58) (hts (.initialized RX0) (by decide +kernel)) (by decide +kernel) ⟨Nat.le_of_ble_eq_true rfl, Nat.le_of_ble_eq_true rfl⟩, hts (.instanceMethod yX0_put) (by decide +kernel), hts (.selects RX0 yX0_put yX0_put) (by decide +kernel)⟩) (cr_preV hPc hK hDc (ci := 0) (q0 := 0) rfl rfl) rfl rfl hl.1 rfl (lv_room (Nat.le_of_ble_eq_true rfl)) dX1_foldTwo_40 ⟨Nat.zero_le _, Nat.zero_le _⟩) hS (fun q _ h => hFc q h) hFc (fun u_40 t_40 H_40 locs ht_40 hvm_40 hw_40 hB_40 hz_40 hk_40 hS => ?_)
          obtain ⟨n1, f1, g1, rfl, hn1, hSet1⟩ := hw_40
          obtain ⟨hP, hD⟩ := cr_back (wr := [(x, .inr (1, [.ref r, .ref r2, .ref r3]))]) (w1 := [(r, .inr (0, [.ref a, .ref b, .int (nI n1)])), (a, .inl (cI, 768, .inl f1)), (b, .inl (cI, 768, .inl g1))]) hP hD [1, 2, 3] [0] rfl rfl (by decide) (by decide) hk_40 hFc hB_40 ht_40
          clear hPc hDc hFc
          generalize H_40 = H at hP hS ⊢
          have hP := hP.sub (ws' := [(x, .inr (1, [.ref r, .ref r2, .ref r3])), (r, .inr (0, [.ref a, .ref b, .int (nI n1)])), (a, .inl (cI, 768, .inl f1)), (b, .inl (cI, 768, .inl g1))]) [0, 1, 2, 3] rfl
          have hD := hD.sub (ws' := [(x, .inr (1, [.ref r, .ref r2, .ref r3])), (r, .inr (0, [.ref a, .ref b, .int (nI n1)])), (a, .inl (cI, 768, .inl f1)), (b, .inl (cI, 768, .inl g1))]) [0, 1, 2, 3] (by decide) rfl
          exact W.vret hx hb hr (fun t9 ht9 hW9 => ⟨⟨[(x, .inr (1, [.ref r, .ref r2, .ref r3])), (r, .inr (0, [.ref a, .ref b, .int (nI n1)])), (a, .inl (cI, 768, .inl f1)), (b, .inl (cI, 768, .inl g1))], rfl, ⟨n1, f1, g1, rfl, by omega, hSet1.iff (cr_two_10 hA1 hA2 (by omega))⟩, by rw [ht9]; exact hP, va_K.moved hW9.alike hK, hD⟩, hS.F ht9⟩) hS.2.2 dX1_foldTwo_43
  · refine lv_istore_n (lv' := [(3, .int (nI 0)), (0, .ref x), (1, .int (nI p0)), (2, .int (nI q0))]) hx hb dX1_foldTwo_8 rfl hl (by decide) rfl (fun ls hl => ?_)
    refine lv_iload_n hx hb dX1_foldTwo_9 rfl (lv_at hl 0 rfl) ?_
    refine lv_aload_n hx hb dX1_foldTwo_10 rfl (lv_at hl 1 rfl) ?_
    refine va_get (D := (dC, dI)) (ci := 1) (v := .ref r) (C := RX1) (T := TX1) (N := 3) hx hb hts (by decide +kernel) hown hK hP 0 rfl rfl 0 (by decide) (hts (.fieldLink RX1 10 "CharRows" "held" "LCharRows$Ranges;") (by decide +kernel)) (fun _ h9 => h9) rfl dX1_foldTwo_11 ?_
    refine lv_iload_n hx hb dX1_foldTwo_14 rfl (lv_at hl 3 rfl) ?_
    have hPc := hP.sub (ws' := [(r, .inr (0, [.ref a, .ref b, .int (nI n)])), (a, .inl (cI, 768, .inl f)), (b, .inl (cI, 768, .inl g))]) [1, 2, 3] rfl
    have hDc := hD.sub (ws' := [(r, .inr (0, [.ref a, .ref b, .int (nI n)])), (a, .inl (cI, 768, .inl f)), (b, .inl (cI, 768, .inl g))]) [1, 2, 3] (by decide) rfl
    have hFc := va_free (wc := [(r, .inr (0, [.ref a, .ref b, .int (nI n)])), (a, .inl (cI, 768, .inl f)), (b, .inl (cI, 768, .inl g))]) hD hS hA [1, 2, 3] rfl
    refine va_calli (va_runVN (As := [.int (nI q0)]) (rest := [.int (nI 0)]) ⟨hx, hb, hml, hown, hts⟩ (c_holds l dC dI _ r a b cI n f g S hSet (by omega) (nI q0)) (⟨va_cnB (host := "CharRows") 1 hts gX1_foldTwo_X0_holds_n62 rfl rfl rfl (hN _ nw_62) (hts (.initialized RX0) (by decide +kernel)) (by decide +kernel) ⟨Nat.le_of_ble_eq_true rfl, Nat.le_of_ble_eq_true rfl⟩, hts (.instanceMethod yX0_holds) (by decide +kernel), hts (.selects RX0 yX0_holds yX0_holds) (by decide +kernel)⟩) (cr_preV hPc hK hDc (ci := 0) (q0 := 0) rfl rfl) rfl rfl hl.1 rfl (lv_room (Nat.le_of_ble_eq_true rfl)) dX1_foldTwo_15 ⟨Nat.zero_le _, Nat.zero_le _⟩) hS (fun q _ h => hFc q h) hFc (fun r_15 u_15 t_15 H_15 locs ht_15 hvm_15 hw_15 hB_15 hz_15 hk_15 hS => ?_)
    obtain ⟨rfl, hz_15⟩ := hw_15
    rw [cr_Hs_nI (by omega)] at hz_15
    obtain ⟨hP, hD⟩ := cr_back (wr := [(x, .inr (1, [.ref r, .ref r2, .ref r3]))]) (w1 := [(r, .inr (0, [.ref a, .ref b, .int (nI n)])), (a, .inl (cI, 768, .inl f)), (b, .inl (cI, 768, .inl g))]) hP hD [1, 2, 3] [0] rfl rfl (by decide) (by decide) hk_15 hFc hB_15 ht_15
    clear hPc hDc hFc
    generalize H_15 = H at hP hS ⊢
    have hP := hP.sub (ws' := [(x, .inr (1, [.ref r, .ref r2, .ref r3])), (r, .inr (0, [.ref a, .ref b, .int (nI n)])), (a, .inl (cI, 768, .inl f)), (b, .inl (cI, 768, .inl g))]) [0, 1, 2, 3] rfl
    have hD := hD.sub (ws' := [(x, .inr (1, [.ref r, .ref r2, .ref r3])), (r, .inr (0, [.ref a, .ref b, .int (nI n)])), (a, .inl (cI, 768, .inl f)), (b, .inl (cI, 768, .inl g))]) [0, 1, 2, 3] (by decide) rfl
    rcases hz_15 with ⟨rfl, hA2⟩ | ⟨rfl, hA2⟩
    · refine lv_icmp_eq (tgt := 43) hx hb dX1_foldTwo_18 (by decide) (fun c_18 => ?_) (fun c_18 => ?_)
      · exact absurd c_18 (by decide)
      · refine lv_iload_n hx hb dX1_foldTwo_21 rfl (lv_at hl 0 rfl) ?_
        refine lv_if_eq (tgt := 29) hx hb dX1_foldTwo_22 (by decide) (fun c_22 => ?_) (fun c_22 => ?_)
        · refine lv_iload_n hx hb dX1_foldTwo_29 rfl (lv_at hl 2 rfl) ?_
          refine lv_istore (lv' := [(4, .int (nI p0)), (3, .int (nI 0)), (0, .ref x), (1, .int (nI p0)), (2, .int (nI q0))]) hx hb dX1_foldTwo_30 hl (by decide) rfl (fun ls hl => ?_)
          refine lv_aload_n hx hb dX1_foldTwo_32 rfl (lv_at hl 2 rfl) ?_
          refine va_get (D := (dC, dI)) (ci := 1) (v := .ref r) (C := RX1) (T := TX1) (N := 3) hx hb hts (by decide +kernel) hown hK hP 0 rfl rfl 0 (by decide) (hts (.fieldLink RX1 10 "CharRows" "held" "LCharRows$Ranges;") (by decide +kernel)) (fun _ h9 => h9) rfl dX1_foldTwo_33 ?_
          refine lv_iload hx hb dX1_foldTwo_36 (lv_at hl 0 rfl) ?_
          refine lv_iload hx hb dX1_foldTwo_38 (lv_at hl 0 rfl) ?_
          have hPc := hP.sub (ws' := [(r, .inr (0, [.ref a, .ref b, .int (nI n)])), (a, .inl (cI, 768, .inl f)), (b, .inl (cI, 768, .inl g))]) [1, 2, 3] rfl
          have hDc := hD.sub (ws' := [(r, .inr (0, [.ref a, .ref b, .int (nI n)])), (a, .inl (cI, 768, .inl f)), (b, .inl (cI, 768, .inl g))]) [1, 2, 3] (by decide) rfl
          have hFc := va_free (wc := [(r, .inr (0, [.ref a, .ref b, .int (nI n)])), (a, .inl (cI, 768, .inl f)), (b, .inl (cI, 768, .inl g))]) hD hS hA [1, 2, 3] rfl
          refine va_callv (va_runVN (As := [.int (nI p0), .int (nI p0)]) (rest := []) ⟨hx, hb, hml, hown, hts⟩ (c_put l dC dI _ r a b cI n f g S hSet hn (nI p0) (nI p0) (by rw [nI_toInt (by omega)]; omega)) (⟨va_cnB (host := "CharRows") 2 hts gX1_foldTwo_X0_put_n58 rfl rfl rfl (hN _ nw_58) (hts (.initialized RX0) (by decide +kernel)) (by decide +kernel) ⟨Nat.le_of_ble_eq_true rfl, Nat.le_of_ble_eq_true rfl⟩, hts (.instanceMethod yX0_put) (by decide +kernel), hts (.selects RX0 yX0_put yX0_put) (by decide +kernel)⟩) (cr_preV hPc hK hDc (ci := 0) (q0 := 0) rfl rfl) rfl rfl hl.1 rfl (lv_room (Nat.le_of_ble_eq_true rfl)) dX1_foldTwo_40 ⟨Nat.zero_le _, Nat.zero_le _⟩) hS (fun q _ h => hFc q h) hFc (fun u_40 t_40 H_40 locs ht_40 hvm_40 hw_40 hB_40 hz_40 hk_40 hS => ?_)
          obtain ⟨n1, f1, g1, rfl, hn1, hSet1⟩ := hw_40
          obtain ⟨hP, hD⟩ := cr_back (wr := [(x, .inr (1, [.ref r, .ref r2, .ref r3]))]) (w1 := [(r, .inr (0, [.ref a, .ref b, .int (nI n1)])), (a, .inl (cI, 768, .inl f1)), (b, .inl (cI, 768, .inl g1))]) hP hD [1, 2, 3] [0] rfl rfl (by decide) (by decide) hk_40 hFc hB_40 ht_40
          clear hPc hDc hFc
          generalize H_40 = H at hP hS ⊢
          have hP := hP.sub (ws' := [(x, .inr (1, [.ref r, .ref r2, .ref r3])), (r, .inr (0, [.ref a, .ref b, .int (nI n1)])), (a, .inl (cI, 768, .inl f1)), (b, .inl (cI, 768, .inl g1))]) [0, 1, 2, 3] rfl
          have hD := hD.sub (ws' := [(x, .inr (1, [.ref r, .ref r2, .ref r3])), (r, .inr (0, [.ref a, .ref b, .int (nI n1)])), (a, .inl (cI, 768, .inl f1)), (b, .inl (cI, 768, .inl g1))]) [0, 1, 2, 3] (by decide) rfl
          exact W.vret hx hb hr (fun t9 ht9 hW9 => ⟨⟨[(x, .inr (1, [.ref r, .ref r2, .ref r3])), (r, .inr (0, [.ref a, .ref b, .int (nI n1)])), (a, .inl (cI, 768, .inl f1)), (b, .inl (cI, 768, .inl g1))], rfl, ⟨n1, f1, g1, rfl, by omega, hSet1.iff (cr_two_01 hA1 hA2 (by omega))⟩, by rw [ht9]; exact hP, va_K.moved hW9.alike hK, hD⟩, hS.F ht9⟩) hS.2.2 dX1_foldTwo_43
        · exact absurd (by decide) c_22
    · refine lv_icmp_eq (tgt := 43) hx hb dX1_foldTwo_18 (by decide) (fun c_18 => ?_) (fun c_18 => ?_)
      · exact W.vret hx hb hr (fun t9 ht9 hW9 => ⟨⟨[(x, .inr (1, [.ref r, .ref r2, .ref r3])), (r, .inr (0, [.ref a, .ref b, .int (nI n)])), (a, .inl (cI, 768, .inl f)), (b, .inl (cI, 768, .inl g))], rfl, ⟨n, f, g, rfl, by omega, hSet.iff (cr_two_00 hA1 hA2)⟩, by rw [ht9]; exact hP, va_K.moved hW9.alike hK, hD⟩, hS.F ht9⟩) hS.2.2 dX1_foldTwo_43
      · exact absurd (by decide) c_18

set_option maxHeartbeats 4000000 in
set_option maxRecDepth 100000 in
theorem c_keep (l : Launch) (dC : Nat → ClassId) (dI : Nat → Nat → Nat) (sz : Nat) (x r r2 r3 a b a3 b3 : Nat) (cI : ClassId) (n n3 : Nat) (f g f3 g3 : Nat → Int32) (hn : n ≤ 768) : Met l yX1_keep wsX1_keep ({ frames := 3, cells := 0, slots := 0, locals := 100 }) (va_Pc [.ref x] (cr_preN dC dI [(cI, .int)] [(x, .inr (1, [.ref r, .ref r2, .ref r3])), (r, .inr (0, [.ref a, .ref b, .int (nI n)])), (a, .inl (cI, 768, .inl f)), (b, .inl (cI, 768, .inl g)), (r3, .inr (0, [.ref a3, .ref b3, .int (nI n3)])), (a3, .inl (cI, 768, .inl f3)), (b3, .inl (cI, 768, .inl g3))] sz)) (va_Qv (fun (u : va_W) => u = [(x, .inr (1, [.ref r, .ref r2, .ref r3])), (r, .inr (0, [.ref a, .ref b, .int (nI n)])), (a, .inl (cI, 768, .inl f)), (b, .inl (cI, 768, .inl g)), (r3, .inr (0, [.ref a3, .ref b3, .int (nI n)])), (a3, .inl (cI, 768, .inl (va_cpy f f3 0 0 n))), (b3, .inl (cI, 768, .inl (va_cpy g g3 0 0 n)))]) (cr_at dC dI [(cI, .int)] (va_A [(x, .inr (1, [.ref r, .ref r2, .ref r3])), (r, .inr (0, [.ref a, .ref b, .int (nI n)])), (a, .inl (cI, 768, .inl f)), (b, .inl (cI, 768, .inl g)), (r3, .inr (0, [.ref a3, .ref b3, .int (nI n3)])), (a3, .inl (cI, 768, .inl f3)), (b3, .inl (cI, 768, .inl g3))] sz)) (va_A [(x, .inr (1, [.ref r, .ref r2, .ref r3])), (r, .inr (0, [.ref a, .ref b, .int (nI n)])), (a, .inl (cI, 768, .inl f)), (b, .inl (cI, 768, .inl g)), (r3, .inr (0, [.ref a3, .ref b3, .int (nI n3)])), (a3, .inl (cI, 768, .inl f3)), (b3, .inl (cI, 768, .inl g3))] sz)) 0 0 (va_A [(x, .inr (1, [.ref r, .ref r2, .ref r3])), (r, .inr (0, [.ref a, .ref b, .int (nI n)])), (a, .inl (cI, 768, .inl f)), (b, .inl (cI, 768, .inl g)), (r3, .inr (0, [.ref a3, .ref b3, .int (nI n3)])), (a3, .inl (cI, 768, .inl f3)), (b3, .inl (cI, 768, .inl g3))] sz) := by
  refine Met.ofW (cc := cX1_keep) (maxL := 1) (ret := none) (by decide) rfl ?_
  intro p e s m args below meth c s₁ B hml hv
  obtain ⟨rfl, ⟨hsz, hP, hK, hD0⟩, hN⟩ := hv
  have hx := B.exec
  have hb := B.bytes
  have hr := B.returns
  have hts := atoms_spec (ws := wsX1_keep) B.pre
  have hown : s.vm.findClass RX1 = some m.cls := findClass_of_methodNamed B.named
  have hlocks := B.notSynchronized
  subst hsz
  have hD := hD0.self (sz := s.heap.size)
  generalize hAe : va_A [(x, .inr (1, [.ref r, .ref r2, .ref r3])), (r, .inr (0, [.ref a, .ref b, .int (nI n)])), (a, .inl (cI, 768, .inl f)), (b, .inl (cI, 768, .inl g)), (r3, .inr (0, [.ref a3, .ref b3, .int (nI n3)])), (a3, .inl (cI, 768, .inl f3)), (b3, .inl (cI, 768, .inl g3))] s.heap.size = A at hD ⊢
  have hA : ∀ q : Nat, s.heap.size ≤ q → A q := fun q h => by rw [← hAe]; exact Or.inr h
  have hS : va_S A s.heap s.heap [] := va_S.rf
  have hP : va_P (dC, dI) crCl [(x, .inr (1, [.ref r, .ref r2, .ref r3])), (r, .inr (0, [.ref a, .ref b, .int (nI n)])), (a, .inl (cI, 768, .inl f)), (b, .inl (cI, 768, .inl g)), (r3, .inr (0, [.ref a3, .ref b3, .int (nI n3)])), (a3, .inl (cI, 768, .inl f3)), (b3, .inl (cI, 768, .inl g3))] s.heap := hP
  have hl := lv_entry ([.ref x]) (n := 1) (Nat.le_of_ble_eq_true rfl)
  rw [lg_entry_eq]
  generalize (lg_sl ([.ref x]) ++ List.replicate (1 - (lg_sl ([.ref x])).length) Slot.unset).toArray = ls at hl ⊢
  have hl : lv_has ls 1 [(0, .ref x)] := hl
  refine lv_aload_n hx hb dX1_keep_0 rfl (lv_at hl 0 rfl) ?_
  refine va_get (D := (dC, dI)) (ci := 1) (v := .ref r3) (C := RX1) (T := TX1) (N := 3) hx hb hts (by decide +kernel) hown hK hP 0 rfl rfl 2 (by decide) (hts (.fieldLink RX1 19 "CharRows" "kept" "LCharRows$Ranges;") (by decide +kernel)) (fun _ h9 => h9) rfl dX1_keep_1 ?_
  refine lv_aload_n hx hb dX1_keep_4 rfl (lv_at hl 0 rfl) ?_
  refine va_get (D := (dC, dI)) (ci := 1) (v := .ref r) (C := RX1) (T := TX1) (N := 3) hx hb hts (by decide +kernel) hown hK hP 0 rfl rfl 0 (by decide) (hts (.fieldLink RX1 10 "CharRows" "held" "LCharRows$Ranges;") (by decide +kernel)) (fun _ h9 => h9) rfl dX1_keep_5 ?_
  have hPc := hP.sub (ws' := [(r3, .inr (0, [.ref a3, .ref b3, .int (nI n3)])), (a3, .inl (cI, 768, .inl f3)), (b3, .inl (cI, 768, .inl g3)), (r, .inr (0, [.ref a, .ref b, .int (nI n)])), (a, .inl (cI, 768, .inl f)), (b, .inl (cI, 768, .inl g))]) [4, 5, 6, 1, 2, 3] rfl
  have hDc := hD.sub (ws' := [(r3, .inr (0, [.ref a3, .ref b3, .int (nI n3)])), (a3, .inl (cI, 768, .inl f3)), (b3, .inl (cI, 768, .inl g3)), (r, .inr (0, [.ref a, .ref b, .int (nI n)])), (a, .inl (cI, 768, .inl f)), (b, .inl (cI, 768, .inl g))]) [4, 5, 6, 1, 2, 3] (by decide) rfl
  have hFc := va_free (wc := [(r3, .inr (0, [.ref a3, .ref b3, .int (nI n3)])), (a3, .inl (cI, 768, .inl f3)), (b3, .inl (cI, 768, .inl g3)), (r, .inr (0, [.ref a, .ref b, .int (nI n)])), (a, .inl (cI, 768, .inl f)), (b, .inl (cI, 768, .inl g))]) hD hS hA [4, 5, 6, 1, 2, 3] rfl
  refine va_callv (va_runVN (As := [.ref r]) (rest := []) ⟨hx, hb, hml, hown, hts⟩ (c_become l dC dI _ r a b r3 a3 b3 cI n n3 f g f3 g3 hn) (⟨va_cnB (host := "CharRows") 1 hts gX1_keep_X0_become_n54 rfl rfl rfl (hN _ nw_54) (hts (.initialized RX0) (by decide +kernel)) (by decide +kernel) ⟨Nat.le_of_ble_eq_true rfl, Nat.le_of_ble_eq_true rfl⟩, hts (.instanceMethod yX0_become) (by decide +kernel), hts (.selects RX0 yX0_become yX0_become) (by decide +kernel)⟩) (cr_preV hPc hK hDc (ci := 0) (q0 := 0) rfl rfl) rfl rfl hl.1 rfl (lv_room (Nat.le_of_ble_eq_true rfl)) dX1_keep_8 ⟨Nat.zero_le _, Nat.zero_le _⟩) hS (fun q _ h => hFc q h) hFc (fun u_8 t_8 H_8 locs ht_8 hvm_8 hw_8 hB_8 hz_8 hk_8 hS => ?_)
  subst hw_8
  obtain ⟨hP, hD⟩ := cr_back (wr := [(x, .inr (1, [.ref r, .ref r2, .ref r3]))]) (w1 := [(r3, .inr (0, [.ref a3, .ref b3, .int (nI n)])), (a3, .inl (cI, 768, .inl (va_cpy f f3 0 0 n))), (b3, .inl (cI, 768, .inl (va_cpy g g3 0 0 n))), (r, .inr (0, [.ref a, .ref b, .int (nI n)])), (a, .inl (cI, 768, .inl f)), (b, .inl (cI, 768, .inl g))]) hP hD [4, 5, 6, 1, 2, 3] [0] rfl rfl (by decide) (by decide) hk_8 hFc hB_8 ht_8
  clear hPc hDc hFc
  generalize H_8 = H at hP hS ⊢
  have hP := hP.sub (ws' := [(x, .inr (1, [.ref r, .ref r2, .ref r3])), (r, .inr (0, [.ref a, .ref b, .int (nI n)])), (a, .inl (cI, 768, .inl f)), (b, .inl (cI, 768, .inl g)), (r3, .inr (0, [.ref a3, .ref b3, .int (nI n)])), (a3, .inl (cI, 768, .inl (va_cpy f f3 0 0 n))), (b3, .inl (cI, 768, .inl (va_cpy g g3 0 0 n)))]) [0, 4, 5, 6, 1, 2, 3] rfl
  have hD := hD.sub (ws' := [(x, .inr (1, [.ref r, .ref r2, .ref r3])), (r, .inr (0, [.ref a, .ref b, .int (nI n)])), (a, .inl (cI, 768, .inl f)), (b, .inl (cI, 768, .inl g)), (r3, .inr (0, [.ref a3, .ref b3, .int (nI n)])), (a3, .inl (cI, 768, .inl (va_cpy f f3 0 0 n))), (b3, .inl (cI, 768, .inl (va_cpy g g3 0 0 n)))]) [0, 4, 5, 6, 1, 2, 3] (by decide) rfl
  exact W.vret hx hb hr (fun t9 ht9 hW9 => ⟨⟨[(x, .inr (1, [.ref r, .ref r2, .ref r3])), (r, .inr (0, [.ref a, .ref b, .int (nI n)])), (a, .inl (cI, 768, .inl f)), (b, .inl (cI, 768, .inl g)), (r3, .inr (0, [.ref a3, .ref b3, .int (nI n)])), (a3, .inl (cI, 768, .inl (va_cpy f f3 0 0 n))), (b3, .inl (cI, 768, .inl (va_cpy g g3 0 0 n)))], rfl, rfl, by rw [ht9]; exact hP, va_K.moved hW9.alike hK, hD⟩, hS.F ht9⟩) hS.2.2 dX1_keep_11

set_option maxHeartbeats 4000000 in
set_option maxRecDepth 100000 in
theorem c_join (l : Launch) (dC : Nat → ClassId) (dI : Nat → Nat → Nat) (sz : Nat) (x r r2 r3 a b a3 b3 : Nat) (cI : ClassId) (n n3 : Nat) (f g f3 g3 : Nat → Int32) (S K : Nat → Prop) (hSet : cr_Set n f g S) (hKt : cr_Set n3 f3 g3 K) (P : List Nat) (hB : cr_Bd P S) (hBK : cr_Bd P K) (hPl : P.length ≤ 1400) : Met l yX1_join wsX1_join ({ frames := 5, cells := 0, slots := 0, locals := 180 }) (va_Pc [.ref x] (cr_preN dC dI [(cI, .int)] [(x, .inr (1, [.ref r, .ref r2, .ref r3])), (r, .inr (0, [.ref a, .ref b, .int (nI n)])), (a, .inl (cI, 768, .inl f)), (b, .inl (cI, 768, .inl g)), (r3, .inr (0, [.ref a3, .ref b3, .int (nI n3)])), (a3, .inl (cI, 768, .inl f3)), (b3, .inl (cI, 768, .inl g3))] sz)) (va_Qi (fun (rr : Int32) (u : va_W) => ∃ (n' : Nat) (f' g' : Nat → Int32), rr = nI n' ∧ u = [(x, .inr (1, [.ref r, .ref r2, .ref r3])), (r, .inr (0, [.ref a, .ref b, .int (nI n')])), (a, .inl (cI, 768, .inl f')), (b, .inl (cI, 768, .inl g')), (r3, .inr (0, [.ref a3, .ref b3, .int (nI n3)])), (a3, .inl (cI, 768, .inl f3)), (b3, .inl (cI, 768, .inl g3))] ∧ n' ≤ 768 ∧ cr_Set n' f' g' (fun c => S c ∨ K c)) (cr_at dC dI [(cI, .int)] (va_A [(x, .inr (1, [.ref r, .ref r2, .ref r3])), (r, .inr (0, [.ref a, .ref b, .int (nI n)])), (a, .inl (cI, 768, .inl f)), (b, .inl (cI, 768, .inl g)), (r3, .inr (0, [.ref a3, .ref b3, .int (nI n3)])), (a3, .inl (cI, 768, .inl f3)), (b3, .inl (cI, 768, .inl g3))] sz)) (va_A [(x, .inr (1, [.ref r, .ref r2, .ref r3])), (r, .inr (0, [.ref a, .ref b, .int (nI n)])), (a, .inl (cI, 768, .inl f)), (b, .inl (cI, 768, .inl g)), (r3, .inr (0, [.ref a3, .ref b3, .int (nI n3)])), (a3, .inl (cI, 768, .inl f3)), (b3, .inl (cI, 768, .inl g3))] sz)) 0 0 (va_A [(x, .inr (1, [.ref r, .ref r2, .ref r3])), (r, .inr (0, [.ref a, .ref b, .int (nI n)])), (a, .inl (cI, 768, .inl f)), (b, .inl (cI, 768, .inl g)), (r3, .inr (0, [.ref a3, .ref b3, .int (nI n3)])), (a3, .inl (cI, 768, .inl f3)), (b3, .inl (cI, 768, .inl g3))] sz) := by
  refine Met.ofW (cc := cX1_join) (maxL := 2) (ret := (some .int)) (by decide) rfl ?_
  intro p e s m args below meth c s₁ B hml hv
  obtain ⟨rfl, ⟨hsz, hP, hK, hD0⟩, hN⟩ := hv
  have hx := B.exec
  have hb := B.bytes
  have hr := B.returns
  have hts := atoms_spec (ws := wsX1_join) B.pre
  have hown : s.vm.findClass RX1 = some m.cls := findClass_of_methodNamed B.named
  have hlocks := B.notSynchronized
  subst hsz
  have hD := hD0.self (sz := s.heap.size)
  generalize hAe : va_A [(x, .inr (1, [.ref r, .ref r2, .ref r3])), (r, .inr (0, [.ref a, .ref b, .int (nI n)])), (a, .inl (cI, 768, .inl f)), (b, .inl (cI, 768, .inl g)), (r3, .inr (0, [.ref a3, .ref b3, .int (nI n3)])), (a3, .inl (cI, 768, .inl f3)), (b3, .inl (cI, 768, .inl g3))] s.heap.size = A at hD ⊢
  have hA : ∀ q : Nat, s.heap.size ≤ q → A q := fun q h => by rw [← hAe]; exact Or.inr h
  have hS : va_S A s.heap s.heap [] := va_S.rf
  have hP : va_P (dC, dI) crCl [(x, .inr (1, [.ref r, .ref r2, .ref r3])), (r, .inr (0, [.ref a, .ref b, .int (nI n)])), (a, .inl (cI, 768, .inl f)), (b, .inl (cI, 768, .inl g)), (r3, .inr (0, [.ref a3, .ref b3, .int (nI n3)])), (a3, .inl (cI, 768, .inl f3)), (b3, .inl (cI, 768, .inl g3))] s.heap := hP
  have hl := lv_entry ([.ref x]) (n := 2) (Nat.le_of_ble_eq_true rfl)
  rw [lg_entry_eq]
  generalize (lg_sl ([.ref x]) ++ List.replicate (2 - (lg_sl ([.ref x])).length) Slot.unset).toArray = ls at hl ⊢
  have hl : lv_has ls 2 [(0, .ref x)] := hl
  have hn3 := hKt.count hBK
  obtain ⟨lo, hi, hR, hO, hI⟩ := hKt
  refine lv_iconst (v := nI 0) hx hb dX1_join_0 (by decide) ?_
  refine lv_istore_n (lv' := [(1, .int (nI 0)), (0, .ref x)]) hx hb dX1_join_1 rfl hl (by decide) rfl (fun ls hl => ?_)
  refine cr_lp4 (fun (k : Nat) (n1 : Nat) (f1 : Nat → Int32) (g1 : Nat → Int32) => n3 - k) (fun (k : Nat) (n1 : Nat) (f1 : Nat → Int32) (g1 : Nat → Int32) H locs ls => (k ≤ n3 ∧ cr_Set n1 f1 g1 (fun c => S c ∨ cr_In k lo hi c)) ∧ va_P (dC, dI) crCl [(x, .inr (1, [.ref r, .ref r2, .ref r3])), (r, .inr (0, [.ref a, .ref b, .int (nI n1)])), (a, .inl (cI, 768, .inl f1)), (b, .inl (cI, 768, .inl g1)), (r3, .inr (0, [.ref a3, .ref b3, .int (nI n3)])), (a3, .inl (cI, 768, .inl f3)), (b3, .inl (cI, 768, .inl g3))] H ∧ va_D A [(x, .inr (1, [.ref r, .ref r2, .ref r3])), (r, .inr (0, [.ref a, .ref b, .int (nI n1)])), (a, .inl (cI, 768, .inl f1)), (b, .inl (cI, 768, .inl g1)), (r3, .inr (0, [.ref a3, .ref b3, .int (nI n3)])), (a3, .inl (cI, 768, .inl f3)), (b3, .inl (cI, 768, .inl g3))] ∧ va_S A s.heap H locs ∧ lv_has ls 2 [(0, .ref x), (1, .int (nI k))]) ?_ 0 n f g ⟨⟨Nat.zero_le _, hSet.iff (fun c => cr_In_zero)⟩, hP, hD, hS, lv_sub hl [1, 0] rfl⟩
  intro k n1 f1 g1 H locs ls hI2 ih2
  obtain ⟨⟨h1, h2⟩, hP, hD, hS, hl⟩ := hI2
  have h3 := h2.count (cr_Bd_join hO hI hB hBK h1)
  have h4 : (cr_fm hi k :: P).length = P.length + 1 := rfl
  refine lv_iload_n hx hb dX1_join_2 rfl (lv_at hl 1 rfl) ?_
  refine lv_aload_n hx hb dX1_join_3 rfl (lv_at hl 0 rfl) ?_
  refine va_get (D := (dC, dI)) (ci := 1) (v := .ref r3) (C := RX1) (T := TX1) (N := 3) hx hb hts (by decide +kernel) hown hK hP 0 rfl rfl 2 (by decide) (hts (.fieldLink RX1 19 "CharRows" "kept" "LCharRows$Ranges;") (by decide +kernel)) (fun _ h9 => h9) rfl dX1_join_4 ?_
  refine va_getN (D := (dC, dI)) (ci := 0) (v := .int (nI n3)) (C := RX0) (T := TX0) (N := 3) hx hb hts (by decide +kernel) hown hK hP 4 rfl rfl 2 (by decide) (va_Nw.use rfl (hN _ nw_34)) (fun _ h9 => h9) rfl dX1_join_7 ?_
  refine lv_icmp_ge (tgt := 44) hx hb dX1_join_10 (by decide) (fun c_10 => ?_) (fun c_10 => ?_)
  · rw [nI_leI (by omega) (by omega)] at c_10
    refine lv_aload_n hx hb dX1_join_44 rfl (lv_at hl 0 rfl) ?_
    refine va_get (D := (dC, dI)) (ci := 1) (v := .ref r) (C := RX1) (T := TX1) (N := 3) hx hb hts (by decide +kernel) hown hK hP 0 rfl rfl 0 (by decide) (hts (.fieldLink RX1 10 "CharRows" "held" "LCharRows$Ranges;") (by decide +kernel)) (fun _ h9 => h9) rfl dX1_join_45 ?_
    refine va_getN (D := (dC, dI)) (ci := 0) (v := .int (nI n1)) (C := RX0) (T := TX0) (N := 3) hx hb hts (by decide +kernel) hown hK hP 1 rfl rfl 2 (by decide) (va_Nw.use rfl (hN _ nw_34)) (fun _ h9 => h9) rfl dX1_join_48 ?_
    exact W.iret (v := nI n1) hx hb hr (fun t9 ht9 hW9 => ⟨⟨nI n1, [(x, .inr (1, [.ref r, .ref r2, .ref r3])), (r, .inr (0, [.ref a, .ref b, .int (nI n1)])), (a, .inl (cI, 768, .inl f1)), (b, .inl (cI, 768, .inl g1)), (r3, .inr (0, [.ref a3, .ref b3, .int (nI n3)])), (a3, .inl (cI, 768, .inl f3)), (b3, .inl (cI, 768, .inl g3))], rfl, ⟨n1, f1, g1, rfl, rfl, by omega, h2.iff (fun c => by rw [show k = n3 from (by omega), hI c])⟩, by rw [ht9]; exact hP, va_K.moved hW9.alike hK, hD⟩, hS.F ht9⟩) hS.2.2 dX1_join_51
  · rw [nI_leI (by omega) (by omega)] at c_10
    have hok := hO.1 k (by omega)
    refine lv_aload_n hx hb dX1_join_13 rfl (lv_at hl 0 rfl) ?_
    refine va_get (D := (dC, dI)) (ci := 1) (v := .ref r) (C := RX1) (T := TX1) (N := 3) hx hb hts (by decide +kernel) hown hK hP 0 rfl rfl 0 (by decide) (hts (.fieldLink RX1 10 "CharRows" "held" "LCharRows$Ranges;") (by decide +kernel)) (fun _ h9 => h9) rfl dX1_join_14 ?_
    refine lv_aload_n hx hb dX1_join_17 rfl (lv_at hl 0 rfl) ?_
    refine va_get (D := (dC, dI)) (ci := 1) (v := .ref r3) (C := RX1) (T := TX1) (N := 3) hx hb hts (by decide +kernel) hown hK hP 0 rfl rfl 2 (by decide) (hts (.fieldLink RX1 19 "CharRows" "kept" "LCharRows$Ranges;") (by decide +kernel)) (fun _ h9 => h9) rfl dX1_join_18 ?_
    refine va_getN (D := (dC, dI)) (ci := 0) (v := .ref a3) (C := RX0) (T := TX0) (N := 3) hx hb hts (by decide +kernel) hown hK hP 4 rfl rfl 0 (by decide) (va_Nw.use rfl (hN _ nw_47)) (fun _ h9 => h9) rfl dX1_join_21 ?_
    refine lv_iload_n hx hb dX1_join_24 rfl (lv_at hl 1 rfl) ?_
    refine va_iald hx hb hK hP 5 0 rfl rfl (vp_in_nI (by omega) (by omega)) dX1_join_25 ?_
    refine cr_top (y := nI (lo k)) (by rw [nI_clamp (by omega)]; exact (hR _ (by omega)).1) ?_
    refine lv_aload_n hx hb dX1_join_26 rfl (lv_at hl 0 rfl) ?_
    refine va_get (D := (dC, dI)) (ci := 1) (v := .ref r3) (C := RX1) (T := TX1) (N := 3) hx hb hts (by decide +kernel) hown hK hP 0 rfl rfl 2 (by decide) (hts (.fieldLink RX1 19 "CharRows" "kept" "LCharRows$Ranges;") (by decide +kernel)) (fun _ h9 => h9) rfl dX1_join_27 ?_
    refine va_getN (D := (dC, dI)) (ci := 0) (v := .ref b3) (C := RX0) (T := TX0) (N := 3) hx hb hts (by decide +kernel) hown hK hP 4 rfl rfl 1 (by decide) (va_Nw.use rfl (hN _ nw_51)) (fun _ h9 => h9) rfl dX1_join_30 ?_
    refine lv_iload_n hx hb dX1_join_33 rfl (lv_at hl 1 rfl) ?_
    refine va_iald hx hb hK hP 6 0 rfl rfl (vp_in_nI (by omega) (by omega)) dX1_join_34 ?_
    refine cr_top (y := nI (hi k)) (by rw [nI_clamp (by omega)]; exact (hR _ (by omega)).2) ?_
    have hPc := hP.sub (ws' := [(r, .inr (0, [.ref a, .ref b, .int (nI n1)])), (a, .inl (cI, 768, .inl f1)), (b, .inl (cI, 768, .inl g1))]) [1, 2, 3] rfl
    have hDc := hD.sub (ws' := [(r, .inr (0, [.ref a, .ref b, .int (nI n1)])), (a, .inl (cI, 768, .inl f1)), (b, .inl (cI, 768, .inl g1))]) [1, 2, 3] (by decide) rfl
    have hFc := va_free (wc := [(r, .inr (0, [.ref a, .ref b, .int (nI n1)])), (a, .inl (cI, 768, .inl f1)), (b, .inl (cI, 768, .inl g1))]) hD hS hA [1, 2, 3] rfl
    refine va_callv (va_runVN (As := [.int (nI (lo k)), .int (nI (hi k))]) (rest := []) ⟨hx, hb, hml, hown, hts⟩ (c_put l dC dI _ r a b cI n1 f1 g1 _ h2 (by omega) (nI (lo k)) (nI (hi k)) (by rw [nI_toInt (by omega), nI_toInt (by omega)]; omega)) (⟨va_cnB (host := "CharRows") 2 hts gX1_join_X0_put_n58 rfl rfl rfl (hN _ nw_58) (hts (.initialized RX0) (by decide +kernel)) (by decide +kernel) ⟨Nat.le_of_ble_eq_true rfl, Nat.le_of_ble_eq_true rfl⟩, hts (.instanceMethod yX0_put) (by decide +kernel), hts (.selects RX0 yX0_put yX0_put) (by decide +kernel)⟩) (cr_preV hPc hK hDc (ci := 0) (q0 := 0) rfl rfl) rfl rfl hl.1 rfl (lv_room (Nat.le_of_ble_eq_true rfl)) dX1_join_35 ⟨Nat.zero_le _, Nat.zero_le _⟩) hS (fun q _ h => hFc q h) hFc (fun u_35 t_35 H_35 locs ht_35 hvm_35 hw_35 hB_35 hz_35 hk_35 hS => ?_)
    obtain ⟨n2, f2, g2, rfl, hn2, hSet2⟩ := hw_35
    obtain ⟨hP, hD⟩ := cr_back (wr := [(x, .inr (1, [.ref r, .ref r2, .ref r3])), (r3, .inr (0, [.ref a3, .ref b3, .int (nI n3)])), (a3, .inl (cI, 768, .inl f3)), (b3, .inl (cI, 768, .inl g3))]) (w1 := [(r, .inr (0, [.ref a, .ref b, .int (nI n2)])), (a, .inl (cI, 768, .inl f2)), (b, .inl (cI, 768, .inl g2))]) hP hD [1, 2, 3] [0, 4, 5, 6] rfl rfl (by decide) (by decide) hk_35 hFc hB_35 ht_35
    clear hPc hDc hFc
    generalize H_35 = H at hP hS ⊢
    have hP := hP.sub (ws' := [(x, .inr (1, [.ref r, .ref r2, .ref r3])), (r, .inr (0, [.ref a, .ref b, .int (nI n2)])), (a, .inl (cI, 768, .inl f2)), (b, .inl (cI, 768, .inl g2)), (r3, .inr (0, [.ref a3, .ref b3, .int (nI n3)])), (a3, .inl (cI, 768, .inl f3)), (b3, .inl (cI, 768, .inl g3))]) [0, 4, 5, 6, 1, 2, 3] rfl
    have hD := hD.sub (ws' := [(x, .inr (1, [.ref r, .ref r2, .ref r3])), (r, .inr (0, [.ref a, .ref b, .int (nI n2)])), (a, .inl (cI, 768, .inl f2)), (b, .inl (cI, 768, .inl g2)), (r3, .inr (0, [.ref a3, .ref b3, .int (nI n3)])), (a3, .inl (cI, 768, .inl f3)), (b3, .inl (cI, 768, .inl g3))]) [0, 4, 5, 6, 1, 2, 3] (by decide) rfl
    refine lv_iinc (v := nI (k + 1)) (lv' := [(1, .int (nI (k + 1))), (0, .ref x)]) hx hb dX1_join_38 hl (k := 1) rfl (nI_add k 1) (by decide) rfl (fun ls hl => ?_)
    refine lv_goto (tgt := 2) hx hb dX1_join_41 (by decide) ?_
    exact ih2 (k + 1) n2 f2 g2 _ _ _ ⟨⟨by omega, hSet2.iff (cr_join_step hO (by omega))⟩, hP, hD, hS, lv_sub hl [1, 0] rfl⟩ (by omega)

set_option maxHeartbeats 4000000 in
set_option maxRecDepth 100000 in
theorem c_rows (l : Launch) (dC : Nat → ClassId) (dI : Nat → Nat → Nat) (sz : Nat) (x r r2 r3 a b : Nat) (cI : ClassId) (n : Nat) (f g : Nat → Int32) (lo hi : Nat → Nat) (hR : cr_Rp n lo hi f g) (hO : cr_Ok n lo hi) (hn : n ≤ 768) : Met l yX1_rows wsX1_rows ({ frames := 5, cells := 0, slots := 0, locals := 180 }) (va_Pc [.ref x] (cr_preN dC dI [(cI, .int)] [(x, .inr (1, [.ref r, .ref r2, .ref r3])), (r, .inr (0, [.ref a, .ref b, .int (nI n)])), (a, .inl (cI, 768, .inl f)), (b, .inl (cI, 768, .inl g))] sz)) (va_Qi (fun (rr : Int32) (u : va_W) => u = [(x, .inr (1, [.ref r, .ref r2, .ref r3])), (r, .inr (0, [.ref a, .ref b, .int (nI n)])), (a, .inl (cI, 768, .inl f)), (b, .inl (cI, 768, .inl g))] ∧ rr = nI (cr_tot lo hi n)) (cr_at dC dI [(cI, .int)] (va_A [(x, .inr (1, [.ref r, .ref r2, .ref r3])), (r, .inr (0, [.ref a, .ref b, .int (nI n)])), (a, .inl (cI, 768, .inl f)), (b, .inl (cI, 768, .inl g))] sz)) (va_A [(x, .inr (1, [.ref r, .ref r2, .ref r3])), (r, .inr (0, [.ref a, .ref b, .int (nI n)])), (a, .inl (cI, 768, .inl f)), (b, .inl (cI, 768, .inl g))] sz)) 0 0 (va_A [(x, .inr (1, [.ref r, .ref r2, .ref r3])), (r, .inr (0, [.ref a, .ref b, .int (nI n)])), (a, .inl (cI, 768, .inl f)), (b, .inl (cI, 768, .inl g))] sz) := by
  refine Met.ofW (cc := cX1_rows) (maxL := 3) (ret := (some .int)) (by decide) rfl ?_
  intro p e s m args below meth c s₁ B hml hv
  obtain ⟨rfl, ⟨hsz, hP, hK, hD0⟩, hN⟩ := hv
  have hx := B.exec
  have hb := B.bytes
  have hr := B.returns
  have hts := atoms_spec (ws := wsX1_rows) B.pre
  have hown : s.vm.findClass RX1 = some m.cls := findClass_of_methodNamed B.named
  have hlocks := B.notSynchronized
  subst hsz
  have hD := hD0.self (sz := s.heap.size)
  generalize hAe : va_A [(x, .inr (1, [.ref r, .ref r2, .ref r3])), (r, .inr (0, [.ref a, .ref b, .int (nI n)])), (a, .inl (cI, 768, .inl f)), (b, .inl (cI, 768, .inl g))] s.heap.size = A at hD ⊢
  have hA : ∀ q : Nat, s.heap.size ≤ q → A q := fun q h => by rw [← hAe]; exact Or.inr h
  have hS : va_S A s.heap s.heap [] := va_S.rf
  have hP : va_P (dC, dI) crCl [(x, .inr (1, [.ref r, .ref r2, .ref r3])), (r, .inr (0, [.ref a, .ref b, .int (nI n)])), (a, .inl (cI, 768, .inl f)), (b, .inl (cI, 768, .inl g))] s.heap := hP
  have hl := lv_entry ([.ref x]) (n := 3) (Nat.le_of_ble_eq_true rfl)
  rw [lg_entry_eq]
  generalize (lg_sl ([.ref x]) ++ List.replicate (3 - (lg_sl ([.ref x])).length) Slot.unset).toArray = ls at hl ⊢
  have hl : lv_has ls 3 [(0, .ref x)] := hl
  refine lv_iconst (v := nI 0) hx hb dX1_rows_0 (by decide) ?_
  refine lv_istore_n (lv' := [(1, .int (nI 0)), (0, .ref x)]) hx hb dX1_rows_1 rfl hl (by decide) rfl (fun ls hl => ?_)
  refine lv_iconst (v := nI 0) hx hb dX1_rows_2 (by decide) ?_
  refine lv_istore_n (lv' := [(2, .int (nI 0)), (1, .int (nI 0)), (0, .ref x)]) hx hb dX1_rows_3 rfl hl (by decide) rfl (fun ls hl => ?_)
  refine cr_lp1 (fun (k : Nat) => n - k) (fun (k : Nat) H locs ls => (k ≤ n) ∧ va_P (dC, dI) crCl [(x, .inr (1, [.ref r, .ref r2, .ref r3])), (r, .inr (0, [.ref a, .ref b, .int (nI n)])), (a, .inl (cI, 768, .inl f)), (b, .inl (cI, 768, .inl g))] H ∧ va_D A [(x, .inr (1, [.ref r, .ref r2, .ref r3])), (r, .inr (0, [.ref a, .ref b, .int (nI n)])), (a, .inl (cI, 768, .inl f)), (b, .inl (cI, 768, .inl g))] ∧ va_S A s.heap H locs ∧ lv_has ls 3 [(0, .ref x), (1, .int (nI (cr_tot lo hi k))), (2, .int (nI k))]) ?_ 0 ⟨Nat.zero_le _, hP, hD, hS, lv_sub hl [2, 1, 0] rfl⟩
  intro k H locs ls hI4 ih4
  obtain ⟨h1, hP, hD, hS, hl⟩ := hI4
  refine lv_iload_n hx hb dX1_rows_4 rfl (lv_at hl 2 rfl) ?_
  refine lv_aload_n hx hb dX1_rows_5 rfl (lv_at hl 0 rfl) ?_
  refine va_get (D := (dC, dI)) (ci := 1) (v := .ref r) (C := RX1) (T := TX1) (N := 3) hx hb hts (by decide +kernel) hown hK hP 0 rfl rfl 0 (by decide) (hts (.fieldLink RX1 10 "CharRows" "held" "LCharRows$Ranges;") (by decide +kernel)) (fun _ h9 => h9) rfl dX1_rows_6 ?_
  refine va_getN (D := (dC, dI)) (ci := 0) (v := .int (nI n)) (C := RX0) (T := TX0) (N := 3) hx hb hts (by decide +kernel) hown hK hP 1 rfl rfl 2 (by decide) (va_Nw.use rfl (hN _ nw_34)) (fun _ h9 => h9) rfl dX1_rows_9 ?_
  refine lv_icmp_ge (tgt := 45) hx hb dX1_rows_12 (by decide) (fun c_12 => ?_) (fun c_12 => ?_)
  · rw [nI_leI (by omega) (by omega)] at c_12
    obtain rfl : n = k := by omega
    refine lv_iload_n hx hb dX1_rows_45 rfl (lv_at hl 1 rfl) ?_
    exact W.iret (v := nI (cr_tot lo hi n)) hx hb hr (fun t9 ht9 hW9 => ⟨⟨nI (cr_tot lo hi n), [(x, .inr (1, [.ref r, .ref r2, .ref r3])), (r, .inr (0, [.ref a, .ref b, .int (nI n)])), (a, .inl (cI, 768, .inl f)), (b, .inl (cI, 768, .inl g))], rfl, ⟨rfl, rfl⟩, by rw [ht9]; exact hP, va_K.moved hW9.alike hK, hD⟩, hS.F ht9⟩) hS.2.2 dX1_rows_46
  · rw [nI_leI (by omega) (by omega)] at c_12
    have hok := hO.1 k (by omega)
    refine lv_iload_n hx hb dX1_rows_15 rfl (lv_at hl 1 rfl) ?_
    refine lv_aload_n hx hb dX1_rows_16 rfl (lv_at hl 0 rfl) ?_
    refine va_get (D := (dC, dI)) (ci := 1) (v := .ref r) (C := RX1) (T := TX1) (N := 3) hx hb hts (by decide +kernel) hown hK hP 0 rfl rfl 0 (by decide) (hts (.fieldLink RX1 10 "CharRows" "held" "LCharRows$Ranges;") (by decide +kernel)) (fun _ h9 => h9) rfl dX1_rows_17 ?_
    refine va_getN (D := (dC, dI)) (ci := 0) (v := .ref a) (C := RX0) (T := TX0) (N := 3) hx hb hts (by decide +kernel) hown hK hP 1 rfl rfl 0 (by decide) (va_Nw.use rfl (hN _ nw_47)) (fun _ h9 => h9) rfl dX1_rows_20 ?_
    refine lv_iload_n hx hb dX1_rows_23 rfl (lv_at hl 2 rfl) ?_
    refine va_iald hx hb hK hP 2 0 rfl rfl (vp_in_nI (by omega) (by omega)) dX1_rows_24 ?_
    refine cr_top (y := nI (lo k)) (by rw [nI_clamp (by omega)]; exact (hR _ (by omega)).1) ?_
    refine lv_aload_n hx hb dX1_rows_25 rfl (lv_at hl 0 rfl) ?_
    refine va_get (D := (dC, dI)) (ci := 1) (v := .ref r) (C := RX1) (T := TX1) (N := 3) hx hb hts (by decide +kernel) hown hK hP 0 rfl rfl 0 (by decide) (hts (.fieldLink RX1 10 "CharRows" "held" "LCharRows$Ranges;") (by decide +kernel)) (fun _ h9 => h9) rfl dX1_rows_26 ?_
    refine va_getN (D := (dC, dI)) (ci := 0) (v := .ref b) (C := RX0) (T := TX0) (N := 3) hx hb hts (by decide +kernel) hown hK hP 1 rfl rfl 1 (by decide) (va_Nw.use rfl (hN _ nw_51)) (fun _ h9 => h9) rfl dX1_rows_29 ?_
    refine lv_iload_n hx hb dX1_rows_32 rfl (lv_at hl 2 rfl) ?_
    refine va_iald hx hb hK hP 3 0 rfl rfl (vp_in_nI (by omega) (by omega)) dX1_rows_33 ?_
    refine cr_top (y := nI (hi k)) (by rw [nI_clamp (by omega)]; exact (hR _ (by omega)).2) ?_
    have hPc := hP.sub (ws' := []) [] rfl
    have hDc := hD.sub (ws' := []) [] (by decide) rfl
    have hFc := va_free (wc := []) hD hS hA [] rfl
    refine va_calli (va_runS (As := [.int (nI (lo k)), .int (nI (hi k))]) (rest := [.int (nI (cr_tot lo hi k))]) ⟨hx, hb, hml, hown, hts⟩ (c_countRows l dC dI _ (lo k) (hi k) (by omega) (by omega)) (va_cwS 2 hts gX1_rows_X1_countRows rfl rfl rfl (by decide +kernel) ⟨Nat.le_of_ble_eq_true rfl, Nat.le_of_ble_eq_true rfl⟩) (cr_preS hPc (hK.sub (tys' := []) [] rfl) hDc) rfl rfl hl.1 rfl (lv_room (Nat.le_of_ble_eq_true rfl)) dX1_rows_34 ⟨Nat.zero_le _, Nat.zero_le _⟩) hS (fun q _ h => hFc q h) hFc (fun r_34 u_34 t_34 H_34 locs ht_34 hvm_34 hw_34 hB_34 hz_34 hk_34 hS => ?_)
    obtain ⟨rfl, rfl⟩ := hw_34
    obtain ⟨hP, hD⟩ := cr_back (wr := [(x, .inr (1, [.ref r, .ref r2, .ref r3])), (r, .inr (0, [.ref a, .ref b, .int (nI n)])), (a, .inl (cI, 768, .inl f)), (b, .inl (cI, 768, .inl g))]) (w1 := []) hP hD [] [0, 1, 2, 3] rfl rfl (by decide) (by decide) hk_34 hFc hB_34 ht_34
    clear hPc hDc hFc
    generalize H_34 = H at hP hS ⊢
    have hP := hP.sub (ws' := [(x, .inr (1, [.ref r, .ref r2, .ref r3])), (r, .inr (0, [.ref a, .ref b, .int (nI n)])), (a, .inl (cI, 768, .inl f)), (b, .inl (cI, 768, .inl g))]) [0, 1, 2, 3] rfl
    have hD := hD.sub (ws' := [(x, .inr (1, [.ref r, .ref r2, .ref r3])), (r, .inr (0, [.ref a, .ref b, .int (nI n)])), (a, .inl (cI, 768, .inl f)), (b, .inl (cI, 768, .inl g))]) [0, 1, 2, 3] (by decide) rfl
    refine lv_iadd hx hb dX1_rows_37 ?_
    refine cr_top (y := nI ((cr_tot lo hi k) + (cr_N (lo k) (hi k)))) (nI_add (cr_tot lo hi k) (cr_N (lo k) (hi k))) ?_
    refine lv_istore_n (lv' := [(1, .int (nI ((cr_tot lo hi k) + (cr_N (lo k) (hi k))))), (0, .ref x), (2, .int (nI k))]) hx hb dX1_rows_38 rfl hl (by decide) rfl (fun ls hl => ?_)
    refine lv_iinc (v := nI (k + 1)) (lv' := [(2, .int (nI (k + 1))), (1, .int (nI ((cr_tot lo hi k) + (cr_N (lo k) (hi k))))), (0, .ref x)]) hx hb dX1_rows_39 hl (k := 2) rfl (nI_add k 1) (by decide) rfl (fun ls hl => ?_)
    refine lv_goto (tgt := 4) hx hb dX1_rows_42 (by decide) ?_
    exact ih4 (k + 1) _ _ _ ⟨by omega, hP, hD, hS, lv_sub hl [2, 1, 0] rfl⟩ (by omega)

set_option maxHeartbeats 4000000 in
set_option maxRecDepth 100000 in
theorem c_firstOfRow (l : Launch) (dC : Nat → ClassId) (dI : Nat → Nat → Nat) (sz : Nat) (x r r2 r3 a b : Nat) (cI : ClassId) (n : Nat) (f g : Nat → Int32) (lo hi : Nat → Nat) (hR : cr_Rp n lo hi f g) (hO : cr_Ok n lo hi) (hn : n ≤ 768) (z : Int32) : Met l yX1_firstOfRow wsX1_firstOfRow ({ frames := 5, cells := 0, slots := 0, locals := 180 }) (va_Pc [.ref x, .int z] (cr_preN dC dI [(cI, .int)] [(x, .inr (1, [.ref r, .ref r2, .ref r3])), (r, .inr (0, [.ref a, .ref b, .int (nI n)])), (a, .inl (cI, 768, .inl f)), (b, .inl (cI, 768, .inl g))] sz)) (va_Qi (fun (rr : Int32) (u : va_W) => u = [(x, .inr (1, [.ref r, .ref r2, .ref r3])), (r, .inr (0, [.ref a, .ref b, .int (nI n)])), (a, .inl (cI, 768, .inl f)), (b, .inl (cI, 768, .inl g))] ∧ cr_first_of n lo hi z rr) (cr_at dC dI [(cI, .int)] (va_A [(x, .inr (1, [.ref r, .ref r2, .ref r3])), (r, .inr (0, [.ref a, .ref b, .int (nI n)])), (a, .inl (cI, 768, .inl f)), (b, .inl (cI, 768, .inl g))] sz)) (va_A [(x, .inr (1, [.ref r, .ref r2, .ref r3])), (r, .inr (0, [.ref a, .ref b, .int (nI n)])), (a, .inl (cI, 768, .inl f)), (b, .inl (cI, 768, .inl g))] sz)) 0 0 (va_A [(x, .inr (1, [.ref r, .ref r2, .ref r3])), (r, .inr (0, [.ref a, .ref b, .int (nI n)])), (a, .inl (cI, 768, .inl f)), (b, .inl (cI, 768, .inl g))] sz) := by
  refine Met.ofW (cc := cX1_firstOfRow) (maxL := 5) (ret := (some .int)) (by decide) rfl ?_
  intro p e s m args below meth c s₁ B hml hv
  obtain ⟨rfl, ⟨hsz, hP, hK, hD0⟩, hN⟩ := hv
  have hx := B.exec
  have hb := B.bytes
  have hr := B.returns
  have hts := atoms_spec (ws := wsX1_firstOfRow) B.pre
  have hown : s.vm.findClass RX1 = some m.cls := findClass_of_methodNamed B.named
  have hlocks := B.notSynchronized
  subst hsz
  have hD := hD0.self (sz := s.heap.size)
  generalize hAe : va_A [(x, .inr (1, [.ref r, .ref r2, .ref r3])), (r, .inr (0, [.ref a, .ref b, .int (nI n)])), (a, .inl (cI, 768, .inl f)), (b, .inl (cI, 768, .inl g))] s.heap.size = A at hD ⊢
  have hA : ∀ q : Nat, s.heap.size ≤ q → A q := fun q h => by rw [← hAe]; exact Or.inr h
  have hS : va_S A s.heap s.heap [] := va_S.rf
  have hP : va_P (dC, dI) crCl [(x, .inr (1, [.ref r, .ref r2, .ref r3])), (r, .inr (0, [.ref a, .ref b, .int (nI n)])), (a, .inl (cI, 768, .inl f)), (b, .inl (cI, 768, .inl g))] s.heap := hP
  have hl := lv_entry ([.ref x, .int z]) (n := 5) (Nat.le_of_ble_eq_true rfl)
  rw [lg_entry_eq]
  generalize (lg_sl ([.ref x, .int z]) ++ List.replicate (5 - (lg_sl ([.ref x, .int z])).length) Slot.unset).toArray = ls at hl ⊢
  have hl : lv_has ls 5 [(0, .ref x), (1, .int z)] := hl
  refine lv_iload_n hx hb dX1_firstOfRow_0 rfl (lv_at hl 1 rfl) ?_
  refine lv_if_ge (tgt := 6) hx hb dX1_firstOfRow_1 (by decide) (fun c_1 => ?_) (fun c_1 => ?_)
  · obtain ⟨zz, hzz, rfl⟩ := cr_of (x := z) (by rw [Int32.le_iff_toInt_le, Int32.toInt_zero] at c_1; exact c_1)
    refine lv_iload_n hx hb dX1_firstOfRow_6 rfl (lv_at hl 1 rfl) ?_
    refine lv_istore_n (lv' := [(2, .int (nI zz)), (0, .ref x), (1, .int (nI zz))]) hx hb dX1_firstOfRow_7 rfl hl (by decide) rfl (fun ls hl => ?_)
    refine lv_iconst (v := nI 0) hx hb dX1_firstOfRow_8 (by decide) ?_
    refine lv_istore_n (lv' := [(3, .int (nI 0)), (2, .int (nI zz)), (0, .ref x), (1, .int (nI zz))]) hx hb dX1_firstOfRow_9 rfl hl (by decide) rfl (fun ls hl => ?_)
    refine cr_lp2 (fun (k : Nat) (t : Nat) => n - k) (fun (k : Nat) (t : Nat) H locs ls => (k ≤ n ∧ zz = cr_tot lo hi k + t) ∧ va_P (dC, dI) crCl [(x, .inr (1, [.ref r, .ref r2, .ref r3])), (r, .inr (0, [.ref a, .ref b, .int (nI n)])), (a, .inl (cI, 768, .inl f)), (b, .inl (cI, 768, .inl g))] H ∧ va_D A [(x, .inr (1, [.ref r, .ref r2, .ref r3])), (r, .inr (0, [.ref a, .ref b, .int (nI n)])), (a, .inl (cI, 768, .inl f)), (b, .inl (cI, 768, .inl g))] ∧ va_S A s.heap H locs ∧ lv_has ls 5 [(0, .ref x), (1, .int (nI zz)), (2, .int (nI t)), (3, .int (nI k))]) ?_ 0 zz ⟨⟨Nat.zero_le _, (Nat.zero_add _).symm⟩, hP, hD, hS, lv_sub hl [2, 3, 1, 0] rfl⟩
    intro k t H locs ls hI10 ih10
    obtain ⟨⟨h1, h2⟩, hP, hD, hS, hl⟩ := hI10
    refine lv_iload_n hx hb dX1_firstOfRow_10 rfl (lv_at hl 3 rfl) ?_
    refine lv_aload_n hx hb dX1_firstOfRow_11 rfl (lv_at hl 0 rfl) ?_
    refine va_get (D := (dC, dI)) (ci := 1) (v := .ref r) (C := RX1) (T := TX1) (N := 3) hx hb hts (by decide +kernel) hown hK hP 0 rfl rfl 0 (by decide) (hts (.fieldLink RX1 10 "CharRows" "held" "LCharRows$Ranges;") (by decide +kernel)) (fun _ h9 => h9) rfl dX1_firstOfRow_12 ?_
    refine va_getN (D := (dC, dI)) (ci := 0) (v := .int (nI n)) (C := RX0) (T := TX0) (N := 3) hx hb hts (by decide +kernel) hown hK hP 1 rfl rfl 2 (by decide) (va_Nw.use rfl (hN _ nw_34)) (fun _ h9 => h9) rfl dX1_firstOfRow_15 ?_
    refine lv_icmp_ge (tgt := 84) hx hb dX1_firstOfRow_18 (by decide) (fun c_18 => ?_) (fun c_18 => ?_)
    · rw [nI_leI (by omega) (by omega)] at c_18
      refine lv_iconst (v := (-1)) hx hb dX1_firstOfRow_84 (by decide) ?_
      exact W.iret (v := (-1)) hx hb hr (fun t9 ht9 hW9 => ⟨⟨(-1), [(x, .inr (1, [.ref r, .ref r2, .ref r3])), (r, .inr (0, [.ref a, .ref b, .int (nI n)])), (a, .inl (cI, 768, .inl f)), (b, .inl (cI, 768, .inl g))], rfl, ⟨rfl, Or.inr ⟨zz, hzz, rfl, Or.inl ⟨by rw [← show k = n from (by omega)]; omega, rfl⟩⟩⟩, by rw [ht9]; exact hP, va_K.moved hW9.alike hK, hD⟩, hS.F ht9⟩) hS.2.2 dX1_firstOfRow_85
    · rw [nI_leI (by omega) (by omega)] at c_18
      have hok := hO.1 k (by omega)
      have hNle := cr_N_le (lo k) (hi k)
      refine lv_aload_n hx hb dX1_firstOfRow_21 rfl (lv_at hl 0 rfl) ?_
      refine va_get (D := (dC, dI)) (ci := 1) (v := .ref r) (C := RX1) (T := TX1) (N := 3) hx hb hts (by decide +kernel) hown hK hP 0 rfl rfl 0 (by decide) (hts (.fieldLink RX1 10 "CharRows" "held" "LCharRows$Ranges;") (by decide +kernel)) (fun _ h9 => h9) rfl dX1_firstOfRow_22 ?_
      refine va_getN (D := (dC, dI)) (ci := 0) (v := .ref a) (C := RX0) (T := TX0) (N := 3) hx hb hts (by decide +kernel) hown hK hP 1 rfl rfl 0 (by decide) (va_Nw.use rfl (hN _ nw_47)) (fun _ h9 => h9) rfl dX1_firstOfRow_25 ?_
      refine lv_iload_n hx hb dX1_firstOfRow_28 rfl (lv_at hl 3 rfl) ?_
      refine va_iald hx hb hK hP 2 0 rfl rfl (vp_in_nI (by omega) (by omega)) dX1_firstOfRow_29 ?_
      refine cr_top (y := nI (lo k)) (by rw [nI_clamp (by omega)]; exact (hR _ (by omega)).1) ?_
      refine lv_aload_n hx hb dX1_firstOfRow_30 rfl (lv_at hl 0 rfl) ?_
      refine va_get (D := (dC, dI)) (ci := 1) (v := .ref r) (C := RX1) (T := TX1) (N := 3) hx hb hts (by decide +kernel) hown hK hP 0 rfl rfl 0 (by decide) (hts (.fieldLink RX1 10 "CharRows" "held" "LCharRows$Ranges;") (by decide +kernel)) (fun _ h9 => h9) rfl dX1_firstOfRow_31 ?_
      refine va_getN (D := (dC, dI)) (ci := 0) (v := .ref b) (C := RX0) (T := TX0) (N := 3) hx hb hts (by decide +kernel) hown hK hP 1 rfl rfl 1 (by decide) (va_Nw.use rfl (hN _ nw_51)) (fun _ h9 => h9) rfl dX1_firstOfRow_34 ?_
      refine lv_iload_n hx hb dX1_firstOfRow_37 rfl (lv_at hl 3 rfl) ?_
      refine va_iald hx hb hK hP 3 0 rfl rfl (vp_in_nI (by omega) (by omega)) dX1_firstOfRow_38 ?_
      refine cr_top (y := nI (hi k)) (by rw [nI_clamp (by omega)]; exact (hR _ (by omega)).2) ?_
      have hPc := hP.sub (ws' := []) [] rfl
      have hDc := hD.sub (ws' := []) [] (by decide) rfl
      have hFc := va_free (wc := []) hD hS hA [] rfl
      refine va_calli (va_runS (As := [.int (nI (lo k)), .int (nI (hi k))]) (rest := []) ⟨hx, hb, hml, hown, hts⟩ (c_countRows l dC dI _ (lo k) (hi k) (by omega) (by omega)) (va_cwS 2 hts gX1_firstOfRow_X1_countRows rfl rfl rfl (by decide +kernel) ⟨Nat.le_of_ble_eq_true rfl, Nat.le_of_ble_eq_true rfl⟩) (cr_preS hPc (hK.sub (tys' := []) [] rfl) hDc) rfl rfl hl.1 rfl (lv_room (Nat.le_of_ble_eq_true rfl)) dX1_firstOfRow_39 ⟨Nat.zero_le _, Nat.zero_le _⟩) hS (fun q _ h => hFc q h) hFc (fun r_39 u_39 t_39 H_39 locs ht_39 hvm_39 hw_39 hB_39 hz_39 hk_39 hS => ?_)
      obtain ⟨rfl, rfl⟩ := hw_39
      obtain ⟨hP, hD⟩ := cr_back (wr := [(x, .inr (1, [.ref r, .ref r2, .ref r3])), (r, .inr (0, [.ref a, .ref b, .int (nI n)])), (a, .inl (cI, 768, .inl f)), (b, .inl (cI, 768, .inl g))]) (w1 := []) hP hD [] [0, 1, 2, 3] rfl rfl (by decide) (by decide) hk_39 hFc hB_39 ht_39
      clear hPc hDc hFc
      generalize H_39 = H at hP hS ⊢
      have hP := hP.sub (ws' := [(x, .inr (1, [.ref r, .ref r2, .ref r3])), (r, .inr (0, [.ref a, .ref b, .int (nI n)])), (a, .inl (cI, 768, .inl f)), (b, .inl (cI, 768, .inl g))]) [0, 1, 2, 3] rfl
      have hD := hD.sub (ws' := [(x, .inr (1, [.ref r, .ref r2, .ref r3])), (r, .inr (0, [.ref a, .ref b, .int (nI n)])), (a, .inl (cI, 768, .inl f)), (b, .inl (cI, 768, .inl g))]) [0, 1, 2, 3] (by decide) rfl
      refine lv_istore (lv' := [(4, .int (nI (cr_N (lo k) (hi k)))), (0, .ref x), (1, .int (nI zz)), (2, .int (nI t)), (3, .int (nI k))]) hx hb dX1_firstOfRow_42 hl (by decide) rfl (fun ls hl => ?_)
      refine lv_iload_n hx hb dX1_firstOfRow_44 rfl (lv_at hl 3 rfl) ?_
      refine lv_iload hx hb dX1_firstOfRow_45 (lv_at hl 0 rfl) ?_
      refine lv_icmp_ge (tgt := 73) hx hb dX1_firstOfRow_47 (by decide) (fun c_47 => ?_) (fun c_47 => ?_)
      · rw [nI_leI (by omega) (by omega)] at c_47
        refine lv_iload_n hx hb dX1_firstOfRow_73 rfl (lv_at hl 3 rfl) ?_
        refine lv_iload hx hb dX1_firstOfRow_74 (lv_at hl 0 rfl) ?_
        refine lv_isub hx hb dX1_firstOfRow_76 ?_
        refine cr_top (y := nI (t - (cr_N (lo k) (hi k)))) (pk_sub (by omega)) ?_
        refine lv_istore_n (lv' := [(2, .int (nI (t - (cr_N (lo k) (hi k))))), (4, .int (nI (cr_N (lo k) (hi k)))), (0, .ref x), (1, .int (nI zz)), (3, .int (nI k))]) hx hb dX1_firstOfRow_77 rfl hl (by decide) rfl (fun ls hl => ?_)
        refine lv_iinc (v := nI (k + 1)) (lv' := [(3, .int (nI (k + 1))), (2, .int (nI (t - (cr_N (lo k) (hi k))))), (4, .int (nI (cr_N (lo k) (hi k)))), (0, .ref x), (1, .int (nI zz))]) hx hb dX1_firstOfRow_78 hl (k := 4) rfl (nI_add k 1) (by decide) rfl (fun ls hl => ?_)
        refine lv_goto (tgt := 10) hx hb dX1_firstOfRow_81 (by decide) ?_
        exact ih10 (k + 1) (t - cr_N (lo k) (hi k)) _ _ _ ⟨⟨by omega, by rw [show cr_tot lo hi (k + 1) = cr_tot lo hi k + cr_N (lo k) (hi k) from rfl]; omega⟩, hP, hD, hS, lv_sub hl [3, 4, 1, 0] rfl⟩ (by omega)
      · rw [nI_leI (by omega) (by omega)] at c_47
        refine lv_aload_n hx hb dX1_firstOfRow_50 rfl (lv_at hl 1 rfl) ?_
        refine va_get (D := (dC, dI)) (ci := 1) (v := .ref r) (C := RX1) (T := TX1) (N := 3) hx hb hts (by decide +kernel) hown hK hP 0 rfl rfl 0 (by decide) (hts (.fieldLink RX1 10 "CharRows" "held" "LCharRows$Ranges;") (by decide +kernel)) (fun _ h9 => h9) rfl dX1_firstOfRow_51 ?_
        refine va_getN (D := (dC, dI)) (ci := 0) (v := .ref a) (C := RX0) (T := TX0) (N := 3) hx hb hts (by decide +kernel) hown hK hP 1 rfl rfl 0 (by decide) (va_Nw.use rfl (hN _ nw_47)) (fun _ h9 => h9) rfl dX1_firstOfRow_54 ?_
        refine lv_iload_n hx hb dX1_firstOfRow_57 rfl (lv_at hl 4 rfl) ?_
        refine va_iald hx hb hK hP 2 0 rfl rfl (vp_in_nI (by omega) (by omega)) dX1_firstOfRow_58 ?_
        refine cr_top (y := nI (lo k)) (by rw [nI_clamp (by omega)]; exact (hR _ (by omega)).1) ?_
        refine lv_aload_n hx hb dX1_firstOfRow_59 rfl (lv_at hl 1 rfl) ?_
        refine va_get (D := (dC, dI)) (ci := 1) (v := .ref r) (C := RX1) (T := TX1) (N := 3) hx hb hts (by decide +kernel) hown hK hP 0 rfl rfl 0 (by decide) (hts (.fieldLink RX1 10 "CharRows" "held" "LCharRows$Ranges;") (by decide +kernel)) (fun _ h9 => h9) rfl dX1_firstOfRow_60 ?_
        refine va_getN (D := (dC, dI)) (ci := 0) (v := .ref b) (C := RX0) (T := TX0) (N := 3) hx hb hts (by decide +kernel) hown hK hP 1 rfl rfl 1 (by decide) (va_Nw.use rfl (hN _ nw_51)) (fun _ h9 => h9) rfl dX1_firstOfRow_63 ?_
        refine lv_iload_n hx hb dX1_firstOfRow_66 rfl (lv_at hl 4 rfl) ?_
        refine va_iald hx hb hK hP 3 0 rfl rfl (vp_in_nI (by omega) (by omega)) dX1_firstOfRow_67 ?_
        refine cr_top (y := nI (hi k)) (by rw [nI_clamp (by omega)]; exact (hR _ (by omega)).2) ?_
        refine lv_iload_n hx hb dX1_firstOfRow_68 rfl (lv_at hl 3 rfl) ?_
        have hPc := hP.sub (ws' := []) [] rfl
        have hDc := hD.sub (ws' := []) [] (by decide) rfl
        have hFc := va_free (wc := []) hD hS hA [] rfl
        refine va_calli (va_runS (As := [.int (nI (lo k)), .int (nI (hi k)), .int (nI t)]) (rest := []) ⟨hx, hb, hml, hown, hts⟩ (c_skipRows l dC dI _ (lo k) (hi k) t (by omega) (by omega) (by omega) (by omega)) (va_cwS 3 hts gX1_firstOfRow_X1_skipRows rfl rfl rfl (by decide +kernel) ⟨Nat.le_of_ble_eq_true rfl, Nat.le_of_ble_eq_true rfl⟩) (cr_preS hPc (hK.sub (tys' := []) [] rfl) hDc) rfl rfl hl.1 rfl (lv_room (Nat.le_of_ble_eq_true rfl)) dX1_firstOfRow_69 ⟨Nat.zero_le _, Nat.zero_le _⟩) hS (fun q _ h => hFc q h) hFc (fun r_69 u_69 t_69 H_69 locs ht_69 hvm_69 hw_69 hB_69 hz_69 hk_69 hS => ?_)
        obtain ⟨rfl, rfl⟩ := hw_69
        obtain ⟨hP, hD⟩ := cr_back (wr := [(x, .inr (1, [.ref r, .ref r2, .ref r3])), (r, .inr (0, [.ref a, .ref b, .int (nI n)])), (a, .inl (cI, 768, .inl f)), (b, .inl (cI, 768, .inl g))]) (w1 := []) hP hD [] [0, 1, 2, 3] rfl rfl (by decide) (by decide) hk_69 hFc hB_69 ht_69
        clear hPc hDc hFc
        generalize H_69 = H at hP hS ⊢
        have hP := hP.sub (ws' := [(x, .inr (1, [.ref r, .ref r2, .ref r3])), (r, .inr (0, [.ref a, .ref b, .int (nI n)])), (a, .inl (cI, 768, .inl f)), (b, .inl (cI, 768, .inl g))]) [0, 1, 2, 3] rfl
        have hD := hD.sub (ws' := [(x, .inr (1, [.ref r, .ref r2, .ref r3])), (r, .inr (0, [.ref a, .ref b, .int (nI n)])), (a, .inl (cI, 768, .inl f)), (b, .inl (cI, 768, .inl g))]) [0, 1, 2, 3] (by decide) rfl
        exact W.iret (v := nI (cr_go t (lo k) (hi k))) hx hb hr (fun t9 ht9 hW9 => ⟨⟨nI (cr_go t (lo k) (hi k)), [(x, .inr (1, [.ref r, .ref r2, .ref r3])), (r, .inr (0, [.ref a, .ref b, .int (nI n)])), (a, .inl (cI, 768, .inl f)), (b, .inl (cI, 768, .inl g))], rfl, ⟨rfl, Or.inr ⟨zz, hzz, rfl, Or.inr ⟨k, t, by omega, by omega, h2, rfl⟩⟩⟩, by rw [ht9]; exact hP, va_K.moved hW9.alike hK, hD⟩, hS.F ht9⟩) hS.2.2 dX1_firstOfRow_72
  · refine lv_iconst (v := (-1)) hx hb dX1_firstOfRow_4 (by decide) ?_
    exact W.iret (v := (-1)) hx hb hr (fun t9 ht9 hW9 => ⟨⟨(-1), [(x, .inr (1, [.ref r, .ref r2, .ref r3])), (r, .inr (0, [.ref a, .ref b, .int (nI n)])), (a, .inl (cI, 768, .inl f)), (b, .inl (cI, 768, .inl g))], rfl, ⟨rfl, Or.inl ⟨(by rw [cr_lt0]; rw [Int32.le_iff_toInt_le, Int32.toInt_zero] at c_1; omega), rfl⟩⟩, by rw [ht9]; exact hP, va_K.moved hW9.alike hK, hD⟩, hS.F ht9⟩) hS.2.2 dX1_firstOfRow_5

set_option maxHeartbeats 4000000 in
set_option maxRecDepth 100000 in
theorem c_turn (l : Launch) (dC : Nat → ClassId) (dI : Nat → Nat → Nat) (sz : Nat) (x r r2 r3 a b a2 b2 : Nat) (cI : ClassId) (n : Nat) (s2 : Int32) (f g f2 g2 : Nat → Int32) (S : Nat → Prop) (hSet : cr_Set n f g S) (P : List Nat) (hB : cr_Bd P S) (hbase : ∀ c, c ∈ cr_base → c ∈ P) (hPl : P.length ≤ 1400) : Met l yX1_turn wsX1_turn ({ frames := 6, cells := 0, slots := 0, locals := 220 }) (va_Pc [.ref x] (cr_preN dC dI [(cI, .int)] [(x, .inr (1, [.ref r, .ref r2, .ref r3])), (r, .inr (0, [.ref a, .ref b, .int (nI n)])), (a, .inl (cI, 768, .inl f)), (b, .inl (cI, 768, .inl g)), (r2, .inr (0, [.ref a2, .ref b2, .int s2])), (a2, .inl (cI, 768, .inl f2)), (b2, .inl (cI, 768, .inl g2))] sz)) (va_Qi (fun (rr : Int32) (u : va_W) => ∃ (n' : Nat) (f' g' : Nat → Int32), rr = nI n' ∧ u = [(x, .inr (1, [.ref r2, .ref r, .ref r3])), (r, .inr (0, [.ref a, .ref b, .int (nI n)])), (a, .inl (cI, 768, .inl f)), (b, .inl (cI, 768, .inl g)), (r2, .inr (0, [.ref a2, .ref b2, .int (nI n')])), (a2, .inl (cI, 768, .inl f')), (b2, .inl (cI, 768, .inl g'))] ∧ n' ≤ 768 ∧ cr_Set n' f' g' (fun c => cr_ch c ∧ ¬ S c)) (cr_at dC dI [(cI, .int)] (va_A [(x, .inr (1, [.ref r, .ref r2, .ref r3])), (r, .inr (0, [.ref a, .ref b, .int (nI n)])), (a, .inl (cI, 768, .inl f)), (b, .inl (cI, 768, .inl g)), (r2, .inr (0, [.ref a2, .ref b2, .int s2])), (a2, .inl (cI, 768, .inl f2)), (b2, .inl (cI, 768, .inl g2))] sz)) (va_A [(x, .inr (1, [.ref r, .ref r2, .ref r3])), (r, .inr (0, [.ref a, .ref b, .int (nI n)])), (a, .inl (cI, 768, .inl f)), (b, .inl (cI, 768, .inl g)), (r2, .inr (0, [.ref a2, .ref b2, .int s2])), (a2, .inl (cI, 768, .inl f2)), (b2, .inl (cI, 768, .inl g2))] sz)) 0 0 (va_A [(x, .inr (1, [.ref r, .ref r2, .ref r3])), (r, .inr (0, [.ref a, .ref b, .int (nI n)])), (a, .inl (cI, 768, .inl f)), (b, .inl (cI, 768, .inl g)), (r2, .inr (0, [.ref a2, .ref b2, .int s2])), (a2, .inl (cI, 768, .inl f2)), (b2, .inl (cI, 768, .inl g2))] sz) := by
  refine Met.ofW (cc := cX1_turn) (maxL := 5) (ret := (some .int)) (by decide) rfl ?_
  intro p e s m args below meth c s₁ B hml hv
  obtain ⟨rfl, ⟨hsz, hP, hK, hD0⟩, hN⟩ := hv
  have hx := B.exec
  have hb := B.bytes
  have hr := B.returns
  have hts := atoms_spec (ws := wsX1_turn) B.pre
  have hown : s.vm.findClass RX1 = some m.cls := findClass_of_methodNamed B.named
  have hlocks := B.notSynchronized
  subst hsz
  have hD := hD0.self (sz := s.heap.size)
  generalize hAe : va_A [(x, .inr (1, [.ref r, .ref r2, .ref r3])), (r, .inr (0, [.ref a, .ref b, .int (nI n)])), (a, .inl (cI, 768, .inl f)), (b, .inl (cI, 768, .inl g)), (r2, .inr (0, [.ref a2, .ref b2, .int s2])), (a2, .inl (cI, 768, .inl f2)), (b2, .inl (cI, 768, .inl g2))] s.heap.size = A at hD ⊢
  have hA : ∀ q : Nat, s.heap.size ≤ q → A q := fun q h => by rw [← hAe]; exact Or.inr h
  have hS : va_S A s.heap s.heap [] := va_S.rf
  have hP : va_P (dC, dI) crCl [(x, .inr (1, [.ref r, .ref r2, .ref r3])), (r, .inr (0, [.ref a, .ref b, .int (nI n)])), (a, .inl (cI, 768, .inl f)), (b, .inl (cI, 768, .inl g)), (r2, .inr (0, [.ref a2, .ref b2, .int s2])), (a2, .inl (cI, 768, .inl f2)), (b2, .inl (cI, 768, .inl g2))] s.heap := hP
  have hl := lv_entry ([.ref x]) (n := 5) (Nat.le_of_ble_eq_true rfl)
  rw [lg_entry_eq]
  generalize (lg_sl ([.ref x]) ++ List.replicate (5 - (lg_sl ([.ref x])).length) Slot.unset).toArray = ls at hl ⊢
  have hl : lv_has ls 5 [(0, .ref x)] := hl
  have hn := hSet.count hB
  obtain ⟨lo, hi, hR, hO, hI⟩ := hSet
  refine lv_aload_n hx hb dX1_turn_0 rfl (lv_at hl 0 rfl) ?_
  refine va_get (D := (dC, dI)) (ci := 1) (v := .ref r) (C := RX1) (T := TX1) (N := 3) hx hb hts (by decide +kernel) hown hK hP 0 rfl rfl 0 (by decide) (hts (.fieldLink RX1 10 "CharRows" "held" "LCharRows$Ranges;") (by decide +kernel)) (fun _ h9 => h9) rfl dX1_turn_1 ?_
  refine lv_astore_n (lv' := [(1, .ref r), (0, .ref x)]) hx hb dX1_turn_4 rfl hl (by decide) rfl (fun ls hl => ?_)
  refine lv_aload_n hx hb dX1_turn_5 rfl (lv_at hl 1 rfl) ?_
  refine va_get (D := (dC, dI)) (ci := 1) (v := .ref r2) (C := RX1) (T := TX1) (N := 3) hx hb hts (by decide +kernel) hown hK hP 0 rfl rfl 1 (by decide) (hts (.fieldLink RX1 16 "CharRows" "spare" "LCharRows$Ranges;") (by decide +kernel)) (fun _ h9 => h9) rfl dX1_turn_6 ?_
  refine lv_astore_n (lv' := [(2, .ref r2), (1, .ref r), (0, .ref x)]) hx hb dX1_turn_9 rfl hl (by decide) rfl (fun ls hl => ?_)
  refine lv_aload_n hx hb dX1_turn_10 rfl (lv_at hl 0 rfl) ?_
  have hPc := hP.sub (ws' := [(r2, .inr (0, [.ref a2, .ref b2, .int s2])), (a2, .inl (cI, 768, .inl f2)), (b2, .inl (cI, 768, .inl g2))]) [4, 5, 6] rfl
  have hDc := hD.sub (ws' := [(r2, .inr (0, [.ref a2, .ref b2, .int s2])), (a2, .inl (cI, 768, .inl f2)), (b2, .inl (cI, 768, .inl g2))]) [4, 5, 6] (by decide) rfl
  have hFc := va_free (wc := [(r2, .inr (0, [.ref a2, .ref b2, .int s2])), (a2, .inl (cI, 768, .inl f2)), (b2, .inl (cI, 768, .inl g2))]) hD hS hA [4, 5, 6] rfl
  refine va_callv (va_runVN (As := []) (rest := []) ⟨hx, hb, hml, hown, hts⟩ (c_empty l dC dI _ r2 a2 b2 cI s2 f2 g2) (⟨va_cnB (host := "CharRows") 0 hts gX1_turn_X0_empty_n38 rfl rfl rfl (hN _ nw_38) (hts (.initialized RX0) (by decide +kernel)) (by decide +kernel) ⟨Nat.le_of_ble_eq_true rfl, Nat.le_of_ble_eq_true rfl⟩, hts (.instanceMethod yX0_empty) (by decide +kernel), hts (.selects RX0 yX0_empty yX0_empty) (by decide +kernel)⟩) (cr_preV hPc hK hDc (ci := 0) (q0 := 0) rfl rfl) rfl rfl hl.1 rfl (lv_room (Nat.le_of_ble_eq_true rfl)) dX1_turn_11 ⟨Nat.zero_le _, Nat.zero_le _⟩) hS (fun q _ h => hFc q h) hFc (fun u_11 t_11 H_11 locs ht_11 hvm_11 hw_11 hB_11 hz_11 hk_11 hS => ?_)
  subst hw_11
  obtain ⟨hP, hD⟩ := cr_back (wr := [(x, .inr (1, [.ref r, .ref r2, .ref r3])), (r, .inr (0, [.ref a, .ref b, .int (nI n)])), (a, .inl (cI, 768, .inl f)), (b, .inl (cI, 768, .inl g))]) (w1 := [(r2, .inr (0, [.ref a2, .ref b2, .int (nI 0)])), (a2, .inl (cI, 768, .inl f2)), (b2, .inl (cI, 768, .inl g2))]) hP hD [4, 5, 6] [0, 1, 2, 3] rfl rfl (by decide) (by decide) hk_11 hFc hB_11 ht_11
  clear hPc hDc hFc
  generalize H_11 = H at hP hS ⊢
  have hP := hP.sub (ws' := [(x, .inr (1, [.ref r, .ref r2, .ref r3])), (r, .inr (0, [.ref a, .ref b, .int (nI n)])), (a, .inl (cI, 768, .inl f)), (b, .inl (cI, 768, .inl g)), (r2, .inr (0, [.ref a2, .ref b2, .int (nI 0)])), (a2, .inl (cI, 768, .inl f2)), (b2, .inl (cI, 768, .inl g2))]) [0, 1, 2, 3, 4, 5, 6] rfl
  have hD := hD.sub (ws' := [(x, .inr (1, [.ref r, .ref r2, .ref r3])), (r, .inr (0, [.ref a, .ref b, .int (nI n)])), (a, .inl (cI, 768, .inl f)), (b, .inl (cI, 768, .inl g)), (r2, .inr (0, [.ref a2, .ref b2, .int (nI 0)])), (a2, .inl (cI, 768, .inl f2)), (b2, .inl (cI, 768, .inl g2))]) [0, 1, 2, 3, 4, 5, 6] (by decide) rfl
  refine lv_iconst (v := nI 0) hx hb dX1_turn_14 (by decide) ?_
  refine lv_istore_n (lv' := [(3, .int (nI 0)), (2, .ref r2), (1, .ref r), (0, .ref x)]) hx hb dX1_turn_15 rfl hl (by decide) rfl (fun ls hl => ?_)
  refine lv_iconst (v := nI 0) hx hb dX1_turn_16 (by decide) ?_
  refine lv_istore (lv' := [(4, .int (nI 0)), (3, .int (nI 0)), (2, .ref r2), (1, .ref r), (0, .ref x)]) hx hb dX1_turn_17 hl (by decide) rfl (fun ls hl => ?_)
  refine cr_lp4 (fun (k : Nat) (n1 : Nat) (f1 : Nat → Int32) (g1 : Nat → Int32) => n - k) (fun (k : Nat) (n1 : Nat) (f1 : Nat → Int32) (g1 : Nat → Int32) H locs ls => (k ≤ n ∧ cr_Set n1 f1 g1 (cr_Tn S (cr_fm hi k))) ∧ va_P (dC, dI) crCl [(x, .inr (1, [.ref r, .ref r2, .ref r3])), (r, .inr (0, [.ref a, .ref b, .int (nI n)])), (a, .inl (cI, 768, .inl f)), (b, .inl (cI, 768, .inl g)), (r2, .inr (0, [.ref a2, .ref b2, .int (nI n1)])), (a2, .inl (cI, 768, .inl f1)), (b2, .inl (cI, 768, .inl g1))] H ∧ va_D A [(x, .inr (1, [.ref r, .ref r2, .ref r3])), (r, .inr (0, [.ref a, .ref b, .int (nI n)])), (a, .inl (cI, 768, .inl f)), (b, .inl (cI, 768, .inl g)), (r2, .inr (0, [.ref a2, .ref b2, .int (nI n1)])), (a2, .inl (cI, 768, .inl f1)), (b2, .inl (cI, 768, .inl g1))] ∧ va_S A s.heap H locs ∧ lv_has ls 5 [(0, .ref x), (1, .ref r), (2, .ref r2), (3, .int (nI (cr_fm hi k))), (4, .int (nI k))]) ?_ 0 0 f2 g2 ⟨⟨Nat.zero_le _, cr_Set.zero.iff (fun c => ⟨fun h => h.elim, fun h => absurd h.2 (Nat.not_lt_zero c)⟩)⟩, hP, hD, hS, lv_sub hl [4, 3, 2, 1, 0] rfl⟩
  intro k n1 f1 g1 H locs ls hI19 ih19
  obtain ⟨⟨h1, h2⟩, hP, hD, hS, hl⟩ := hI19
  have h3 := h2.count (cr_Bd_turn hB hbase (cr_fm hi k))
  have h4 : (cr_fm hi k :: P).length = P.length + 1 := rfl
  have h5 : cr_fm hi k ≤ 1114112 := cr_fm_le hO h1
  refine lv_iload hx hb dX1_turn_19 (lv_at hl 4 rfl) ?_
  refine lv_aload_n hx hb dX1_turn_21 rfl (lv_at hl 1 rfl) ?_
  refine va_getN (D := (dC, dI)) (ci := 0) (v := .int (nI n)) (C := RX0) (T := TX0) (N := 3) hx hb hts (by decide +kernel) hown hK hP 1 rfl rfl 2 (by decide) (va_Nw.use rfl (hN _ nw_34)) (fun _ h9 => h9) rfl dX1_turn_22 ?_
  refine lv_icmp_ge (tgt := 58) hx hb dX1_turn_25 (by decide) (fun c_25 => ?_) (fun c_25 => ?_)
  · rw [nI_leI (by omega) (by omega)] at c_25
    have hkn : k = n := by omega
    rw [hkn] at h2 hl
    refine lv_aload_n hx hb dX1_turn_58 rfl (lv_at hl 2 rfl) ?_
    refine lv_iload_n hx hb dX1_turn_59 rfl (lv_at hl 3 rfl) ?_
    refine lv_ldc (v := nI 1114111) hx hb hown (hts (.constant RX1 22 (nI 1114111)) (by decide +kernel)) dX1_turn_60 ?_
    have hPc := hP.sub (ws' := [(r2, .inr (0, [.ref a2, .ref b2, .int (nI n1)])), (a2, .inl (cI, 768, .inl f1)), (b2, .inl (cI, 768, .inl g1))]) [4, 5, 6] rfl
    have hDc := hD.sub (ws' := [(r2, .inr (0, [.ref a2, .ref b2, .int (nI n1)])), (a2, .inl (cI, 768, .inl f1)), (b2, .inl (cI, 768, .inl g1))]) [4, 5, 6] (by decide) rfl
    have hFc := va_free (wc := [(r2, .inr (0, [.ref a2, .ref b2, .int (nI n1)])), (a2, .inl (cI, 768, .inl f1)), (b2, .inl (cI, 768, .inl g1))]) hD hS hA [4, 5, 6] rfl
    refine va_callv (va_runS (As := [.ref r2, .int (nI (cr_fm hi n)), .int (nI 1114111)]) (rest := []) ⟨hx, hb, hml, hown, hts⟩ (c_putCharacters l dC dI _ r2 a2 b2 cI n1 f1 g1 _ h2 (by omega) (cr_fm hi n) (nI 1114111) (cr_fm_le hO (Nat.le_refl n)) (by decide)) (va_cwS 3 hts gX1_turn_X1_putCharacters rfl rfl rfl (by decide +kernel) ⟨Nat.le_of_ble_eq_true rfl, Nat.le_of_ble_eq_true rfl⟩) (cr_preSN hN hPc hK hDc) rfl rfl hl.1 rfl (lv_room (Nat.le_of_ble_eq_true rfl)) dX1_turn_62 ⟨Nat.zero_le _, Nat.zero_le _⟩) hS (fun q _ h => hFc q h) hFc (fun u_62 t_62 H_62 locs ht_62 hvm_62 hw_62 hB_62 hz_62 hk_62 hS => ?_)
    obtain ⟨n3, f3, g3, rfl, hn3, hSet3⟩ := hw_62
    obtain ⟨hP, hD⟩ := cr_back (wr := [(x, .inr (1, [.ref r, .ref r2, .ref r3])), (r, .inr (0, [.ref a, .ref b, .int (nI n)])), (a, .inl (cI, 768, .inl f)), (b, .inl (cI, 768, .inl g))]) (w1 := [(r2, .inr (0, [.ref a2, .ref b2, .int (nI n3)])), (a2, .inl (cI, 768, .inl f3)), (b2, .inl (cI, 768, .inl g3))]) hP hD [4, 5, 6] [0, 1, 2, 3] rfl rfl (by decide) (by decide) hk_62 hFc hB_62 ht_62
    clear hPc hDc hFc
    generalize H_62 = H at hP hS ⊢
    have hP := hP.sub (ws' := [(x, .inr (1, [.ref r, .ref r2, .ref r3])), (r, .inr (0, [.ref a, .ref b, .int (nI n)])), (a, .inl (cI, 768, .inl f)), (b, .inl (cI, 768, .inl g)), (r2, .inr (0, [.ref a2, .ref b2, .int (nI n3)])), (a2, .inl (cI, 768, .inl f3)), (b2, .inl (cI, 768, .inl g3))]) [0, 1, 2, 3, 4, 5, 6] rfl
    have hD := hD.sub (ws' := [(x, .inr (1, [.ref r, .ref r2, .ref r3])), (r, .inr (0, [.ref a, .ref b, .int (nI n)])), (a, .inl (cI, 768, .inl f)), (b, .inl (cI, 768, .inl g)), (r2, .inr (0, [.ref a2, .ref b2, .int (nI n3)])), (a2, .inl (cI, 768, .inl f3)), (b2, .inl (cI, 768, .inl g3))]) [0, 1, 2, 3, 4, 5, 6] (by decide) rfl
    refine lv_aload_n hx hb dX1_turn_65 rfl (lv_at hl 0 rfl) ?_
    refine lv_aload_n hx hb dX1_turn_66 rfl (lv_at hl 2 rfl) ?_
    refine va_put (D := (dC, dI)) (ci := 1) (v := .ref r2) (ty := .object "CharRows$Ranges") (C := RX1) (T := TX1) (N := 3) hx hb hts (by decide +kernel) tyX1 tyX1_ok nmX1 hown hK hP hD hS 0 rfl rfl 0 (by decide) (hts (.fieldLink RX1 10 "CharRows" "held" "LCharRows$Ranges;") (by decide +kernel)) (fun _ h9 => h9) rfl (by decide +kernel) rfl rfl (Nat.le_of_ble_eq_true rfl) dX1_turn_67 (fun H locs hP hD hS => ?_)
    have hP : va_P (dC, dI) crCl [(x, .inr (1, [.ref r2, .ref r2, .ref r3])), (r, .inr (0, [.ref a, .ref b, .int (nI n)])), (a, .inl (cI, 768, .inl f)), (b, .inl (cI, 768, .inl g)), (r2, .inr (0, [.ref a2, .ref b2, .int (nI n3)])), (a2, .inl (cI, 768, .inl f3)), (b2, .inl (cI, 768, .inl g3))] H := hP
    have hD : va_D A [(x, .inr (1, [.ref r2, .ref r2, .ref r3])), (r, .inr (0, [.ref a, .ref b, .int (nI n)])), (a, .inl (cI, 768, .inl f)), (b, .inl (cI, 768, .inl g)), (r2, .inr (0, [.ref a2, .ref b2, .int (nI n3)])), (a2, .inl (cI, 768, .inl f3)), (b2, .inl (cI, 768, .inl g3))] := hD
    refine lv_aload_n hx hb dX1_turn_70 rfl (lv_at hl 0 rfl) ?_
    refine lv_aload_n hx hb dX1_turn_71 rfl (lv_at hl 1 rfl) ?_
    refine va_put (D := (dC, dI)) (ci := 1) (v := .ref r) (ty := .object "CharRows$Ranges") (C := RX1) (T := TX1) (N := 3) hx hb hts (by decide +kernel) tyX1 tyX1_ok nmX1 hown hK hP hD hS 0 rfl rfl 1 (by decide) (hts (.fieldLink RX1 16 "CharRows" "spare" "LCharRows$Ranges;") (by decide +kernel)) (fun _ h9 => h9) rfl (by decide +kernel) rfl rfl (Nat.le_of_ble_eq_true rfl) dX1_turn_72 (fun H locs hP hD hS => ?_)
    have hP : va_P (dC, dI) crCl [(x, .inr (1, [.ref r2, .ref r, .ref r3])), (r, .inr (0, [.ref a, .ref b, .int (nI n)])), (a, .inl (cI, 768, .inl f)), (b, .inl (cI, 768, .inl g)), (r2, .inr (0, [.ref a2, .ref b2, .int (nI n3)])), (a2, .inl (cI, 768, .inl f3)), (b2, .inl (cI, 768, .inl g3))] H := hP
    have hD : va_D A [(x, .inr (1, [.ref r2, .ref r, .ref r3])), (r, .inr (0, [.ref a, .ref b, .int (nI n)])), (a, .inl (cI, 768, .inl f)), (b, .inl (cI, 768, .inl g)), (r2, .inr (0, [.ref a2, .ref b2, .int (nI n3)])), (a2, .inl (cI, 768, .inl f3)), (b2, .inl (cI, 768, .inl g3))] := hD
    refine lv_aload_n hx hb dX1_turn_75 rfl (lv_at hl 0 rfl) ?_
    refine va_get (D := (dC, dI)) (ci := 1) (v := .ref r2) (C := RX1) (T := TX1) (N := 3) hx hb hts (by decide +kernel) hown hK hP 0 rfl rfl 0 (by decide) (hts (.fieldLink RX1 10 "CharRows" "held" "LCharRows$Ranges;") (by decide +kernel)) (fun _ h9 => h9) rfl dX1_turn_76 ?_
    refine va_getN (D := (dC, dI)) (ci := 0) (v := .int (nI n3)) (C := RX0) (T := TX0) (N := 3) hx hb hts (by decide +kernel) hown hK hP 4 rfl rfl 2 (by decide) (va_Nw.use rfl (hN _ nw_34)) (fun _ h9 => h9) rfl dX1_turn_79 ?_
    exact W.iret (v := nI n3) hx hb hr (fun t9 ht9 hW9 => ⟨⟨nI n3, [(x, .inr (1, [.ref r2, .ref r, .ref r3])), (r, .inr (0, [.ref a, .ref b, .int (nI n)])), (a, .inl (cI, 768, .inl f)), (b, .inl (cI, 768, .inl g)), (r2, .inr (0, [.ref a2, .ref b2, .int (nI n3)])), (a2, .inl (cI, 768, .inl f3)), (b2, .inl (cI, 768, .inl g3))], rfl, ⟨n3, f3, g3, rfl, rfl, by omega, hSet3.iff (fun c => cr_turn_end hO hI c)⟩, by rw [ht9]; exact hP, va_K.moved hW9.alike hK, hD⟩, hS.F ht9⟩) hS.2.2 dX1_turn_82
  · rw [nI_leI (by omega) (by omega)] at c_25
    have hok := hO.1 k (by omega)
    have hlk : (nI (lo k) - nI 1).toInt = (lo k : Int) - 1 := pk_sub_toInt (by omega) (by omega)
    refine lv_aload_n hx hb dX1_turn_28 rfl (lv_at hl 2 rfl) ?_
    refine lv_iload_n hx hb dX1_turn_29 rfl (lv_at hl 3 rfl) ?_
    refine lv_aload_n hx hb dX1_turn_30 rfl (lv_at hl 1 rfl) ?_
    refine va_getN (D := (dC, dI)) (ci := 0) (v := .ref a) (C := RX0) (T := TX0) (N := 3) hx hb hts (by decide +kernel) hown hK hP 1 rfl rfl 0 (by decide) (va_Nw.use rfl (hN _ nw_47)) (fun _ h9 => h9) rfl dX1_turn_31 ?_
    refine lv_iload hx hb dX1_turn_34 (lv_at hl 4 rfl) ?_
    refine va_iald hx hb hK hP 2 0 rfl rfl (vp_in_nI (by omega) (by omega)) dX1_turn_36 ?_
    refine cr_top (y := nI (lo k)) (by rw [nI_clamp (by omega)]; exact (hR _ (by omega)).1) ?_
    refine lv_iconst (v := nI 1) hx hb dX1_turn_37 (by decide) ?_
    refine lv_isub hx hb dX1_turn_38 ?_
    have hPc := hP.sub (ws' := [(r2, .inr (0, [.ref a2, .ref b2, .int (nI n1)])), (a2, .inl (cI, 768, .inl f1)), (b2, .inl (cI, 768, .inl g1))]) [4, 5, 6] rfl
    have hDc := hD.sub (ws' := [(r2, .inr (0, [.ref a2, .ref b2, .int (nI n1)])), (a2, .inl (cI, 768, .inl f1)), (b2, .inl (cI, 768, .inl g1))]) [4, 5, 6] (by decide) rfl
    have hFc := va_free (wc := [(r2, .inr (0, [.ref a2, .ref b2, .int (nI n1)])), (a2, .inl (cI, 768, .inl f1)), (b2, .inl (cI, 768, .inl g1))]) hD hS hA [4, 5, 6] rfl
    refine va_callv (va_runS (As := [.ref r2, .int (nI (cr_fm hi k)), .int ((nI (lo k)) - (nI 1))]) (rest := []) ⟨hx, hb, hml, hown, hts⟩ (c_putCharacters l dC dI _ r2 a2 b2 cI n1 f1 g1 _ h2 (by omega) (cr_fm hi k) (nI (lo k) - nI 1) h5 (by rw [hlk]; omega)) (va_cwS 3 hts gX1_turn_X1_putCharacters rfl rfl rfl (by decide +kernel) ⟨Nat.le_of_ble_eq_true rfl, Nat.le_of_ble_eq_true rfl⟩) (cr_preSN hN hPc hK hDc) rfl rfl hl.1 rfl (lv_room (Nat.le_of_ble_eq_true rfl)) dX1_turn_39 ⟨Nat.zero_le _, Nat.zero_le _⟩) hS (fun q _ h => hFc q h) hFc (fun u_39 t_39 H_39 locs ht_39 hvm_39 hw_39 hB_39 hz_39 hk_39 hS => ?_)
    obtain ⟨n3, f3, g3, rfl, hn3, hSet3⟩ := hw_39
    obtain ⟨hP, hD⟩ := cr_back (wr := [(x, .inr (1, [.ref r, .ref r2, .ref r3])), (r, .inr (0, [.ref a, .ref b, .int (nI n)])), (a, .inl (cI, 768, .inl f)), (b, .inl (cI, 768, .inl g))]) (w1 := [(r2, .inr (0, [.ref a2, .ref b2, .int (nI n3)])), (a2, .inl (cI, 768, .inl f3)), (b2, .inl (cI, 768, .inl g3))]) hP hD [4, 5, 6] [0, 1, 2, 3] rfl rfl (by decide) (by decide) hk_39 hFc hB_39 ht_39
    clear hPc hDc hFc
    generalize H_39 = H at hP hS ⊢
    have hP := hP.sub (ws' := [(x, .inr (1, [.ref r, .ref r2, .ref r3])), (r, .inr (0, [.ref a, .ref b, .int (nI n)])), (a, .inl (cI, 768, .inl f)), (b, .inl (cI, 768, .inl g)), (r2, .inr (0, [.ref a2, .ref b2, .int (nI n3)])), (a2, .inl (cI, 768, .inl f3)), (b2, .inl (cI, 768, .inl g3))]) [0, 1, 2, 3, 4, 5, 6] rfl
    have hD := hD.sub (ws' := [(x, .inr (1, [.ref r, .ref r2, .ref r3])), (r, .inr (0, [.ref a, .ref b, .int (nI n)])), (a, .inl (cI, 768, .inl f)), (b, .inl (cI, 768, .inl g)), (r2, .inr (0, [.ref a2, .ref b2, .int (nI n3)])), (a2, .inl (cI, 768, .inl f3)), (b2, .inl (cI, 768, .inl g3))]) [0, 1, 2, 3, 4, 5, 6] (by decide) rfl
    refine lv_aload_n hx hb dX1_turn_42 rfl (lv_at hl 1 rfl) ?_
    refine va_getN (D := (dC, dI)) (ci := 0) (v := .ref b) (C := RX0) (T := TX0) (N := 3) hx hb hts (by decide +kernel) hown hK hP 1 rfl rfl 1 (by decide) (va_Nw.use rfl (hN _ nw_51)) (fun _ h9 => h9) rfl dX1_turn_43 ?_
    refine lv_iload hx hb dX1_turn_46 (lv_at hl 4 rfl) ?_
    refine va_iald hx hb hK hP 3 0 rfl rfl (vp_in_nI (by omega) (by omega)) dX1_turn_48 ?_
    refine cr_top (y := nI (hi k)) (by rw [nI_clamp (by omega)]; exact (hR _ (by omega)).2) ?_
    refine lv_iconst (v := nI 1) hx hb dX1_turn_49 (by decide) ?_
    refine lv_iadd hx hb dX1_turn_50 ?_
    refine cr_top (y := nI ((hi k) + 1)) (nI_add (hi k) 1) ?_
    refine cr_top (y := nI (cr_fm hi (k + 1))) (by rw [cr_fm_succ]) ?_
    refine lv_istore_n (lv' := [(3, .int (nI (cr_fm hi (k + 1)))), (0, .ref x), (1, .ref r), (2, .ref r2), (4, .int (nI k))]) hx hb dX1_turn_51 rfl hl (by decide) rfl (fun ls hl => ?_)
    refine lv_iinc (v := nI (k + 1)) (lv' := [(4, .int (nI (k + 1))), (3, .int (nI (cr_fm hi (k + 1)))), (0, .ref x), (1, .ref r), (2, .ref r2)]) hx hb dX1_turn_52 hl (k := 4) rfl (nI_add k 1) (by decide) rfl (fun ls hl => ?_)
    refine lv_goto (tgt := 19) hx hb dX1_turn_55 (by decide) ?_
    exact ih19 (k + 1) n3 f3 g3 _ _ _ ⟨⟨by omega, hSet3.iff (fun c => by rw [hlk]; exact cr_turn_step hO hI (by omega) c)⟩, hP, hD, hS, lv_sub hl [2, 3, 4, 1, 0] rfl⟩ (by omega)

set_option maxHeartbeats 4000000 in
set_option maxRecDepth 100000 in
theorem c_row (l : Launch) (dC : Nat → ClassId) (dI : Nat → Nat → Nat) (sz : Nat) (x r r2 r3 a b : Nat) (cI : ClassId) (n : Nat) (f g : Nat → Int32) (lo hi : Nat → Nat) (hR : cr_Rp n lo hi f g) (hO : cr_Ok n lo hi) (hn : n ≤ 768) (z i w : Int32) : Met l yX1_row wsX1_row ({ frames := 6, cells := 0, slots := 0, locals := 220 }) (va_Pc [.ref x, .int z, .int i, .int w] (cr_preN dC dI [(cI, .int)] [(x, .inr (1, [.ref r, .ref r2, .ref r3])), (r, .inr (0, [.ref a, .ref b, .int (nI n)])), (a, .inl (cI, 768, .inl f)), (b, .inl (cI, 768, .inl g))] sz)) (va_Qi (fun (rr : Int32) (u : va_W) => u = [(x, .inr (1, [.ref r, .ref r2, .ref r3])), (r, .inr (0, [.ref a, .ref b, .int (nI n)])), (a, .inl (cI, 768, .inl f)), (b, .inl (cI, 768, .inl g))] ∧ cr_rowSpec n lo hi z i w rr) (cr_at dC dI [(cI, .int)] (va_A [(x, .inr (1, [.ref r, .ref r2, .ref r3])), (r, .inr (0, [.ref a, .ref b, .int (nI n)])), (a, .inl (cI, 768, .inl f)), (b, .inl (cI, 768, .inl g))] sz)) (va_A [(x, .inr (1, [.ref r, .ref r2, .ref r3])), (r, .inr (0, [.ref a, .ref b, .int (nI n)])), (a, .inl (cI, 768, .inl f)), (b, .inl (cI, 768, .inl g))] sz)) 0 0 (va_A [(x, .inr (1, [.ref r, .ref r2, .ref r3])), (r, .inr (0, [.ref a, .ref b, .int (nI n)])), (a, .inl (cI, 768, .inl f)), (b, .inl (cI, 768, .inl g))] sz) := by
  refine Met.ofW (cc := cX1_row) (maxL := 6) (ret := (some .int)) (by decide) rfl ?_
  intro p e s m args below meth c s₁ B hml hv
  obtain ⟨rfl, ⟨hsz, hP, hK, hD0⟩, hN⟩ := hv
  have hx := B.exec
  have hb := B.bytes
  have hr := B.returns
  have hts := atoms_spec (ws := wsX1_row) B.pre
  have hown : s.vm.findClass RX1 = some m.cls := findClass_of_methodNamed B.named
  have hlocks := B.notSynchronized
  subst hsz
  have hD := hD0.self (sz := s.heap.size)
  generalize hAe : va_A [(x, .inr (1, [.ref r, .ref r2, .ref r3])), (r, .inr (0, [.ref a, .ref b, .int (nI n)])), (a, .inl (cI, 768, .inl f)), (b, .inl (cI, 768, .inl g))] s.heap.size = A at hD ⊢
  have hA : ∀ q : Nat, s.heap.size ≤ q → A q := fun q h => by rw [← hAe]; exact Or.inr h
  have hS : va_S A s.heap s.heap [] := va_S.rf
  have hP : va_P (dC, dI) crCl [(x, .inr (1, [.ref r, .ref r2, .ref r3])), (r, .inr (0, [.ref a, .ref b, .int (nI n)])), (a, .inl (cI, 768, .inl f)), (b, .inl (cI, 768, .inl g))] s.heap := hP
  have hl := lv_entry ([.ref x, .int z, .int i, .int w]) (n := 6) (Nat.le_of_ble_eq_true rfl)
  rw [lg_entry_eq]
  generalize (lg_sl ([.ref x, .int z, .int i, .int w]) ++ List.replicate (6 - (lg_sl ([.ref x, .int z, .int i, .int w])).length) Slot.unset).toArray = ls at hl ⊢
  have hl : lv_has ls 6 [(0, .ref x), (1, .int z), (2, .int i), (3, .int w)] := hl
  refine lv_aload_n hx hb dX1_row_0 rfl (lv_at hl 0 rfl) ?_
  refine lv_iload_n hx hb dX1_row_1 rfl (lv_at hl 1 rfl) ?_
  have hPc := hP.sub (ws' := [(x, .inr (1, [.ref r, .ref r2, .ref r3])), (r, .inr (0, [.ref a, .ref b, .int (nI n)])), (a, .inl (cI, 768, .inl f)), (b, .inl (cI, 768, .inl g))]) [0, 1, 2, 3] rfl
  have hDc := hD.sub (ws' := [(x, .inr (1, [.ref r, .ref r2, .ref r3])), (r, .inr (0, [.ref a, .ref b, .int (nI n)])), (a, .inl (cI, 768, .inl f)), (b, .inl (cI, 768, .inl g))]) [0, 1, 2, 3] (by decide) rfl
  have hFc := va_free (wc := [(x, .inr (1, [.ref r, .ref r2, .ref r3])), (r, .inr (0, [.ref a, .ref b, .int (nI n)])), (a, .inl (cI, 768, .inl f)), (b, .inl (cI, 768, .inl g))]) hD hS hA [0, 1, 2, 3] rfl
  refine va_calli (va_runV (As := [.int z]) (rest := []) ⟨hx, hb, hml, hown, hts⟩ (c_firstOfRow l dC dI _ x r r2 r3 a b cI n f g lo hi hR hO hn z) (cwV 1 hts gX1_row_X1_firstOfRow rfl rfl rfl (by decide +kernel) ⟨Nat.le_of_ble_eq_true rfl, Nat.le_of_ble_eq_true rfl⟩) (cr_preVN hN hPc hK hDc (ci := 1) (q0 := 0) rfl rfl) rfl rfl hl.1 rfl (lv_room (Nat.le_of_ble_eq_true rfl)) dX1_row_2 ⟨Nat.zero_le _, Nat.zero_le _⟩) hS (fun q _ h => hFc q h) hFc (fun r_2 u_2 t_2 H_2 locs ht_2 hvm_2 hw_2 hB_2 hz_2 hk_2 hS => ?_)
  obtain ⟨rfl, hfo⟩ := hw_2
  obtain ⟨hP, hD⟩ := cr_back (wr := []) (w1 := [(x, .inr (1, [.ref r, .ref r2, .ref r3])), (r, .inr (0, [.ref a, .ref b, .int (nI n)])), (a, .inl (cI, 768, .inl f)), (b, .inl (cI, 768, .inl g))]) hP hD [0, 1, 2, 3] [] rfl rfl (by decide) (by decide) hk_2 hFc hB_2 ht_2
  clear hPc hDc hFc
  generalize H_2 = H at hP hS ⊢
  have hP := hP.sub (ws' := [(x, .inr (1, [.ref r, .ref r2, .ref r3])), (r, .inr (0, [.ref a, .ref b, .int (nI n)])), (a, .inl (cI, 768, .inl f)), (b, .inl (cI, 768, .inl g))]) [0, 1, 2, 3] rfl
  have hD := hD.sub (ws' := [(x, .inr (1, [.ref r, .ref r2, .ref r3])), (r, .inr (0, [.ref a, .ref b, .int (nI n)])), (a, .inl (cI, 768, .inl f)), (b, .inl (cI, 768, .inl g))]) [0, 1, 2, 3] (by decide) rfl
  rcases hfo with ⟨hneg, rfl⟩ | ⟨zz, hzz, rfl, ⟨hbig, rfl⟩ | ⟨j, t0, hj, ht0, hzt, rfl⟩⟩
  · refine lv_istore (lv' := [(4, .int (-1)), (0, .ref x), (1, .int z), (2, .int i), (3, .int w)]) hx hb dX1_row_5 hl (by decide) rfl (fun ls hl => ?_)
    refine lv_iload hx hb dX1_row_7 (lv_at hl 0 rfl) ?_
    refine lv_iconst (v := (-1)) hx hb dX1_row_9 (by decide) ?_
    refine lv_icmp_ne (tgt := 15) hx hb dX1_row_10 (by decide) (fun c_10 => ?_) (fun c_10 => ?_)
    · exact absurd (by decide) c_10
    · refine lv_iconst (v := (-1)) hx hb dX1_row_13 (by decide) ?_
      exact W.iret (v := (-1)) hx hb hr (fun t9 ht9 hW9 => ⟨⟨(-1), [(x, .inr (1, [.ref r, .ref r2, .ref r3])), (r, .inr (0, [.ref a, .ref b, .int (nI n)])), (a, .inl (cI, 768, .inl f)), (b, .inl (cI, 768, .inl g))], rfl, ⟨rfl, Or.inl ⟨Or.inl hneg, rfl⟩⟩, by rw [ht9]; exact hP, va_K.moved hW9.alike hK, hD⟩, hS.F ht9⟩) hS.2.2 dX1_row_14
  · refine lv_istore (lv' := [(4, .int (-1)), (0, .ref x), (1, .int (nI zz)), (2, .int i), (3, .int w)]) hx hb dX1_row_5 hl (by decide) rfl (fun ls hl => ?_)
    refine lv_iload hx hb dX1_row_7 (lv_at hl 0 rfl) ?_
    refine lv_iconst (v := (-1)) hx hb dX1_row_9 (by decide) ?_
    refine lv_icmp_ne (tgt := 15) hx hb dX1_row_10 (by decide) (fun c_10 => ?_) (fun c_10 => ?_)
    · exact absurd (by decide) c_10
    · refine lv_iconst (v := (-1)) hx hb dX1_row_13 (by decide) ?_
      exact W.iret (v := (-1)) hx hb hr (fun t9 ht9 hW9 => ⟨⟨(-1), [(x, .inr (1, [.ref r, .ref r2, .ref r3])), (r, .inr (0, [.ref a, .ref b, .int (nI n)])), (a, .inl (cI, 768, .inl f)), (b, .inl (cI, 768, .inl g))], rfl, ⟨rfl, Or.inl ⟨Or.inr ⟨zz, hzz, rfl, hbig⟩, rfl⟩⟩, by rw [ht9]; exact hP, va_K.moved hW9.alike hK, hD⟩, hS.F ht9⟩) hS.2.2 dX1_row_14
  · have hok := hO.1 j hj
    have hgo := cr_N_in ht0
    have hge := cr_N_ge (by omega) ht0
    generalize hc0 : cr_go t0 (lo j) (hi j) = c0 at hgo hge ⊢
    have hla := cr_last_in hgo (by omega)
    have hlen := cr_len_in c0
    refine lv_istore (lv' := [(4, .int (nI c0)), (0, .ref x), (1, .int (nI zz)), (2, .int i), (3, .int w)]) hx hb dX1_row_5 hl (by decide) rfl (fun ls hl => ?_)
    refine lv_iload hx hb dX1_row_7 (lv_at hl 0 rfl) ?_
    refine lv_iconst (v := (-1)) hx hb dX1_row_9 (by decide) ?_
    refine lv_icmp_ne (tgt := 15) hx hb dX1_row_10 (by decide) (fun c_10 => ?_) (fun c_10 => ?_)
    · refine lv_iload hx hb dX1_row_15 (lv_at hl 0 rfl) ?_
      have hPc := hP.sub (ws' := []) [] rfl
      have hDc := hD.sub (ws' := []) [] (by decide) rfl
      have hFc := va_free (wc := []) hD hS hA [] rfl
      refine va_calli (va_runS (As := [.int (nI c0)]) (rest := []) ⟨hx, hb, hml, hown, hts⟩ (c_byteCount l dC dI _ c0 (by omega)) (va_cwS 1 hts gX1_row_X1_byteCount rfl rfl rfl (by decide +kernel) ⟨Nat.le_of_ble_eq_true rfl, Nat.le_of_ble_eq_true rfl⟩) (cr_preS hPc (hK.sub (tys' := []) [] rfl) hDc) rfl rfl hl.1 rfl (lv_room (Nat.le_of_ble_eq_true rfl)) dX1_row_17 ⟨Nat.zero_le _, Nat.zero_le _⟩) hS (fun q _ h => hFc q h) hFc (fun r_17 u_17 t_17 H_17 locs ht_17 hvm_17 hw_17 hB_17 hz_17 hk_17 hS => ?_)
      obtain ⟨rfl, rfl⟩ := hw_17
      obtain ⟨hP, hD⟩ := cr_back (wr := [(x, .inr (1, [.ref r, .ref r2, .ref r3])), (r, .inr (0, [.ref a, .ref b, .int (nI n)])), (a, .inl (cI, 768, .inl f)), (b, .inl (cI, 768, .inl g))]) (w1 := []) hP hD [] [0, 1, 2, 3] rfl rfl (by decide) (by decide) hk_17 hFc hB_17 ht_17
      clear hPc hDc hFc
      generalize H_17 = H at hP hS ⊢
      have hP := hP.sub (ws' := [(x, .inr (1, [.ref r, .ref r2, .ref r3])), (r, .inr (0, [.ref a, .ref b, .int (nI n)])), (a, .inl (cI, 768, .inl f)), (b, .inl (cI, 768, .inl g))]) [0, 1, 2, 3] rfl
      have hD := hD.sub (ws' := [(x, .inr (1, [.ref r, .ref r2, .ref r3])), (r, .inr (0, [.ref a, .ref b, .int (nI n)])), (a, .inl (cI, 768, .inl f)), (b, .inl (cI, 768, .inl g))]) [0, 1, 2, 3] (by decide) rfl
      refine lv_istore (lv' := [(5, .int (nI (cr_len c0))), (4, .int (nI c0)), (0, .ref x), (1, .int (nI zz)), (2, .int i), (3, .int w)]) hx hb dX1_row_20 hl (by decide) rfl (fun ls hl => ?_)
      refine lv_iload_n hx hb dX1_row_22 rfl (lv_at hl 4 rfl) ?_
      refine lv_if_ne (tgt := 29) hx hb dX1_row_23 (by decide) (fun c_23 => ?_) (fun c_23 => ?_)
      · refine lv_iload_n hx hb dX1_row_29 rfl (lv_at hl 4 rfl) ?_
        refine lv_if_lt (tgt := 39) hx hb dX1_row_30 (by decide) (fun c_30 => ?_) (fun c_30 => ?_)
        · refine lv_iconst (v := (-1)) hx hb dX1_row_39 (by decide) ?_
          exact W.iret (v := (-1)) hx hb hr (fun t9 ht9 hW9 => ⟨⟨(-1), [(x, .inr (1, [.ref r, .ref r2, .ref r3])), (r, .inr (0, [.ref a, .ref b, .int (nI n)])), (a, .inl (cI, 768, .inl f)), (b, .inl (cI, 768, .inl g))], rfl, ⟨rfl, Or.inr ⟨zz, j, t0, hzz, rfl, hj, ht0, hzt, by rw [hc0]; exact (cr_ra_neg c_23 (Or.inl c_30)).symm⟩⟩, by rw [ht9]; exact hP, va_K.moved hW9.alike hK, hD⟩, hS.F ht9⟩) hS.2.2 dX1_row_40
        · refine lv_iload_n hx hb dX1_row_33 rfl (lv_at hl 4 rfl) ?_
          refine lv_iload hx hb dX1_row_34 (lv_at hl 0 rfl) ?_
          refine lv_icmp_le (tgt := 41) hx hb dX1_row_36 (by decide) (fun c_36 => ?_) (fun c_36 => ?_)
          · refine lv_iload_n hx hb dX1_row_41 rfl (lv_at hl 5 rfl) ?_
            refine lv_if_ne (tgt := 54) hx hb dX1_row_42 (by decide) (fun c_42 => ?_) (fun c_42 => ?_)
            · refine lv_iload_n hx hb dX1_row_54 rfl (lv_at hl 5 rfl) ?_
              refine lv_iconst (v := nI 1) hx hb dX1_row_55 (by decide) ?_
              refine lv_icmp_ne (tgt := 82) hx hb dX1_row_56 (by decide) (fun c_56 => ?_) (fun c_56 => ?_)
              · refine lv_iconst (v := (-1)) hx hb dX1_row_82 (by decide) ?_
                exact W.iret (v := (-1)) hx hb hr (fun t9 ht9 hW9 => ⟨⟨(-1), [(x, .inr (1, [.ref r, .ref r2, .ref r3])), (r, .inr (0, [.ref a, .ref b, .int (nI n)])), (a, .inl (cI, 768, .inl f)), (b, .inl (cI, 768, .inl g))], rfl, ⟨rfl, Or.inr ⟨zz, j, t0, hzz, rfl, hj, ht0, hzt, by rw [hc0]; exact (cr_ra_w2 c_23 c_30 c_36 c_42 c_56).symm⟩⟩, by rw [ht9]; exact hP, va_K.moved hW9.alike hK, hD⟩, hS.F ht9⟩) hS.2.2 dX1_row_83
              · obtain ⟨ii, hi1, rfl⟩ := cr_of (x := i) (by rw [cr_lt0] at c_30; omega)
                rw [nI_leI (by omega) (by omega)] at c_36
                have hi2 : 1 ≤ ii := Nat.pos_of_ne_zero (fun h => c_23 (by rw [h]; rfl))
                have hi3 : ii ≤ cr_len c0 := c_36
                refine lv_iload hx hb dX1_row_59 (lv_at hl 1 rfl) ?_
                refine lv_aload_n hx hb dX1_row_61 rfl (lv_at hl 2 rfl) ?_
                refine va_get (D := (dC, dI)) (ci := 1) (v := .ref r) (C := RX1) (T := TX1) (N := 3) hx hb hts (by decide +kernel) hown hK hP 0 rfl rfl 0 (by decide) (hts (.fieldLink RX1 10 "CharRows" "held" "LCharRows$Ranges;") (by decide +kernel)) (fun _ h9 => h9) rfl dX1_row_62 ?_
                refine lv_iload hx hb dX1_row_65 (lv_at hl 1 rfl) ?_
                have hPc := hP.sub (ws' := [(r, .inr (0, [.ref a, .ref b, .int (nI n)])), (a, .inl (cI, 768, .inl f)), (b, .inl (cI, 768, .inl g))]) [1, 2, 3] rfl
                have hDc := hD.sub (ws' := [(r, .inr (0, [.ref a, .ref b, .int (nI n)])), (a, .inl (cI, 768, .inl f)), (b, .inl (cI, 768, .inl g))]) [1, 2, 3] (by decide) rfl
                have hFc := va_free (wc := [(r, .inr (0, [.ref a, .ref b, .int (nI n)])), (a, .inl (cI, 768, .inl f)), (b, .inl (cI, 768, .inl g))]) hD hS hA [1, 2, 3] rfl
                refine va_calli (va_runVN (As := [.int (nI c0)]) (rest := [.int (nI c0)]) ⟨hx, hb, hml, hown, hts⟩ (c_endAround l dC dI _ r a b cI n f g lo hi hR hO hn c0 j hj hge hgo) (⟨va_cnB (host := "CharRows") 1 hts gX1_row_X0_endAround_n81 rfl rfl rfl (hN _ nw_81) (hts (.initialized RX0) (by decide +kernel)) (by decide +kernel) ⟨Nat.le_of_ble_eq_true rfl, Nat.le_of_ble_eq_true rfl⟩, hts (.instanceMethod yX0_endAround) (by decide +kernel), hts (.selects RX0 yX0_endAround yX0_endAround) (by decide +kernel)⟩) (cr_preV hPc hK hDc (ci := 0) (q0 := 0) rfl rfl) rfl rfl hl.1 rfl (lv_room (Nat.le_of_ble_eq_true rfl)) dX1_row_67 ⟨Nat.zero_le _, Nat.zero_le _⟩) hS (fun q _ h => hFc q h) hFc (fun r_67 u_67 t_67 H_67 locs ht_67 hvm_67 hw_67 hB_67 hz_67 hk_67 hS => ?_)
                obtain ⟨rfl, rfl⟩ := hw_67
                obtain ⟨hP, hD⟩ := cr_back (wr := [(x, .inr (1, [.ref r, .ref r2, .ref r3]))]) (w1 := [(r, .inr (0, [.ref a, .ref b, .int (nI n)])), (a, .inl (cI, 768, .inl f)), (b, .inl (cI, 768, .inl g))]) hP hD [1, 2, 3] [0] rfl rfl (by decide) (by decide) hk_67 hFc hB_67 ht_67
                clear hPc hDc hFc
                generalize H_67 = H at hP hS ⊢
                have hP := hP.sub (ws' := [(x, .inr (1, [.ref r, .ref r2, .ref r3])), (r, .inr (0, [.ref a, .ref b, .int (nI n)])), (a, .inl (cI, 768, .inl f)), (b, .inl (cI, 768, .inl g))]) [0, 1, 2, 3] rfl
                have hD := hD.sub (ws' := [(x, .inr (1, [.ref r, .ref r2, .ref r3])), (r, .inr (0, [.ref a, .ref b, .int (nI n)])), (a, .inl (cI, 768, .inl f)), (b, .inl (cI, 768, .inl g))]) [0, 1, 2, 3] (by decide) rfl
                have hPc := hP.sub (ws' := []) [] rfl
                have hDc := hD.sub (ws' := []) [] (by decide) rfl
                have hFc := va_free (wc := []) hD hS hA [] rfl
                refine va_calli (va_runS (As := [.int (nI c0), .int (nI (hi j))]) (rest := []) ⟨hx, hb, hml, hown, hts⟩ (c_lastOfRow l dC dI _ c0 (hi j) hgo (by omega)) (va_cwS 2 hts gX1_row_X1_lastOfRow rfl rfl rfl (by decide +kernel) ⟨Nat.le_of_ble_eq_true rfl, Nat.le_of_ble_eq_true rfl⟩) (cr_preS hPc (hK.sub (tys' := []) [] rfl) hDc) rfl rfl hl.1 rfl (lv_room (Nat.le_of_ble_eq_true rfl)) dX1_row_70 ⟨Nat.zero_le _, Nat.zero_le _⟩) hS (fun q _ h => hFc q h) hFc (fun r_70 u_70 t_70 H_70 locs ht_70 hvm_70 hw_70 hB_70 hz_70 hk_70 hS => ?_)
                obtain ⟨rfl, rfl⟩ := hw_70
                obtain ⟨hP, hD⟩ := cr_back (wr := [(x, .inr (1, [.ref r, .ref r2, .ref r3])), (r, .inr (0, [.ref a, .ref b, .int (nI n)])), (a, .inl (cI, 768, .inl f)), (b, .inl (cI, 768, .inl g))]) (w1 := []) hP hD [] [0, 1, 2, 3] rfl rfl (by decide) (by decide) hk_70 hFc hB_70 ht_70
                clear hPc hDc hFc
                generalize H_70 = H at hP hS ⊢
                have hP := hP.sub (ws' := [(x, .inr (1, [.ref r, .ref r2, .ref r3])), (r, .inr (0, [.ref a, .ref b, .int (nI n)])), (a, .inl (cI, 768, .inl f)), (b, .inl (cI, 768, .inl g))]) [0, 1, 2, 3] rfl
                have hD := hD.sub (ws' := [(x, .inr (1, [.ref r, .ref r2, .ref r3])), (r, .inr (0, [.ref a, .ref b, .int (nI n)])), (a, .inl (cI, 768, .inl f)), (b, .inl (cI, 768, .inl g))]) [0, 1, 2, 3] (by decide) rfl
                refine lv_iload hx hb dX1_row_73 (lv_at hl 0 rfl) ?_
                refine lv_iload_n hx hb dX1_row_75 rfl (lv_at hl 4 rfl) ?_
                have hPc := hP.sub (ws' := []) [] rfl
                have hDc := hD.sub (ws' := []) [] (by decide) rfl
                have hFc := va_free (wc := []) hD hS hA [] rfl
                refine va_calli (va_runS (As := [.int (nI (cr_last c0 (hi j))), .int (nI (cr_len c0)), .int (nI ii)]) (rest := []) ⟨hx, hb, hml, hown, hts⟩ (c_byteOf l dC dI _ (cr_last c0 (hi j)) (cr_len c0) ii hla.2.2.1.1.symm (by omega) (by omega) hi3) (va_cwS 3 hts gX1_row_X1_byteOf rfl rfl rfl (by decide +kernel) ⟨Nat.le_of_ble_eq_true rfl, Nat.le_of_ble_eq_true rfl⟩) (cr_preS hPc (hK.sub (tys' := []) [] rfl) hDc) rfl rfl hl.1 rfl (lv_room (Nat.le_of_ble_eq_true rfl)) dX1_row_76 ⟨Nat.zero_le _, Nat.zero_le _⟩) hS (fun q _ h => hFc q h) hFc (fun r_76 u_76 t_76 H_76 locs ht_76 hvm_76 hw_76 hB_76 hz_76 hk_76 hS => ?_)
                obtain ⟨rfl, rfl⟩ := hw_76
                obtain ⟨hP, hD⟩ := cr_back (wr := [(x, .inr (1, [.ref r, .ref r2, .ref r3])), (r, .inr (0, [.ref a, .ref b, .int (nI n)])), (a, .inl (cI, 768, .inl f)), (b, .inl (cI, 768, .inl g))]) (w1 := []) hP hD [] [0, 1, 2, 3] rfl rfl (by decide) (by decide) hk_76 hFc hB_76 ht_76
                clear hPc hDc hFc
                generalize H_76 = H at hP hS ⊢
                have hP := hP.sub (ws' := [(x, .inr (1, [.ref r, .ref r2, .ref r3])), (r, .inr (0, [.ref a, .ref b, .int (nI n)])), (a, .inl (cI, 768, .inl f)), (b, .inl (cI, 768, .inl g))]) [0, 1, 2, 3] rfl
                have hD := hD.sub (ws' := [(x, .inr (1, [.ref r, .ref r2, .ref r3])), (r, .inr (0, [.ref a, .ref b, .int (nI n)])), (a, .inl (cI, 768, .inl f)), (b, .inl (cI, 768, .inl g))]) [0, 1, 2, 3] (by decide) rfl
                refine lv_goto (tgt := 83) hx hb dX1_row_79 (by decide) ?_
                exact W.iret (v := nI (cr_by (cr_last c0 (hi j)) (ii - 1))) hx hb hr (fun t9 ht9 hW9 => ⟨⟨nI (cr_by (cr_last c0 (hi j)) (ii - 1)), [(x, .inr (1, [.ref r, .ref r2, .ref r3])), (r, .inr (0, [.ref a, .ref b, .int (nI n)])), (a, .inl (cI, 768, .inl f)), (b, .inl (cI, 768, .inl g))], rfl, ⟨rfl, Or.inr ⟨zz, j, t0, hzz, rfl, hj, ht0, hzt, by rw [hc0]; exact (cr_ra_w1 hi1 hi2 hi3 c_56).symm⟩⟩, by rw [ht9]; exact hP, va_K.moved hW9.alike hK, hD⟩, hS.F ht9⟩) hS.2.2 dX1_row_83
            · obtain ⟨ii, hi1, rfl⟩ := cr_of (x := i) (by rw [cr_lt0] at c_30; omega)
              rw [nI_leI (by omega) (by omega)] at c_36
              have hi2 : 1 ≤ ii := Nat.pos_of_ne_zero (fun h => c_23 (by rw [h]; rfl))
              have hi3 : ii ≤ cr_len c0 := c_36
              refine lv_iload hx hb dX1_row_45 (lv_at hl 1 rfl) ?_
              refine lv_iload hx hb dX1_row_47 (lv_at hl 0 rfl) ?_
              refine lv_iload_n hx hb dX1_row_49 rfl (lv_at hl 4 rfl) ?_
              have hPc := hP.sub (ws' := []) [] rfl
              have hDc := hD.sub (ws' := []) [] (by decide) rfl
              have hFc := va_free (wc := []) hD hS hA [] rfl
              refine va_calli (va_runS (As := [.int (nI c0), .int (nI (cr_len c0)), .int (nI ii)]) (rest := []) ⟨hx, hb, hml, hown, hts⟩ (c_byteOf l dC dI _ c0 (cr_len c0) ii rfl (by omega) (by omega) hi3) (va_cwS 3 hts gX1_row_X1_byteOf rfl rfl rfl (by decide +kernel) ⟨Nat.le_of_ble_eq_true rfl, Nat.le_of_ble_eq_true rfl⟩) (cr_preS hPc (hK.sub (tys' := []) [] rfl) hDc) rfl rfl hl.1 rfl (lv_room (Nat.le_of_ble_eq_true rfl)) dX1_row_50 ⟨Nat.zero_le _, Nat.zero_le _⟩) hS (fun q _ h => hFc q h) hFc (fun r_50 u_50 t_50 H_50 locs ht_50 hvm_50 hw_50 hB_50 hz_50 hk_50 hS => ?_)
              obtain ⟨rfl, rfl⟩ := hw_50
              obtain ⟨hP, hD⟩ := cr_back (wr := [(x, .inr (1, [.ref r, .ref r2, .ref r3])), (r, .inr (0, [.ref a, .ref b, .int (nI n)])), (a, .inl (cI, 768, .inl f)), (b, .inl (cI, 768, .inl g))]) (w1 := []) hP hD [] [0, 1, 2, 3] rfl rfl (by decide) (by decide) hk_50 hFc hB_50 ht_50
              clear hPc hDc hFc
              generalize H_50 = H at hP hS ⊢
              have hP := hP.sub (ws' := [(x, .inr (1, [.ref r, .ref r2, .ref r3])), (r, .inr (0, [.ref a, .ref b, .int (nI n)])), (a, .inl (cI, 768, .inl f)), (b, .inl (cI, 768, .inl g))]) [0, 1, 2, 3] rfl
              have hD := hD.sub (ws' := [(x, .inr (1, [.ref r, .ref r2, .ref r3])), (r, .inr (0, [.ref a, .ref b, .int (nI n)])), (a, .inl (cI, 768, .inl f)), (b, .inl (cI, 768, .inl g))]) [0, 1, 2, 3] (by decide) rfl
              exact W.iret (v := nI (cr_by c0 (ii - 1))) hx hb hr (fun t9 ht9 hW9 => ⟨⟨nI (cr_by c0 (ii - 1)), [(x, .inr (1, [.ref r, .ref r2, .ref r3])), (r, .inr (0, [.ref a, .ref b, .int (nI n)])), (a, .inl (cI, 768, .inl f)), (b, .inl (cI, 768, .inl g))], rfl, ⟨rfl, Or.inr ⟨zz, j, t0, hzz, rfl, hj, ht0, hzt, by rw [hc0]; exact (cr_ra_w0 hi1 hi2 hi3 c_42).symm⟩⟩, by rw [ht9]; exact hP, va_K.moved hW9.alike hK, hD⟩, hS.F ht9⟩) hS.2.2 dX1_row_53
          · refine lv_iconst (v := (-1)) hx hb dX1_row_39 (by decide) ?_
            exact W.iret (v := (-1)) hx hb hr (fun t9 ht9 hW9 => ⟨⟨(-1), [(x, .inr (1, [.ref r, .ref r2, .ref r3])), (r, .inr (0, [.ref a, .ref b, .int (nI n)])), (a, .inl (cI, 768, .inl f)), (b, .inl (cI, 768, .inl g))], rfl, ⟨rfl, Or.inr ⟨zz, j, t0, hzz, rfl, hj, ht0, hzt, by rw [hc0]; exact (cr_ra_neg c_23 (Or.inr (Int32.not_le.mp c_36))).symm⟩⟩, by rw [ht9]; exact hP, va_K.moved hW9.alike hK, hD⟩, hS.F ht9⟩) hS.2.2 dX1_row_40
      · refine lv_iload hx hb dX1_row_26 (lv_at hl 0 rfl) ?_
        exact W.iret (v := nI (cr_len c0)) hx hb hr (fun t9 ht9 hW9 => ⟨⟨nI (cr_len c0), [(x, .inr (1, [.ref r, .ref r2, .ref r3])), (r, .inr (0, [.ref a, .ref b, .int (nI n)])), (a, .inl (cI, 768, .inl f)), (b, .inl (cI, 768, .inl g))], rfl, ⟨rfl, Or.inr ⟨zz, j, t0, hzz, rfl, hj, ht0, hzt, by rw [hc0]; exact (cr_ra_0 c_23).symm⟩⟩, by rw [ht9]; exact hP, va_K.moved hW9.alike hK, hD⟩, hS.F ht9⟩) hS.2.2 dX1_row_28
    · exact absurd c_10 (cr_ne_m1 (by omega))

set_option maxHeartbeats 4000000 in
set_option maxRecDepth 100000 in
theorem c_takes (l : Launch) (dC : Nat → ClassId) (dI : Nat → Nat → Nat) (sz : Nat) (x r r2 r3 a b : Nat) (cI : ClassId) (n : Nat) (f g : Nat → Int32) (S : Nat → Prop) (hSet : cr_Set n f g S) (hn : n ≤ 768) (y z : Int32) : Met l yX1_takes wsX1_takes ({ frames := 4, cells := 0, slots := 0, locals := 140 }) (va_Pc [.ref x, .int y, .int z] (cr_preN dC dI [(cI, .int)] [(x, .inr (1, [.ref r, .ref r2, .ref r3])), (r, .inr (0, [.ref a, .ref b, .int (nI n)])), (a, .inl (cI, 768, .inl f)), (b, .inl (cI, 768, .inl g))] sz)) (va_Qi (fun (rr : Int32) (u : va_W) => u = [(x, .inr (1, [.ref r, .ref r2, .ref r3])), (r, .inr (0, [.ref a, .ref b, .int (nI n)])), (a, .inl (cI, 768, .inl f)), (b, .inl (cI, 768, .inl g))] ∧ cr_zb rr (cr_Tk S y z)) (cr_at dC dI [(cI, .int)] (va_A [(x, .inr (1, [.ref r, .ref r2, .ref r3])), (r, .inr (0, [.ref a, .ref b, .int (nI n)])), (a, .inl (cI, 768, .inl f)), (b, .inl (cI, 768, .inl g))] sz)) (va_A [(x, .inr (1, [.ref r, .ref r2, .ref r3])), (r, .inr (0, [.ref a, .ref b, .int (nI n)])), (a, .inl (cI, 768, .inl f)), (b, .inl (cI, 768, .inl g))] sz)) 0 0 (va_A [(x, .inr (1, [.ref r, .ref r2, .ref r3])), (r, .inr (0, [.ref a, .ref b, .int (nI n)])), (a, .inl (cI, 768, .inl f)), (b, .inl (cI, 768, .inl g))] sz) := by
  refine Met.ofW (cc := cX1_takes) (maxL := 4) (ret := (some .boolean)) (by decide) rfl ?_
  intro p e s m args below meth c s₁ B hml hv
  obtain ⟨rfl, ⟨hsz, hP, hK, hD0⟩, hN⟩ := hv
  have hx := B.exec
  have hb := B.bytes
  have hr := B.returns
  have hts := atoms_spec (ws := wsX1_takes) B.pre
  have hown : s.vm.findClass RX1 = some m.cls := findClass_of_methodNamed B.named
  have hlocks := B.notSynchronized
  subst hsz
  have hD := hD0.self (sz := s.heap.size)
  generalize hAe : va_A [(x, .inr (1, [.ref r, .ref r2, .ref r3])), (r, .inr (0, [.ref a, .ref b, .int (nI n)])), (a, .inl (cI, 768, .inl f)), (b, .inl (cI, 768, .inl g))] s.heap.size = A at hD ⊢
  have hA : ∀ q : Nat, s.heap.size ≤ q → A q := fun q h => by rw [← hAe]; exact Or.inr h
  have hS : va_S A s.heap s.heap [] := va_S.rf
  have hP : va_P (dC, dI) crCl [(x, .inr (1, [.ref r, .ref r2, .ref r3])), (r, .inr (0, [.ref a, .ref b, .int (nI n)])), (a, .inl (cI, 768, .inl f)), (b, .inl (cI, 768, .inl g))] s.heap := hP
  have hl := lv_entry ([.ref x, .int y, .int z]) (n := 4) (Nat.le_of_ble_eq_true rfl)
  rw [lg_entry_eq]
  generalize (lg_sl ([.ref x, .int y, .int z]) ++ List.replicate (4 - (lg_sl ([.ref x, .int y, .int z])).length) Slot.unset).toArray = ls at hl ⊢
  have hl : lv_has ls 4 [(0, .ref x), (1, .int y), (2, .int z)] := hl
  refine lv_iload_n hx hb dX1_takes_0 rfl (lv_at hl 2 rfl) ?_
  refine lv_iconst (v := nI 1) hx hb dX1_takes_1 (by decide) ?_
  refine lv_icmp_lt (tgt := 10) hx hb dX1_takes_2 (by decide) (fun c_2 => ?_) (fun c_2 => ?_)
  · refine lv_iconst (v := nI 0) hx hb dX1_takes_10 (by decide) ?_
    exact W.zret (v := nI 0) (ty := .boolean) hx hb hr (by first | rfl | decide) (fun t9 ht9 hW9 => ⟨⟨nI 0, [(x, .inr (1, [.ref r, .ref r2, .ref r3])), (r, .inr (0, [.ref a, .ref b, .int (nI n)])), (a, .inl (cI, 768, .inl f)), (b, .inl (cI, 768, .inl g))], rfl, ⟨rfl, Or.inr ⟨rfl, cr_Tk_out (by rw [Int32.lt_iff_toInt_lt, nI_toInt (by decide)] at c_2; omega)⟩⟩, by rw [ht9]; exact hP, va_K.moved hW9.alike hK, hD⟩, hS.F ht9⟩) hS.2.2 dX1_takes_11
  · refine lv_iload_n hx hb dX1_takes_5 rfl (lv_at hl 2 rfl) ?_
    refine lv_iconst (v := nI 4) hx hb dX1_takes_6 (by decide) ?_
    refine lv_icmp_le (tgt := 12) hx hb dX1_takes_7 (by decide) (fun c_7 => ?_) (fun c_7 => ?_)
    · rw [Int32.lt_iff_toInt_lt, nI_toInt (by decide)] at c_2
      rw [Int32.le_iff_toInt_le, nI_toInt (by decide)] at c_7
      obtain ⟨zz, hzz, rfl⟩ := cr_of (x := z) (by omega)
      rw [nI_toInt hzz] at c_2 c_7
      have hz1 : 1 ≤ zz := by omega
      have hz2 : zz ≤ 4 := by omega
      have hdl := cr_dec_lt y zz
      refine lv_iload_n hx hb dX1_takes_12 rfl (lv_at hl 1 rfl) ?_
      refine lv_iload_n hx hb dX1_takes_13 rfl (lv_at hl 2 rfl) ?_
      have hPc := hP.sub (ws' := []) [] rfl
      have hDc := hD.sub (ws' := []) [] (by decide) rfl
      have hFc := va_free (wc := []) hD hS hA [] rfl
      refine va_calli (va_runS (As := [.int y, .int (nI zz)]) (rest := []) ⟨hx, hb, hml, hown, hts⟩ (c_decode l dC dI _ y zz hz1 hz2) (va_cwS 2 hts gX1_takes_X1_decode rfl rfl rfl (by decide +kernel) ⟨Nat.le_of_ble_eq_true rfl, Nat.le_of_ble_eq_true rfl⟩) (cr_preS hPc (hK.sub (tys' := []) [] rfl) hDc) rfl rfl hl.1 rfl (lv_room (Nat.le_of_ble_eq_true rfl)) dX1_takes_14 ⟨Nat.zero_le _, Nat.zero_le _⟩) hS (fun q _ h => hFc q h) hFc (fun r_14 u_14 t_14 H_14 locs ht_14 hvm_14 hw_14 hB_14 hz_14 hk_14 hS => ?_)
      obtain ⟨rfl, rfl⟩ := hw_14
      obtain ⟨hP, hD⟩ := cr_back (wr := [(x, .inr (1, [.ref r, .ref r2, .ref r3])), (r, .inr (0, [.ref a, .ref b, .int (nI n)])), (a, .inl (cI, 768, .inl f)), (b, .inl (cI, 768, .inl g))]) (w1 := []) hP hD [] [0, 1, 2, 3] rfl rfl (by decide) (by decide) hk_14 hFc hB_14 ht_14
      clear hPc hDc hFc
      generalize H_14 = H at hP hS ⊢
      have hP := hP.sub (ws' := [(x, .inr (1, [.ref r, .ref r2, .ref r3])), (r, .inr (0, [.ref a, .ref b, .int (nI n)])), (a, .inl (cI, 768, .inl f)), (b, .inl (cI, 768, .inl g))]) [0, 1, 2, 3] rfl
      have hD := hD.sub (ws' := [(x, .inr (1, [.ref r, .ref r2, .ref r3])), (r, .inr (0, [.ref a, .ref b, .int (nI n)])), (a, .inl (cI, 768, .inl f)), (b, .inl (cI, 768, .inl g))]) [0, 1, 2, 3] (by decide) rfl
      refine lv_istore_n (lv' := [(3, .int (nI (cr_dec y zz))), (0, .ref x), (1, .int y), (2, .int (nI zz))]) hx hb dX1_takes_17 rfl hl (by decide) rfl (fun ls hl => ?_)
      refine lv_aload_n hx hb dX1_takes_18 rfl (lv_at hl 1 rfl) ?_
      refine va_get (D := (dC, dI)) (ci := 1) (v := .ref r) (C := RX1) (T := TX1) (N := 3) hx hb hts (by decide +kernel) hown hK hP 0 rfl rfl 0 (by decide) (hts (.fieldLink RX1 10 "CharRows" "held" "LCharRows$Ranges;") (by decide +kernel)) (fun _ h9 => h9) rfl dX1_takes_19 ?_
      refine lv_iload_n hx hb dX1_takes_22 rfl (lv_at hl 0 rfl) ?_
      have hPc := hP.sub (ws' := [(r, .inr (0, [.ref a, .ref b, .int (nI n)])), (a, .inl (cI, 768, .inl f)), (b, .inl (cI, 768, .inl g))]) [1, 2, 3] rfl
      have hDc := hD.sub (ws' := [(r, .inr (0, [.ref a, .ref b, .int (nI n)])), (a, .inl (cI, 768, .inl f)), (b, .inl (cI, 768, .inl g))]) [1, 2, 3] (by decide) rfl
      have hFc := va_free (wc := [(r, .inr (0, [.ref a, .ref b, .int (nI n)])), (a, .inl (cI, 768, .inl f)), (b, .inl (cI, 768, .inl g))]) hD hS hA [1, 2, 3] rfl
      refine va_calli (va_runVN (As := [.int (nI (cr_dec y zz))]) (rest := []) ⟨hx, hb, hml, hown, hts⟩ (c_holds l dC dI _ r a b cI n f g S hSet hn (nI (cr_dec y zz))) (⟨va_cnB (host := "CharRows") 1 hts gX1_takes_X0_holds_n62 rfl rfl rfl (hN _ nw_62) (hts (.initialized RX0) (by decide +kernel)) (by decide +kernel) ⟨Nat.le_of_ble_eq_true rfl, Nat.le_of_ble_eq_true rfl⟩, hts (.instanceMethod yX0_holds) (by decide +kernel), hts (.selects RX0 yX0_holds yX0_holds) (by decide +kernel)⟩) (cr_preV hPc hK hDc (ci := 0) (q0 := 0) rfl rfl) rfl rfl hl.1 rfl (lv_room (Nat.le_of_ble_eq_true rfl)) dX1_takes_23 ⟨Nat.zero_le _, Nat.zero_le _⟩) hS (fun q _ h => hFc q h) hFc (fun r_23 u_23 t_23 H_23 locs ht_23 hvm_23 hw_23 hB_23 hz_23 hk_23 hS => ?_)
      obtain ⟨rfl, hz_23⟩ := hw_23
      rw [cr_Hs_big hSet (by omega)] at hz_23
      obtain ⟨hP, hD⟩ := cr_back (wr := [(x, .inr (1, [.ref r, .ref r2, .ref r3]))]) (w1 := [(r, .inr (0, [.ref a, .ref b, .int (nI n)])), (a, .inl (cI, 768, .inl f)), (b, .inl (cI, 768, .inl g))]) hP hD [1, 2, 3] [0] rfl rfl (by decide) (by decide) hk_23 hFc hB_23 ht_23
      clear hPc hDc hFc
      generalize H_23 = H at hP hS ⊢
      have hP := hP.sub (ws' := [(x, .inr (1, [.ref r, .ref r2, .ref r3])), (r, .inr (0, [.ref a, .ref b, .int (nI n)])), (a, .inl (cI, 768, .inl f)), (b, .inl (cI, 768, .inl g))]) [0, 1, 2, 3] rfl
      have hD := hD.sub (ws' := [(x, .inr (1, [.ref r, .ref r2, .ref r3])), (r, .inr (0, [.ref a, .ref b, .int (nI n)])), (a, .inl (cI, 768, .inl f)), (b, .inl (cI, 768, .inl g))]) [0, 1, 2, 3] (by decide) rfl
      rcases hz_23 with ⟨rfl, hA1⟩ | ⟨rfl, hA1⟩
      · refine lv_if_eq (tgt := 50) hx hb dX1_takes_26 (by decide) (fun c_26 => ?_) (fun c_26 => ?_)
        · exact absurd c_26 (by decide)
        · refine lv_iload_n hx hb dX1_takes_29 rfl (lv_at hl 0 rfl) ?_
          have hPc := hP.sub (ws' := []) [] rfl
          have hDc := hD.sub (ws' := []) [] (by decide) rfl
          have hFc := va_free (wc := []) hD hS hA [] rfl
          refine va_calli (va_runS (As := [.int (nI (cr_dec y zz))]) (rest := []) ⟨hx, hb, hml, hown, hts⟩ (c_byteCount l dC dI _ (cr_dec y zz) (by omega)) (va_cwS 1 hts gX1_takes_X1_byteCount rfl rfl rfl (by decide +kernel) ⟨Nat.le_of_ble_eq_true rfl, Nat.le_of_ble_eq_true rfl⟩) (cr_preS hPc (hK.sub (tys' := []) [] rfl) hDc) rfl rfl hl.1 rfl (lv_room (Nat.le_of_ble_eq_true rfl)) dX1_takes_30 ⟨Nat.zero_le _, Nat.zero_le _⟩) hS (fun q _ h => hFc q h) hFc (fun r_30 u_30 t_30 H_30 locs ht_30 hvm_30 hw_30 hB_30 hz_30 hk_30 hS => ?_)
          obtain ⟨rfl, rfl⟩ := hw_30
          obtain ⟨hP, hD⟩ := cr_back (wr := [(x, .inr (1, [.ref r, .ref r2, .ref r3])), (r, .inr (0, [.ref a, .ref b, .int (nI n)])), (a, .inl (cI, 768, .inl f)), (b, .inl (cI, 768, .inl g))]) (w1 := []) hP hD [] [0, 1, 2, 3] rfl rfl (by decide) (by decide) hk_30 hFc hB_30 ht_30
          clear hPc hDc hFc
          generalize H_30 = H at hP hS ⊢
          have hP := hP.sub (ws' := [(x, .inr (1, [.ref r, .ref r2, .ref r3])), (r, .inr (0, [.ref a, .ref b, .int (nI n)])), (a, .inl (cI, 768, .inl f)), (b, .inl (cI, 768, .inl g))]) [0, 1, 2, 3] rfl
          have hD := hD.sub (ws' := [(x, .inr (1, [.ref r, .ref r2, .ref r3])), (r, .inr (0, [.ref a, .ref b, .int (nI n)])), (a, .inl (cI, 768, .inl f)), (b, .inl (cI, 768, .inl g))]) [0, 1, 2, 3] (by decide) rfl
          refine lv_iload_n hx hb dX1_takes_33 rfl (lv_at hl 3 rfl) ?_
          refine lv_icmp_ne (tgt := 50) hx hb dX1_takes_34 (by decide) (fun c_34 => ?_) (fun c_34 => ?_)
          · have hlen := cr_len_in (cr_dec y zz)
            rw [nI_eq (by omega) (by omega)] at c_34
            refine lv_iconst (v := nI 0) hx hb dX1_takes_50 (by decide) ?_
            exact W.zret (v := nI 0) (ty := .boolean) hx hb hr (by first | rfl | decide) (fun t9 ht9 hW9 => ⟨⟨nI 0, [(x, .inr (1, [.ref r, .ref r2, .ref r3])), (r, .inr (0, [.ref a, .ref b, .int (nI n)])), (a, .inl (cI, 768, .inl f)), (b, .inl (cI, 768, .inl g))], rfl, ⟨rfl, Or.inr ⟨rfl, fun h => c_34 (cr_Tk_len hSet hz1 hz2 h)⟩⟩, by rw [ht9]; exact hP, va_K.moved hW9.alike hK, hD⟩, hS.F ht9⟩) hS.2.2 dX1_takes_51
          · have hlen := cr_len_in (cr_dec y zz)
            rw [nI_eq (by omega) (by omega)] at c_34
            have hcl := (hSet.char hA1).1
            refine lv_iload_n hx hb dX1_takes_37 rfl (lv_at hl 0 rfl) ?_
            refine lv_iload_n hx hb dX1_takes_38 rfl (lv_at hl 2 rfl) ?_
            refine lv_iload_n hx hb dX1_takes_39 rfl (lv_at hl 3 rfl) ?_
            have hPc := hP.sub (ws' := []) [] rfl
            have hDc := hD.sub (ws' := []) [] (by decide) rfl
            have hFc := va_free (wc := []) hD hS hA [] rfl
            refine va_calli (va_runS (As := [.int (nI (cr_dec y zz)), .int y, .int (nI zz)]) (rest := []) ⟨hx, hb, hml, hown, hts⟩ (c_startsWithBytesOf l dC dI _ (cr_dec y zz) y zz c_34 hcl) (va_cwS 3 hts gX1_takes_X1_startsWithBytesOf rfl rfl rfl (by decide +kernel) ⟨Nat.le_of_ble_eq_true rfl, Nat.le_of_ble_eq_true rfl⟩) (cr_preS hPc (hK.sub (tys' := []) [] rfl) hDc) rfl rfl hl.1 rfl (lv_room (Nat.le_of_ble_eq_true rfl)) dX1_takes_40 ⟨Nat.zero_le _, Nat.zero_le _⟩) hS (fun q _ h => hFc q h) hFc (fun r_40 u_40 t_40 H_40 locs ht_40 hvm_40 hw_40 hB_40 hz_40 hk_40 hS => ?_)
            obtain ⟨rfl, hz_40⟩ := hw_40
            obtain ⟨hP, hD⟩ := cr_back (wr := [(x, .inr (1, [.ref r, .ref r2, .ref r3])), (r, .inr (0, [.ref a, .ref b, .int (nI n)])), (a, .inl (cI, 768, .inl f)), (b, .inl (cI, 768, .inl g))]) (w1 := []) hP hD [] [0, 1, 2, 3] rfl rfl (by decide) (by decide) hk_40 hFc hB_40 ht_40
            clear hPc hDc hFc
            generalize H_40 = H at hP hS ⊢
            have hP := hP.sub (ws' := [(x, .inr (1, [.ref r, .ref r2, .ref r3])), (r, .inr (0, [.ref a, .ref b, .int (nI n)])), (a, .inl (cI, 768, .inl f)), (b, .inl (cI, 768, .inl g))]) [0, 1, 2, 3] rfl
            have hD := hD.sub (ws' := [(x, .inr (1, [.ref r, .ref r2, .ref r3])), (r, .inr (0, [.ref a, .ref b, .int (nI n)])), (a, .inl (cI, 768, .inl f)), (b, .inl (cI, 768, .inl g))]) [0, 1, 2, 3] (by decide) rfl
            rcases hz_40 with ⟨rfl, hA2⟩ | ⟨rfl, hA2⟩
            · refine lv_if_eq (tgt := 50) hx hb dX1_takes_43 (by decide) (fun c_43 => ?_) (fun c_43 => ?_)
              · exact absurd c_43 (by decide)
              · refine lv_iconst (v := nI 1) hx hb dX1_takes_46 (by decide) ?_
                refine lv_goto (tgt := 51) hx hb dX1_takes_47 (by decide) ?_
                exact W.zret (v := nI 1) (ty := .boolean) hx hb hr (by first | rfl | decide) (fun t9 ht9 hW9 => ⟨⟨nI 1, [(x, .inr (1, [.ref r, .ref r2, .ref r3])), (r, .inr (0, [.ref a, .ref b, .int (nI n)])), (a, .inl (cI, 768, .inl f)), (b, .inl (cI, 768, .inl g))], rfl, ⟨rfl, Or.inl ⟨rfl, ⟨zz, _, rfl, hz1, hz2, hA1, c_34, hA2⟩⟩⟩, by rw [ht9]; exact hP, va_K.moved hW9.alike hK, hD⟩, hS.F ht9⟩) hS.2.2 dX1_takes_51
            · refine lv_if_eq (tgt := 50) hx hb dX1_takes_43 (by decide) (fun c_43 => ?_) (fun c_43 => ?_)
              · refine lv_iconst (v := nI 0) hx hb dX1_takes_50 (by decide) ?_
                exact W.zret (v := nI 0) (ty := .boolean) hx hb hr (by first | rfl | decide) (fun t9 ht9 hW9 => ⟨⟨nI 0, [(x, .inr (1, [.ref r, .ref r2, .ref r3])), (r, .inr (0, [.ref a, .ref b, .int (nI n)])), (a, .inl (cI, 768, .inl f)), (b, .inl (cI, 768, .inl g))], rfl, ⟨rfl, Or.inr ⟨rfl, fun h => hA2 (cr_Tk_by hSet hz1 hz2 h)⟩⟩, by rw [ht9]; exact hP, va_K.moved hW9.alike hK, hD⟩, hS.F ht9⟩) hS.2.2 dX1_takes_51
              · exact absurd (by decide) c_43
      · refine lv_if_eq (tgt := 50) hx hb dX1_takes_26 (by decide) (fun c_26 => ?_) (fun c_26 => ?_)
        · refine lv_iconst (v := nI 0) hx hb dX1_takes_50 (by decide) ?_
          exact W.zret (v := nI 0) (ty := .boolean) hx hb hr (by first | rfl | decide) (fun t9 ht9 hW9 => ⟨⟨nI 0, [(x, .inr (1, [.ref r, .ref r2, .ref r3])), (r, .inr (0, [.ref a, .ref b, .int (nI n)])), (a, .inl (cI, 768, .inl f)), (b, .inl (cI, 768, .inl g))], rfl, ⟨rfl, Or.inr ⟨rfl, fun h => hA1 (cr_Tk_S hSet hz1 hz2 h)⟩⟩, by rw [ht9]; exact hP, va_K.moved hW9.alike hK, hD⟩, hS.F ht9⟩) hS.2.2 dX1_takes_51
        · exact absurd (by decide) c_26
    · refine lv_iconst (v := nI 0) hx hb dX1_takes_10 (by decide) ?_
      exact W.zret (v := nI 0) (ty := .boolean) hx hb hr (by first | rfl | decide) (fun t9 ht9 hW9 => ⟨⟨nI 0, [(x, .inr (1, [.ref r, .ref r2, .ref r3])), (r, .inr (0, [.ref a, .ref b, .int (nI n)])), (a, .inl (cI, 768, .inl f)), (b, .inl (cI, 768, .inl g))], rfl, ⟨rfl, Or.inr ⟨rfl, cr_Tk_out (by rw [Int32.le_iff_toInt_le, nI_toInt (by decide)] at c_7; omega)⟩⟩, by rw [ht9]; exact hP, va_K.moved hW9.alike hK, hD⟩, hS.F ht9⟩) hS.2.2 dX1_takes_11
end
