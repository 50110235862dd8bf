-- ===== PART A: goes FIRST, ahead of the names: the tables' words, and 'selects' of the private methods out of them =====
/-- a private method of a class that the tables say can be made, by its rows of tables_1 -/
def lw_okq (q : MethodName × Nat) : Prop := (q.1.cls ≠ "java/lang/invoke/MethodHandle" ∧ q.1.cls ≠ "java/lang/invoke/VarHandle") ∧ Cond.instantiable q.1.cls q.2 ∈ tables_1 ∧ Cond.privateMethod q.1 ∈ tables_1 ∧ Cond.instanceMethod q.1 ∈ tables_1
theorem lw_p0 : lw_okq (⟨"java/lang/Throwable", "fillInStackTrace", "(I)Ljava/lang/Throwable;"⟩, 6) := ⟨⟨by decide +kernel, by decide +kernel⟩, List.mem_of_getElem? (i := 213) (by decide +kernel), List.mem_of_getElem? (i := 211) (by decide +kernel), List.mem_of_getElem? (i := 212) (by decide +kernel)⟩
theorem lw_p1 : lw_okq (⟨"NimberField", "replace", "(II)I"⟩, 8) := ⟨⟨by decide +kernel, by decide +kernel⟩, List.mem_of_getElem? (i := 16) (by decide +kernel), List.mem_of_getElem? (i := 292) (by decide +kernel), List.mem_of_getElem? (i := 293) (by decide +kernel)⟩
theorem lw_p2 : lw_okq (⟨"NimberField", "requireValidProgram", "()V"⟩, 8) := ⟨⟨by decide +kernel, by decide +kernel⟩, List.mem_of_getElem? (i := 16) (by decide +kernel), List.mem_of_getElem? (i := 429) (by decide +kernel), List.mem_of_getElem? (i := 430) (by decide +kernel)⟩
theorem lw_p3 : lw_okq (⟨"NimberField$Program", "readTarget", "(LNimberField$Step;)Z"⟩, 5) := ⟨⟨by decide +kernel, by decide +kernel⟩, List.mem_of_getElem? (i := 56) (by decide +kernel), List.mem_of_getElem? (i := 437) (by decide +kernel), List.mem_of_getElem? (i := 438) (by decide +kernel)⟩
theorem lw_p4 : lw_okq (⟨"NimberField$Program", "readRegister", "()I"⟩, 5) := ⟨⟨by decide +kernel, by decide +kernel⟩, List.mem_of_getElem? (i := 56) (by decide +kernel), List.mem_of_getElem? (i := 441) (by decide +kernel), List.mem_of_getElem? (i := 442) (by decide +kernel)⟩
theorem lw_p5 : lw_okq (⟨"NimberField$Program", "current", "()C"⟩, 5) := ⟨⟨by decide +kernel, by decide +kernel⟩, List.mem_of_getElem? (i := 56) (by decide +kernel), List.mem_of_getElem? (i := 445) (by decide +kernel), List.mem_of_getElem? (i := 446) (by decide +kernel)⟩
theorem lw_p6 : lw_okq (⟨"NimberField$Program", "skip", "(C)Z"⟩, 5) := ⟨⟨by decide +kernel, by decide +kernel⟩, List.mem_of_getElem? (i := 56) (by decide +kernel), List.mem_of_getElem? (i := 453) (by decide +kernel), List.mem_of_getElem? (i := 454) (by decide +kernel)⟩
theorem lw_p7 : lw_okq (⟨"NimberField$Program", "readRightSide", "(LNimberField$Step;)Z"⟩, 5) := ⟨⟨by decide +kernel, by decide +kernel⟩, List.mem_of_getElem? (i := 56) (by decide +kernel), List.mem_of_getElem? (i := 457) (by decide +kernel), List.mem_of_getElem? (i := 458) (by decide +kernel)⟩
theorem lw_p8 : lw_okq (⟨"NimberField$Program", "readOperand", "()I"⟩, 5) := ⟨⟨by decide +kernel, by decide +kernel⟩, List.mem_of_getElem? (i := 56) (by decide +kernel), List.mem_of_getElem? (i := 461) (by decide +kernel), List.mem_of_getElem? (i := 462) (by decide +kernel)⟩
theorem lw_p9 : lw_okq (⟨"NimberField$Program", "readNumber", "()I"⟩, 5) := ⟨⟨by decide +kernel, by decide +kernel⟩, List.mem_of_getElem? (i := 56) (by decide +kernel), List.mem_of_getElem? (i := 465) (by decide +kernel), List.mem_of_getElem? (i := 466) (by decide +kernel)⟩
theorem lw_p10 : lw_okq (⟨"NimberField", "tryProgram", "()I"⟩, 8) := ⟨⟨by decide +kernel, by decide +kernel⟩, List.mem_of_getElem? (i := 16) (by decide +kernel), List.mem_of_getElem? (i := 479) (by decide +kernel), List.mem_of_getElem? (i := 480) (by decide +kernel)⟩
theorem lw_p11 : lw_okq (⟨"NimberField$Step", "resultOf", "(IILNimberField$Nimbers;)I"⟩, 4) := ⟨⟨by decide +kernel, by decide +kernel⟩, List.mem_of_getElem? (i := 63) (by decide +kernel), List.mem_of_getElem? (i := 497) (by decide +kernel), List.mem_of_getElem? (i := 498) (by decide +kernel)⟩
def lw_privs_1 : List (MethodName × Nat) := [(⟨"java/lang/Throwable", "fillInStackTrace", "(I)Ljava/lang/Throwable;"⟩, 6), (⟨"NimberField", "replace", "(II)I"⟩, 8), (⟨"NimberField", "requireValidProgram", "()V"⟩, 8), (⟨"NimberField$Program", "readTarget", "(LNimberField$Step;)Z"⟩, 5), (⟨"NimberField$Program", "readRegister", "()I"⟩, 5), (⟨"NimberField$Program", "current", "()C"⟩, 5), (⟨"NimberField$Program", "skip", "(C)Z"⟩, 5), (⟨"NimberField$Program", "readRightSide", "(LNimberField$Step;)Z"⟩, 5), (⟨"NimberField$Program", "readOperand", "()I"⟩, 5), (⟨"NimberField$Program", "readNumber", "()I"⟩, 5), (⟨"NimberField", "tryProgram", "()I"⟩, 8), (⟨"NimberField$Step", "resultOf", "(IILNimberField$Nimbers;)I"⟩, 4)]
theorem lw_r1 : ∀ q ∈ lw_privs_1, lw_okq q := List.forall_mem_cons.mpr ⟨lw_p0, List.forall_mem_cons.mpr ⟨lw_p1, List.forall_mem_cons.mpr ⟨lw_p2, List.forall_mem_cons.mpr ⟨lw_p3, List.forall_mem_cons.mpr ⟨lw_p4, List.forall_mem_cons.mpr ⟨lw_p5, List.forall_mem_cons.mpr ⟨lw_p6, List.forall_mem_cons.mpr ⟨lw_p7, List.forall_mem_cons.mpr ⟨lw_p8, List.forall_mem_cons.mpr ⟨lw_p9, List.forall_mem_cons.mpr ⟨lw_p10, List.forall_mem_cons.mpr ⟨lw_p11, fun _ h => absurd h List.not_mem_nil⟩⟩⟩⟩⟩⟩⟩⟩⟩⟩⟩⟩
def lw_privs : List (MethodName × Nat) := lw_privs_1
def lw_tbl : List Cond := k2_sels lw_privs ++ tables_1
theorem lw_privs_ok : ∀ q ∈ lw_privs, lw_okq q := lw_r1
/-! ===== BEGIN words of one list among another's, by their places ===== -/
theorem goodIn_r {big : List Cond} (ws : List Cond) (ps : List Nat) (hp : ws = ps.filterMap (fun i => big[i]?)) (h : ws.all goodWord = true) : GoodIn big ws := by
  intro w hw
  have h1 := List.all_eq_true.mp h w hw
  rw [hp] at hw
  obtain ⟨i, -, hi⟩ := List.mem_filterMap.mp hw
  have hm : w ∈ big := by first | exact List.mem_of_getElem? hi | exact List.getElem?_mem hi
  exact ⟨hm, good_of_word h1⟩
theorem goodIn_app {big a b : List Cond} (ha : GoodIn big a) (hb : GoodIn big b) : GoodIn big (a ++ b) := fun w h => (List.mem_append.mp h).elim (ha w) (hb w)
theorem goodIn_ca {big a b : List Cond} {c : Cond} (ha : GoodIn big (c :: a)) (hb : GoodIn big b) : GoodIn big (c :: (a ++ b)) := fun w h => (List.mem_cons.mp h).elim (fun e => ha w (List.mem_cons.mpr (Or.inl e))) (fun h => (List.mem_append.mp h).elim (fun h => ha w (List.mem_cons.mpr (Or.inr h))) (hb w))
theorem goodIn_sub {big ws : List Cond} (hm : ∀ w ∈ ws, w ∈ big) (h : ws.all goodWord = true) : GoodIn big ws := fun w hw => ⟨hm w hw, good_of_word (List.all_eq_true.mp h w hw)⟩
/-! ===== END ===== -/

/-! ===== BEGIN exceptions that leave a method, and their catching by the caller (launches without stack traces) ===== -/
section VXA
/-! The laws vx_back, vx_callV, vx_callS, vx_callSW, vx_throw0, vx_throwS follow proofs of the library, with one case more: JvmDerived/Free/Laws.lean (Back.of_free), Shelf42/LK1.lean (callV, callS), Shelf/KitTraced.lean (throwNew0V, throwNewS). -/
/-- where a method has thrown q: the class by its name, the cell, what was written, the world -/
def vx_T (XC : String → State → State → Prop) (st : State) (q : Addr) (t : State) (mc ms : Nat) (free : Addr → Prop) : Prop :=
  ∃ (E : String) (ce : Cell) (L : List Loc), XC E st t ∧ t.heap[q]? = some ce ∧ ce.vm = .none ∧ st.vm.findClass E = some ce.cls ∧ st.WarmedH t.vm ∧ st.sameButNew ({ t with vm := st.vm } : State) L mc ms ∧ ∀ z ∈ L, free z.base
def vx_Q (Qc : Array Value → State → Outcome → State → Prop) (XC : String → State → State → Prop) (mc ms : Nat) (free : Addr → Prop) : Array Value → State → Outcome → State → Prop := fun a st o t =>
  (Qc a st o t ∧ ∃ L, FrameEnd st o t L mc ms ∧ ∀ q ∈ L, free q.base) ∨ ∃ q, o = .threw q ∧ vx_T XC st q t mc ms free
/-- a callee that returns or throws -/
def vx_Met (l : Launch) (y : MethodName) (ws : List Cond) (rm : Room) (Pc : Array Value → State → Prop) (Qc : Array Value → State → Outcome → State → Prop) (XC : String → State → State → Prop) (mc ms : Nat) (free : Addr → Prop) : Prop :=
  MetFree l y (headSpec ws rm) Pc (fun _ _ _ _ _ => True) (vx_Q Qc XC mc ms free)
def vx_Post (XC : String → State → State → Prop) (mc ms : Nat) (free : Addr → Prop) : Pt → Array Value → Addr → Pt → Prop := fun A a q B =>
  ∃ (g : JFrame) (mk : MethodId) (t : State) (L : List Loc) (E : String) (ce : Cell), B.U.heap = t.heap ∧ B.U.vm = t.vm ∧ XC E (A.U.calling g mk a) t ∧ t.heap[q]? = some ce ∧ ce.vm = .none ∧ A.U.vm.findClass E = some ce.cls ∧ B.locs = A.locs ++ L ∧ (∀ z ∈ L, free z.base) ∧ B.cells = A.cells + mc ∧ B.slots = A.slots + ms
def vx_Back (l : Launch) (R : Room) (p : Program) (e : Env) (below : List Frame) (s : State) (sargs : Array Value) (y : MethodName) (len W9 : Nat)
    (Pre : Pt → Array Value → Prop) (Post : Pt → Array Value → Option Value → Pt → Prop) (PostX : Pt → Array Value → Addr → Pt → Prop) : Prop :=
  ∀ (m : MethodId) (meth : Method) (c : Code) (A : Pt) (g : JFrame) (ig : Instr) (mk : MethodId) (a : Array Value),
    Stand p l e R s m sargs below meth c A.U A.locs A.cells A.slots → g.method = m → g.locals.size = c.maxLocals → decode c.code g.pc = .ok (ig, len) →
    2 * g.monitorRoom + (g.stack.map fun v => v.category).sum ≤ W9 → A.U.methodNamed? y = some mk → Pre A a →
    (∃ (v : Option Value) (B : Pt), Stand p l e R s m sargs below meth c B.U B.locs B.cells B.slots ∧ Post A a v B ∧
      Steps p.tables e below (doInvoke e (A.U.setTop g) [] mk a).1 (B.U.setTop { g with pc := g.pc + len, stack := v.toList ++ g.stack })) ∨
    (∃ (q : Addr) (B : Pt), Stand p l e R s m sargs below meth c B.U B.locs B.cells B.slots ∧ PostX A a q B ∧
      Steps p.tables e below (doInvoke e (A.U.setTop g) [] mk a).1 ((B.U.setTop g).pushFrame (.throwing q)))
section Payer
variable {l : Launch} {R : Room} {p : Program} {e : Env} {below : List Frame} {s : State} {sargs : Array Value} {y : MethodName} {len W9 : Nat}
theorem vx_back {ws : List Cond} {rm : Room} {Pc : Array Value → State → Prop} {Qc : Array Value → State → Outcome → State → Prop} {XC : String → State → State → Prop} {mc ms : Nat} {free : Addr → Prop} {bytes : ByteArray} {maxL : Nat} {ret : Option FieldType}
    (hM : vx_Met l y ws rm Pc Qc XC mc ms free) (hblind : FrameBlind Pc) (hrc : rm.cells = mc) (hrs : rm.slots = ms)
    (hframes : rm.frames + 1 ≤ R.frames) (hlocals : W9 + (maxL + 11) + rm.locals ≤ R.locals)
    (hws : ∀ w ∈ ws, ∀ a' U, s.WarmedH U.vm → w.before a' U = true) (hcode : Cond.code y bytes maxL ret ∈ ws) (hinit : ∀ a' U, s.WarmedH U.vm → (Cond.initialized y.cls).before a' U = true) :
    vx_Back l R p e below s sargs y len W9 (PreOf R mc ms Pc) (PostOf Qc mc ms free) (vx_Post XC mc ms free) := by
  intro m meth c A g ig mk a X hg hsize hdg hW hn hp
  have h1 : (headSpec ws rm).pre.before a A.U = true := atoms_intro fun w hw => hws w hw _ _ X.warmed
  have h2 : (Cond.code y bytes maxL ret).before a A.U = true := hws _ hcode _ _ X.warmed
  have h3 : (Cond.initialized y.cls).before a A.U = true := hinit _ _ X.warmed
  have h4 : A.cells + (headSpec ws rm).room.cells ≤ R.cells := by rw [show (headSpec ws rm).room.cells = mc from hrc]; exact hp.1
  have h5 : A.slots + (headSpec ws rm).room.slots ≤ R.slots := by rw [show (headSpec ws rm).room.slots = ms from hrs]; exact hp.2.1
  have hPc : Pc a (A.U.calling g mk a) := hblind _ _ _ _ hp.2.2
  obtain ⟨U, Ls, c0, s0⟩ := A
  dsimp only [Pt.U, Pt.locs, Pt.cells, Pt.slots] at h1 h2 h3 h4 h5 X hn hPc ⊢
  obtain ⟨methY, cY, hmY, hcY, -, hlY, -, -, -, -⟩ := Cond.code_spec hn h2
  obtain ⟨kY, hkY, -⟩ := className_of_methodNamed hn
  have hinitY : kY.init = .initialized := Cond.initialized_spec (findClass_of_methodNamed hn) hkY h3
  have h : At U g.method c below := by rw [hg]; exact X.here
  have hlocals9 : W9 + (maxL + 11) + (headSpec ws rm).room.locals ≤ R.locals := hlocals
  have happ : (headSpec ws rm).appliesLoose y e.platform (U.calling g mk a) = true :=
    Spec.appliesLoose_calling (g := g) h hdg hn hkY hinitY
      (X.room_calling (g := g) (R' := (headSpec ws rm).room) hsize hmY hcY hframes (by rw [hlY]; omega) h4 h5) h1
  obtain ⟨mid, hmid⟩ := h.above
  have hfr : (U.setTop g).frames = (.java g :: mid) ++ below := by rw [State.frames_setTop' g h.top, hmid]; rfl
  obtain ⟨o, s₂, hsteps, -, hend, hq⟩ := Steps.callFree hM p X.admits X.cas X.clock (acts := []) hfr happ hPc trivial
  have hq' : vx_Q Qc XC mc ms free a (U.calling g mk a) o s₂ := hq
  rw [State.frames_setTop' g h.top] at hend
  obtain ⟨g₀, hg0⟩ := Option.isSome_iff_exists.mp h.top
  obtain ⟨r, hr⟩ := State.topJava?_eq_some.mp hg0
  have hr' : (({ U with heap := s₂.heap, slotsUsed := s₂.slotsUsed } : State).setVm s₂.vm).frames = .java g₀ :: r := hr
  rcases hq' with ⟨hqc, L, hfe, hL⟩ | ⟨q, rfl, E, ce, L, hx, hce, hcv, hcl, hW₂, hsm, hL⟩
  · obtain ⟨⟨v, rfl⟩, hW₂, e2, q2, q3, q4, q5, q6⟩ := id hfe
    have e3 : s₂ = ({ (U.calling g mk a).setFrames s₂.frames with heap := s₂.heap, slotsUsed := s₂.slotsUsed } : State).setVm s₂.vm := by
      have : s₂ = ({ s₂ with vm := (U.calling g mk a).vm } : State).setVm s₂.vm := rfl
      rw [e2] at this
      exact this
    obtain ⟨c₂, i₂, len₂, hc₂, hd₂, hf₂⟩ := hend
    have hW' : U.WarmedH s₂.vm := hW₂
    have hcc : c₂ = c := by
      have h1 : s₂.code? g.method = U.code? g.method := by
        rw [State.code?_eq, State.code?_eq, hW'.alike.method?]
      exact Option.some.inj (hc₂.symm.trans (h1.trans h.code))
    subst hcc
    have hlen : len₂ = len := by rw [hdg] at hd₂; cases hd₂; rfl
    subst hlen
    have hs₂ : s₂ = (({ U with heap := s₂.heap, slotsUsed := s₂.slotsUsed } : State).setVm s₂.vm).setTop { g with pc := g.pc + len₂, stack := v.toList ++ g.stack } := by
      refine e3.trans ?_
      rw [hf₂, State.calling_eq h.top, State.setFrames_setFrames, State.setTop_of_frames _ hr', hr]
      rfl
    have hsame : U.sameButNew ({ U with heap := s₂.heap, slotsUsed := s₂.slotsUsed } : State) L mc ms := by
      refine ⟨?_, q2, q3, q4, q5, q6⟩
      obtain ⟨t, ht, -⟩ := State.frames_cons hr
      show ({ U with heap := s₂.heap, slotsUsed := s₂.slotsUsed } : State) = { U.setFrames U.frames with heap := s₂.heap, slotsUsed := s₂.slotsUsed }
      rw [State.setFrames_self ht]
    subst hg
    refine Or.inl ⟨v, ⟨(({ U with heap := s₂.heap, slotsUsed := s₂.slotsUsed } : State).setVm s₂.vm), Ls ++ L, c0 + mc, s0 + ms⟩,
      ⟨X.admits, X.cas, X.clock, X.frames, X.room, X.hears, X.method, X.code, (X.here.setHeapUsed s₂.heap s₂.slotsUsed).setVm hW'.alike, X.tail, State.WarmedH.trans X.warmed hW', X.limits, X.bytes, X.same.trans (hsame.setVm s.vm)⟩,
      ⟨g, mk, s₂, L, rfl, rfl, hqc, rfl, hL, rfl, rfl⟩, ?_⟩
    show Steps p.tables e below _ ((({ U with heap := s₂.heap, slotsUsed := s₂.slotsUsed } : State).setVm s₂.vm).setTop { g with pc := g.pc + len₂, stack := v.toList ++ g.stack })
    rw [← hs₂]
    exact hsteps
  · obtain ⟨e2, q2, q3, q4, q5, q6⟩ := id hsm
    have e3 : s₂ = ({ (U.calling g mk a).setFrames s₂.frames with heap := s₂.heap, slotsUsed := s₂.slotsUsed } : State).setVm s₂.vm := by
      have : s₂ = ({ s₂ with vm := (U.calling g mk a).vm } : State).setVm s₂.vm := rfl
      rw [e2] at this
      exact this
    have hf₂ : s₂.frames = .throwing q :: .java g :: U.frames.tail := hend
    have hW' : U.WarmedH s₂.vm := hW₂
    have hs₂ : s₂ = ((({ U with heap := s₂.heap, slotsUsed := s₂.slotsUsed } : State).setVm s₂.vm).setTop g).pushFrame (.throwing q) := by
      refine e3.trans ?_
      rw [hf₂, State.calling_eq h.top, State.setFrames_setFrames, State.pushFrame, State.frames_setTop _ hr', State.setTop_of_frames _ hr', State.setFrames_setFrames, hr]
      rfl
    have hsame : U.sameButNew ({ U with heap := s₂.heap, slotsUsed := s₂.slotsUsed } : State) L mc ms := by
      refine ⟨?_, q2, q3, q4, q5, q6⟩
      obtain ⟨t, ht, -⟩ := State.frames_cons hr
      show ({ U with heap := s₂.heap, slotsUsed := s₂.slotsUsed } : State) = { U.setFrames U.frames with heap := s₂.heap, slotsUsed := s₂.slotsUsed }
      rw [State.setFrames_self ht]
    subst hg
    refine Or.inr ⟨q, ⟨(({ U with heap := s₂.heap, slotsUsed := s₂.slotsUsed } : State).setVm s₂.vm), Ls ++ L, c0 + mc, s0 + ms⟩,
      ⟨X.admits, X.cas, X.clock, X.frames, X.room, X.hears, X.method, X.code, (X.here.setHeapUsed s₂.heap s₂.slotsUsed).setVm hW'.alike, X.tail, State.WarmedH.trans X.warmed hW', X.limits, X.bytes, X.same.trans (hsame.setVm s.vm)⟩,
      ⟨g, mk, s₂, L, E, ce, rfl, rfl, hx, hce, hcv, hcl, rfl, hL, rfl, rfl⟩, ?_⟩
    show Steps p.tables e below _ (((({ U with heap := s₂.heap, slotsUsed := s₂.slotsUsed } : State).setVm s₂.vm).setTop g).pushFrame (.throwing q))
    rw [← hs₂]
    exact hsteps
end Payer
section Calls
variable {p : Program} {l : Launch} {e : Env} {R : Room} {s : State} {m : MethodId} {args : Array Value} {below : List Frame} {meth : Method} {c : Code} {T : State} {locs : List Loc} {cells slots : Nat}
theorem vx_callV (X : Stand p l e R s m args below meth c T locs cells slots) (hexec : p.tables.exec = Jvm.exec) {own C : String} {index : Nat} {y : MethodName} {bytes : ByteArray} {maxL : Nat} {ret : Option FieldType}
    (hown : s.vm.findClass own = some m.cls) (hlink : (Cond.methodLink own index y).before args s = true) (hinst : (Cond.instanceMethod y).before args s = true) (hsel : (Cond.selects C y y).before args s = true)
    (hcode : (Cond.code y bytes maxL ret).before args s = true) (hy : y.cls ≠ "java/lang/invoke/MethodHandle" ∧ y.cls ≠ "java/lang/invoke/VarHandle")
    {W9 : Nat} {Pre : Pt → Array Value → Prop} {Post : Pt → Array Value → Option Value → Pt → Prop} {PostX : Pt → Array Value → Addr → Pt → Prop} (hK : vx_Back l R p e below s args y 3 W9 Pre Post PostX)
    {b : Addr} {cellB : Cell} (hcell : T.heap[b]? = some cellB) (hobj : cellB.vm.isStatics = false) (hcls : s.vm.findClass C = some cellB.cls)
    {g : JFrame} (hg : g.method = m) (hsize : g.locals.size = c.maxLocals) {argsL rest : List Value} (hlen : ∀ sig, parseMethodDescriptor y.desc = some sig → argsL.length = sig.parameters.length)
    (hstack : g.stack = argsL.reverse ++ .ref b :: rest) (hW : 2 * g.monitorRoom + (rest.map fun v => v.category).sum ≤ W9) (hdg : decode c.code g.pc = .ok (.invokevirtual index, 3))
    (hpre : ∀ vm₁, s.WarmedH vm₁ → Pre ⟨T.setVm vm₁, locs, cells, slots⟩ (Value.ref b :: argsL).toArray) :
    (∃ (v : Option Value) (vm₁ : Vm) (B : Pt), s.WarmedH vm₁ ∧ Stand p l e R s m args below meth c B.U B.locs B.cells B.slots ∧ Post ⟨T.setVm vm₁, locs, cells, slots⟩ (Value.ref b :: argsL).toArray v B ∧
      ∀ target, Steps p.tables e below (B.U.setTop { g with pc := g.pc + 3, stack := v.toList ++ rest }) target → Steps p.tables e below (T.setTop g) target) ∨
    (∃ (q : Addr) (vm₁ : Vm) (B : Pt), s.WarmedH vm₁ ∧ Stand p l e R s m args below meth c B.U B.locs B.cells B.slots ∧ PostX ⟨T.setVm vm₁, locs, cells, slots⟩ (Value.ref b :: argsL).toArray q B ∧
      Steps p.tables e below (T.setTop g) ((B.U.setTop { g with stack := rest }).pushFrame (.throwing q))) := by
  obtain ⟨mk, methM, hnamed, hmethM, hstM, habM⟩ := Cond.instanceMethod_spec hinst
  obtain ⟨methM', cM, hmethM', -, -, -, -, -, -, hsigM⟩ := Cond.code_spec hnamed hcode
  cases hmethM.symm.trans hmethM'
  obtain ⟨c2, r2, m2, q1, q2, q3, q4, kP, hkP, hkPi⟩ := Cond.selects_spec hsel
  cases hcls.symm.trans q1
  cases (State.methodFound?_of_named hnamed hy).symm.trans q2
  cases hnamed.symm.trans q3
  have hselP : selectMethod e.platform s.vm cellB.cls mk = .method mk := by rw [Launch.admits_selectMethod X.admits]; exact q4
  obtain ⟨vm₁, X₁, hstep₁⟩ := X.invokevirtual hexec hown hlink hnamed hmethM hstM hkP hkPi hy (a := b) (cell := cellB) hcell
    (fun z h => by rw [h] at hobj; cases hobj) hselP hmethM habM hkP hkPi (g := g) hg (argsL := argsL) (rest := rest) (hlen _ hsigM) hstack hdg
  rcases hK m meth c ⟨T.setVm vm₁, locs, cells, slots⟩ { g with stack := rest } (.invokevirtual index) mk (Value.ref b :: argsL).toArray X₁ hg hsize hdg hW (X₁.named hnamed) (hpre vm₁ X₁.warmed) with ⟨v, B, X', hpost, hsteps⟩ | ⟨q, B, X', hpost, hsteps⟩
  · exact Or.inl ⟨v, vm₁, B, X₁.warmed, X', hpost, fun target h => hstep₁ _ fun acts => by rw [doInvoke_state]; exact hsteps.trans h⟩
  · exact Or.inr ⟨q, vm₁, B, X₁.warmed, X', hpost, hstep₁ _ fun acts => by rw [doInvoke_state]; exact hsteps⟩
theorem vx_callS (X : Stand p l e R s m args below meth c T locs cells slots) (hexec : p.tables.exec = Jvm.exec) {own : String} {index : Nat} {y : MethodName} {bytes : ByteArray} {maxL : Nat} {ret : Option FieldType}
    (hown : s.vm.findClass own = some m.cls) (hlink : (Cond.methodLink own index y).before args s = true) (hstat : (Cond.static y).before args s = true) (hinit : (Cond.initialized y.cls).before args s = true)
    (hcode : (Cond.code y bytes maxL ret).before args s = true) (hy : y.cls ≠ "java/lang/invoke/MethodHandle" ∧ y.cls ≠ "java/lang/invoke/VarHandle")
    {W9 : Nat} {Pre : Pt → Array Value → Prop} {Post : Pt → Array Value → Option Value → Pt → Prop} {PostX : Pt → Array Value → Addr → Pt → Prop} (hK : vx_Back l R p e below s args y 3 W9 Pre Post PostX)
    {g : JFrame} (hg : g.method = m) (hsize : g.locals.size = c.maxLocals) {argsL rest : List Value} (hlen : ∀ sig, parseMethodDescriptor y.desc = some sig → argsL.length = sig.parameters.length)
    (hstack : g.stack = argsL.reverse ++ rest) (hW : 2 * g.monitorRoom + (rest.map fun v => v.category).sum ≤ W9) (hdg : decode c.code g.pc = .ok (.invokestatic index, 3))
    (hpre : ∀ vm₁, s.WarmedH vm₁ → Pre ⟨T.setVm vm₁, locs, cells, slots⟩ argsL.toArray) :
    (∃ (v : Option Value) (vm₁ : Vm) (B : Pt), s.WarmedH vm₁ ∧ Stand p l e R s m args below meth c B.U B.locs B.cells B.slots ∧ Post ⟨T.setVm vm₁, locs, cells, slots⟩ argsL.toArray v B ∧
      ∀ target, Steps p.tables e below (B.U.setTop { g with pc := g.pc + 3, stack := v.toList ++ rest }) target → Steps p.tables e below (T.setTop g) target) ∨
    (∃ (q : Addr) (vm₁ : Vm) (B : Pt), s.WarmedH vm₁ ∧ Stand p l e R s m args below meth c B.U B.locs B.cells B.slots ∧ PostX ⟨T.setVm vm₁, locs, cells, slots⟩ argsL.toArray q B ∧
      Steps p.tables e below (T.setTop g) ((B.U.setTop { g with stack := rest }).pushFrame (.throwing q))) := by
  obtain ⟨mk, hnamed⟩ := Cond.code_named hcode
  obtain ⟨methM, cM, hmethM, -, -, -, -, -, -, hsigM⟩ := Cond.code_spec hnamed hcode
  have hstatic : methM.isStatic = true := Cond.static_spec hnamed hmethM hstat
  obtain ⟨kP, hkP, -⟩ := className_of_methodNamed hnamed
  have hinitP : kP.init = .initialized := Cond.initialized_spec (findClass_of_methodNamed hnamed) hkP hinit
  obtain ⟨vm₁, X₁, hstep₁⟩ := X.invokestatic hexec hown hlink hnamed hmethM hstatic hkP hinitP hy (g := g) hg (argsL := argsL) (rest := rest) (hlen _ hsigM) hstack hdg
  rcases hK m meth c ⟨T.setVm vm₁, locs, cells, slots⟩ { g with stack := rest } (.invokestatic index) mk argsL.toArray X₁ hg hsize hdg hW (X₁.named hnamed) (hpre vm₁ X₁.warmed) with ⟨v, B, X', hpost, hsteps⟩ | ⟨q, B, X', hpost, hsteps⟩
  · exact Or.inl ⟨v, vm₁, B, X₁.warmed, X', hpost, fun target h => hstep₁ _ fun acts => by rw [doInvoke_state]; exact hsteps.trans h⟩
  · exact Or.inr ⟨q, vm₁, B, X₁.warmed, X', hpost, hstep₁ _ fun acts => by rw [doInvoke_state]; exact hsteps⟩
end Calls
theorem vx_cls {s : State} {T : State} {vm₁ : Vm} {E : String} {k : ClassId} (hW : s.WarmedH vm₁) (h : (T.setVm vm₁).vm.findClass E = some k) : s.vm.findClass E = some k := by
  have h1 : vm₁.findClass E = some k := h
  rw [hW.alike.findClass] at h1
  exact h1
/-- the method's frame g, with q thrown over it -/
def vx_W (p : Program) (l : Launch) (e : Env) (R : Room) (s : State) (m : MethodId) (args : Array Value) (below : List Frame) (meth : Method) (c : Code) (H : Heap) (locs : List Loc) (cells slots : Nat) (Q : State → Prop) (g : JFrame) (q : Addr) : Prop :=
  ∀ T : State, T.heap = H → Stand p l e R s m args below meth c T locs cells slots → ∃ t, Steps p.tables e below ((T.setTop g).pushFrame (.throwing q)) t ∧ Q t
def vx_Run (p : Program) (l : Launch) (e : Env) (R : Room) (s : State) (m : MethodId) (args : Array Value) (below : List Frame) (meth : Method) (c : Code) (H : Heap) (locs : List Loc) (cells slots mc ms : Nat) (g : JFrame) (rest : List Value) (Qa : State → Outcome → State → Prop) (XC : String → State → State → Prop) (free : Addr → Prop) : Prop :=
  ∀ T : State, T.heap = H → Stand p l e R s m args below meth c T locs cells slots →
    (∃ (v : Option Value) (st₀ t T' : State) (L : List Loc), st₀.heap = H ∧ Stand p l e R s m args below meth c T' (locs ++ L) (cells + mc) (slots + ms) ∧ (∀ q ∈ L, free q.base) ∧ T'.heap = t.heap ∧ T'.vm = t.vm ∧ Qa st₀ (.returned v) t ∧
      Goes p e below T g T' { g with pc := g.pc + 3, stack := v.toList ++ rest }) ∨
    (∃ (q : Addr) (st₀ t T' : State) (L : List Loc) (E : String) (ce : Cell), st₀.heap = H ∧ Stand p l e R s m args below meth c T' (locs ++ L) (cells + mc) (slots + ms) ∧ (∀ z ∈ L, free z.base) ∧ T'.heap = t.heap ∧ T'.vm = t.vm ∧ XC E st₀ t ∧ t.heap[q]? = some ce ∧ ce.vm = .none ∧ s.vm.findClass E = some ce.cls ∧
      Steps p.tables e below (T.setTop g) ((T'.setTop { g with stack := rest }).pushFrame (.throwing q)))
def vx_X {S : Type} (px : S → Prop) (B : String → S → State → Prop) (A : Nat → Prop) : String → State → State → Prop := fun E st t => ∃ u : S, px u ∧ B E u t ∧ va_F A st t
section Runs
variable {p : Program} {l : Launch} {e : Env} {R : Room} {s : State} {m : MethodId} {args : Array Value} {below : List Frame} {meth : Method} {c : Code} {H : Heap} {locs : List Loc} {cells slots : Nat}
variable {y : MethodName} {bytes cc : ByteArray} {maxL nL mc ms n index : Nat} {ret : Option FieldType} {ws : List Cond} {rm : Room} {Pc : Array Value → State → Prop} {Qc : Array Value → State → Outcome → State → Prop} {XC : String → State → State → Prop} {free : Addr → Prop} {Ts : List Cond} {own C : String} {b : Addr} {As rest : List Value} {g : JFrame}
theorem vx_callBack (cb : CallB R s args own index y bytes maxL ret ws rm mc ms n) (hM : vx_Met l y ws rm Pc Qc XC mc ms free) (hbl : FrameBlind Pc) : vx_Back l R p e below s args y 3 8 (PreOf R mc ms Pc) (PostOf Qc mc ms free) (vx_Post XC mc ms free) := by
  obtain ⟨hrc, hrs, hfr, hlo, hws, hcw, -, hini, -⟩ := cb
  exact vx_back (bytes := bytes) (maxL := maxL) (ret := ret) hM hbl hrc hrs hfr hlo hws hcw (fun a' U hW => word_at hW (Or.inl (by first | rfl | simp [Cond.onTables, Cond.keeps, Cond.steady])) hini)
theorem vx_runV (S : CallFix p m c cc nL s args Ts own) (hM : vx_Met l y ws rm Pc Qc XC mc ms free) (cw : CallW R s args own C index y bytes maxL ret ws rm mc ms n) (hp : PreV s H C b Pc As)
    (hg : g.method = m) (hn : As.length = n) (hsize : g.locals.size = nL) (hstack : g.stack = As.reverse ++ .ref b :: rest) (hW : 2 * g.monitorRoom + (rest.map fun v => v.category).sum ≤ 8) (hdg : decode cc g.pc = .ok (.invokevirtual index, 3)) (hf : cells + mc ≤ R.cells ∧ slots + ms ≤ R.slots) :
    vx_Run p l e R s m args below meth c H locs cells slots mc ms g rest (Qc (Value.ref b :: As).toArray) XC free := by
  have hK : vx_Back l R p e below s args y 3 8 (PreOf R mc ms Pc) (PostOf Qc mc ms free) (vx_Post XC mc ms free) := vx_callBack cw.1 hM hp.1
  obtain ⟨⟨-, -, -, -, -, -, hcode, -, hy, hlen, hl⟩, hin, hse⟩ := cw
  obtain ⟨hx, hb, hml, ho, -⟩ := S
  obtain ⟨-, ⟨cellB, hcB, hoB, hclB⟩, hPc⟩ := hp
  intro T hT X
  rcases vx_callV X hx (C := C) (bytes := bytes) (maxL := maxL) (ret := ret) ho hl hin hse hcode hy hK (by rw [hT]; exact hcB) hoB hclB hg (hsize.trans hml.symm) (argsL := As) (rest := rest) (fun sig h => hn.trans (hlen sig h)) hstack hW (by rw [hb]; exact hdg)
    (fun vm₁ hW₁ => ⟨hf.1, hf.2, hPc (T.setVm vm₁) hT hW₁⟩) with ⟨v, vm₁, ⟨U', l2, c2, s2⟩, hW₁, X', ⟨g', mk, t, L, e1, e2, hq, h1, hL, h2, h3⟩, st⟩ | ⟨q, vm₁, ⟨U', l2, c2, s2⟩, hW₁, X', ⟨g', mk, t, L, E, ce, e1, e2, hq, hce, hcv, hcl, h1, hL, h2, h3⟩, st⟩
  · dsimp only [Pt.U, Pt.locs, Pt.cells, Pt.slots] at X' e1 e2 h1 h2 h3 st
    subst h1; subst h2; subst h3
    exact Or.inl ⟨v, (T.setVm vm₁).calling g' mk (Value.ref b :: As).toArray, t, U', L, hT, X', hL, e1, e2, hq, st⟩
  · dsimp only [Pt.U, Pt.locs, Pt.cells, Pt.slots] at X' e1 e2 h1 h2 h3 st hcl
    subst h1; subst h2; subst h3
    exact Or.inr ⟨q, (T.setVm vm₁).calling g' mk (Value.ref b :: As).toArray, t, U', L, E, ce, hT, X', hL, e1, e2, hq, hce, hcv, vx_cls hW₁ hcl, st⟩
theorem vx_runS (S : CallFix p m c cc nL s args Ts own) (hM : vx_Met l y ws rm Pc Qc XC mc ms free) (cw : CallB R s args own index y bytes maxL ret ws rm mc ms n ∧ (Cond.static y).before args s = true) (hp : PreS s H Pc As)
    (hg : g.method = m) (hn : As.length = n) (hsize : g.locals.size = nL) (hstack : g.stack = As.reverse ++ rest) (hW : 2 * g.monitorRoom + (rest.map fun v => v.category).sum ≤ 8) (hdg : decode cc g.pc = .ok (.invokestatic index, 3)) (hf : cells + mc ≤ R.cells ∧ slots + ms ≤ R.slots) :
    vx_Run p l e R s m args below meth c H locs cells slots mc ms g rest (Qc As.toArray) XC free := by
  have hK : vx_Back l R p e below s args y 3 8 (PreOf R mc ms Pc) (PostOf Qc mc ms free) (vx_Post XC mc ms free) := vx_callBack cw.1 hM hp.1
  obtain ⟨⟨-, -, -, -, -, -, hcode, hini, hy, hlen, hl⟩, hstt⟩ := cw
  obtain ⟨hx, hb, hml, ho, -⟩ := S
  intro T hT X
  rcases vx_callS X hx (bytes := bytes) (maxL := maxL) (ret := ret) ho hl hstt hini hcode hy hK hg (hsize.trans hml.symm) (argsL := As) (rest := rest) (fun sig h => hn.trans (hlen sig h)) hstack hW (by rw [hb]; exact hdg)
    (fun vm₁ hW₁ => ⟨hf.1, hf.2, hp.2 (T.setVm vm₁) hT hW₁⟩) with ⟨v, vm₁, ⟨U', l2, c2, s2⟩, hW₁, X', ⟨g', mk, t, L, e1, e2, hq, h1, hL, h2, h3⟩, st⟩ | ⟨q, vm₁, ⟨U', l2, c2, s2⟩, hW₁, X', ⟨g', mk, t, L, E, ce, e1, e2, hq, hce, hcv, hcl, h1, hL, h2, h3⟩, st⟩
  · dsimp only [Pt.U, Pt.locs, Pt.cells, Pt.slots] at X' e1 e2 h1 h2 h3 st
    subst h1; subst h2; subst h3
    exact Or.inl ⟨v, (T.setVm vm₁).calling g' mk As.toArray, t, U', L, hT, X', hL, e1, e2, hq, st⟩
  · dsimp only [Pt.U, Pt.locs, Pt.cells, Pt.slots] at X' e1 e2 h1 h2 h3 st hcl
    subst h1; subst h2; subst h3
    exact Or.inr ⟨q, (T.setVm vm₁).calling g' mk As.toArray, t, U', L, E, ce, hT, X', hL, e1, e2, hq, hce, hcv, vx_cls hW₁ hcl, st⟩
end Runs
section Rows
variable {p : Program} {l : Launch} {e : Env} {R : Room} {s : State} {m : MethodId} {args : Array Value} {below : List Frame} {meth : Method} {c : Code} {H : Heap} {locs : List Loc} {cells slots : Nat} {Q : State → Prop}
variable {mc ms : Nat} {free : Addr → Prop} {A0 A1 : Nat → Prop} {H0 : Heap} {a : Array Value} {pc : Nat} {ls : Array Slot} {st0 rest : List Value}
theorem vx_keep {st₀ t T' : State} {L : List Loc} (h0 : st₀.heap = H) (e1 : T'.heap = t.heap) (hS : va_S A0 H0 H locs) (hA : ∀ q, q < H.size → A1 q → A0 q) (hf : ∀ q, free q → A0 q) (hL : ∀ q ∈ L, free q.base) (hF : va_F A1 st₀ t) :
    H.size ≤ T'.heap.size ∧ (∀ q : Nat, q < H.size → ¬ A1 q → T'.heap[q]? = H[q]?) ∧ va_S A0 H0 T'.heap (locs ++ L) := by
  obtain ⟨hz, hk⟩ := hF
  rw [h0] at hz hk
  exact ⟨by rw [e1]; exact hz, fun q h1 h2 => by rw [e1]; exact hk q h1 h2,
    ⟨Nat.le_trans hS.1 (by rw [e1]; exact hz), fun q h1 h2 => by rw [e1, hk q (Nat.lt_of_lt_of_le h1 hS.1) (fun z => h2 (hA q (Nat.lt_of_lt_of_le h1 hS.1) z))]; exact hS.2.1 q h1 h2, fun q hq => by
      rcases List.mem_append.mp hq with h | h
      · exact hS.2.2 q h
      · exact hf _ (hL q h)⟩⟩
theorem vx_calli {S SX : Type} {post : Int32 → S → Prop} {px : SX → Prop} {B : S → State → Prop} {BX : String → SX → State → Prop} {AX : Nat → Prop} (hr : vx_Run p l e R s m args below meth c H locs cells slots mc ms (F0 m pc ls st0) rest (va_Qi post B A1 a) (vx_X px BX AX) free) (hS : va_S A0 H0 H locs) (hA : ∀ q, q < H.size → A1 q → A0 q) (hf : ∀ q, free q → A0 q) (hAX : ∀ q, q < H.size → AX q → A0 q)
    (kx : ∀ (E : String) (ce : Cell) (q9 : Addr) (u : SX) (t : State) (H1 : Heap) (locs1 : List Loc), t.heap = H1 → s.vm.Alike t.vm → px u → BX E u t → H.size ≤ H1.size → (∀ q : Nat, q < H.size → ¬ AX q → H1[q]? = H[q]?) → va_S A0 H0 H1 locs1 → H1[q9]? = some ce → ce.vm = .none → s.vm.findClass E = some ce.cls → vx_W p l e R s m args below meth c H1 locs1 (cells + mc) (slots + ms) Q (F0 m pc ls rest) q9)
    (kk : ∀ (r : Int32) (u : S) (t : State) (H1 : Heap) (locs1 : List Loc), t.heap = H1 → s.vm.Alike t.vm → post r u → B u t → H.size ≤ H1.size → (∀ q : Nat, q < H.size → ¬ A1 q → H1[q]? = H[q]?) → va_S A0 H0 H1 locs1 → W p l e R s m args below meth c H1 locs1 (cells + mc) (slots + ms) Q (F0 m (pc + 3) ls (.int r :: rest))) : W p l e R s m args below meth c H locs cells slots Q (F0 m pc ls st0) := by
  intro T hT X
  rcases hr T hT X with ⟨v, st₀, t, T', L, h0, X', hL, e1, e2, ⟨⟨r, u, hv, hp, hb⟩, hF⟩, st⟩ | ⟨q, st₀, t, T', L, E, ce, h0, X', hL, e1, e2, ⟨u, hp, hb, hF⟩, hce, hcv, hcl, st⟩
  · cases hv
    obtain ⟨k1, k2, k3⟩ := vx_keep h0 e1 hS hA hf hL hF
    obtain ⟨t2, a1, b1⟩ := kk r u t T'.heap (locs ++ L) e1.symm (by rw [← e2]; exact X'.warmed.alike) hp hb k1 k2 k3 T' rfl X'
    exact ⟨t2, st t2 a1, b1⟩
  · obtain ⟨k1, k2, k3⟩ := vx_keep h0 e1 hS hAX hf hL hF
    obtain ⟨t2, a1, b1⟩ := kx E ce q u t T'.heap (locs ++ L) e1.symm (by rw [← e2]; exact X'.warmed.alike) hp hb k1 k2 k3 (by rw [e1]; exact hce) hcv hcl T' rfl X'
    exact ⟨t2, st.trans a1, b1⟩
theorem vx_calll {S SX : Type} {post : Int64 → S → Prop} {px : SX → Prop} {B : S → State → Prop} {BX : String → SX → State → Prop} {AX : Nat → Prop} (hr : vx_Run p l e R s m args below meth c H locs cells slots mc ms (F0 m pc ls st0) rest (va_Ql post B A1 a) (vx_X px BX AX) free) (hS : va_S A0 H0 H locs) (hA : ∀ q, q < H.size → A1 q → A0 q) (hf : ∀ q, free q → A0 q) (hAX : ∀ q, q < H.size → AX q → A0 q)
    (kx : ∀ (E : String) (ce : Cell) (q9 : Addr) (u : SX) (t : State) (H1 : Heap) (locs1 : List Loc), t.heap = H1 → s.vm.Alike t.vm → px u → BX E u t → H.size ≤ H1.size → (∀ q : Nat, q < H.size → ¬ AX q → H1[q]? = H[q]?) → va_S A0 H0 H1 locs1 → H1[q9]? = some ce → ce.vm = .none → s.vm.findClass E = some ce.cls → vx_W p l e R s m args below meth c H1 locs1 (cells + mc) (slots + ms) Q (F0 m pc ls rest) q9)
    (kk : ∀ (r : Int64) (u : S) (t : State) (H1 : Heap) (locs1 : List Loc), t.heap = H1 → s.vm.Alike t.vm → post r u → B u t → H.size ≤ H1.size → (∀ q : Nat, q < H.size → ¬ A1 q → H1[q]? = H[q]?) → va_S A0 H0 H1 locs1 → W p l e R s m args below meth c H1 locs1 (cells + mc) (slots + ms) Q (F0 m (pc + 3) ls (.long r :: rest))) : W p l e R s m args below meth c H locs cells slots Q (F0 m pc ls st0) := by
  intro T hT X
  rcases hr T hT X with ⟨v, st₀, t, T', L, h0, X', hL, e1, e2, ⟨⟨r, u, hv, hp, hb⟩, hF⟩, st⟩ | ⟨q, st₀, t, T', L, E, ce, h0, X', hL, e1, e2, ⟨u, hp, hb, hF⟩, hce, hcv, hcl, st⟩
  · cases hv
    obtain ⟨k1, k2, k3⟩ := vx_keep h0 e1 hS hA hf hL hF
    obtain ⟨t2, a1, b1⟩ := kk r u t T'.heap (locs ++ L) e1.symm (by rw [← e2]; exact X'.warmed.alike) hp hb k1 k2 k3 T' rfl X'
    exact ⟨t2, st t2 a1, b1⟩
  · obtain ⟨k1, k2, k3⟩ := vx_keep h0 e1 hS hAX hf hL hF
    obtain ⟨t2, a1, b1⟩ := kx E ce q u t T'.heap (locs ++ L) e1.symm (by rw [← e2]; exact X'.warmed.alike) hp hb k1 k2 k3 (by rw [e1]; exact hce) hcv hcl T' rfl X'
    exact ⟨t2, st.trans a1, b1⟩
theorem vx_callf {S SX : Type} {post : UInt32 → S → Prop} {px : SX → Prop} {B : S → State → Prop} {BX : String → SX → State → Prop} {AX : Nat → Prop} (hr : vx_Run p l e R s m args below meth c H locs cells slots mc ms (F0 m pc ls st0) rest (va_Qf post B A1 a) (vx_X px BX AX) free) (hS : va_S A0 H0 H locs) (hA : ∀ q, q < H.size → A1 q → A0 q) (hf : ∀ q, free q → A0 q) (hAX : ∀ q, q < H.size → AX q → A0 q)
    (kx : ∀ (E : String) (ce : Cell) (q9 : Addr) (u : SX) (t : State) (H1 : Heap) (locs1 : List Loc), t.heap = H1 → s.vm.Alike t.vm → px u → BX E u t → H.size ≤ H1.size → (∀ q : Nat, q < H.size → ¬ AX q → H1[q]? = H[q]?) → va_S A0 H0 H1 locs1 → H1[q9]? = some ce → ce.vm = .none → s.vm.findClass E = some ce.cls → vx_W p l e R s m args below meth c H1 locs1 (cells + mc) (slots + ms) Q (F0 m pc ls rest) q9)
    (kk : ∀ (r : UInt32) (u : S) (t : State) (H1 : Heap) (locs1 : List Loc), t.heap = H1 → s.vm.Alike t.vm → post r u → B u t → H.size ≤ H1.size → (∀ q : Nat, q < H.size → ¬ A1 q → H1[q]? = H[q]?) → va_S A0 H0 H1 locs1 → W p l e R s m args below meth c H1 locs1 (cells + mc) (slots + ms) Q (F0 m (pc + 3) ls (.float r :: rest))) : W p l e R s m args below meth c H locs cells slots Q (F0 m pc ls st0) := by
  intro T hT X
  rcases hr T hT X with ⟨v, st₀, t, T', L, h0, X', hL, e1, e2, ⟨⟨r, u, hv, hp, hb⟩, hF⟩, st⟩ | ⟨q, st₀, t, T', L, E, ce, h0, X', hL, e1, e2, ⟨u, hp, hb, hF⟩, hce, hcv, hcl, st⟩
  · cases hv
    obtain ⟨k1, k2, k3⟩ := vx_keep h0 e1 hS hA hf hL hF
    obtain ⟨t2, a1, b1⟩ := kk r u t T'.heap (locs ++ L) e1.symm (by rw [← e2]; exact X'.warmed.alike) hp hb k1 k2 k3 T' rfl X'
    exact ⟨t2, st t2 a1, b1⟩
  · obtain ⟨k1, k2, k3⟩ := vx_keep h0 e1 hS hAX hf hL hF
    obtain ⟨t2, a1, b1⟩ := kx E ce q u t T'.heap (locs ++ L) e1.symm (by rw [← e2]; exact X'.warmed.alike) hp hb k1 k2 k3 (by rw [e1]; exact hce) hcv hcl T' rfl X'
    exact ⟨t2, st.trans a1, b1⟩
theorem vx_calld {S SX : Type} {post : UInt64 → S → Prop} {px : SX → Prop} {B : S → State → Prop} {BX : String → SX → State → Prop} {AX : Nat → Prop} (hr : vx_Run p l e R s m args below meth c H locs cells slots mc ms (F0 m pc ls st0) rest (va_Qd post B A1 a) (vx_X px BX AX) free) (hS : va_S A0 H0 H locs) (hA : ∀ q, q < H.size → A1 q → A0 q) (hf : ∀ q, free q → A0 q) (hAX : ∀ q, q < H.size → AX q → A0 q)
    (kx : ∀ (E : String) (ce : Cell) (q9 : Addr) (u : SX) (t : State) (H1 : Heap) (locs1 : List Loc), t.heap = H1 → s.vm.Alike t.vm → px u → BX E u t → H.size ≤ H1.size → (∀ q : Nat, q < H.size → ¬ AX q → H1[q]? = H[q]?) → va_S A0 H0 H1 locs1 → H1[q9]? = some ce → ce.vm = .none → s.vm.findClass E = some ce.cls → vx_W p l e R s m args below meth c H1 locs1 (cells + mc) (slots + ms) Q (F0 m pc ls rest) q9)
    (kk : ∀ (r : UInt64) (u : S) (t : State) (H1 : Heap) (locs1 : List Loc), t.heap = H1 → s.vm.Alike t.vm → post r u → B u t → H.size ≤ H1.size → (∀ q : Nat, q < H.size → ¬ A1 q → H1[q]? = H[q]?) → va_S A0 H0 H1 locs1 → W p l e R s m args below meth c H1 locs1 (cells + mc) (slots + ms) Q (F0 m (pc + 3) ls (.double r :: rest))) : W p l e R s m args below meth c H locs cells slots Q (F0 m pc ls st0) := by
  intro T hT X
  rcases hr T hT X with ⟨v, st₀, t, T', L, h0, X', hL, e1, e2, ⟨⟨r, u, hv, hp, hb⟩, hF⟩, st⟩ | ⟨q, st₀, t, T', L, E, ce, h0, X', hL, e1, e2, ⟨u, hp, hb, hF⟩, hce, hcv, hcl, st⟩
  · cases hv
    obtain ⟨k1, k2, k3⟩ := vx_keep h0 e1 hS hA hf hL hF
    obtain ⟨t2, a1, b1⟩ := kk r u t T'.heap (locs ++ L) e1.symm (by rw [← e2]; exact X'.warmed.alike) hp hb k1 k2 k3 T' rfl X'
    exact ⟨t2, st t2 a1, b1⟩
  · obtain ⟨k1, k2, k3⟩ := vx_keep h0 e1 hS hAX hf hL hF
    obtain ⟨t2, a1, b1⟩ := kx E ce q u t T'.heap (locs ++ L) e1.symm (by rw [← e2]; exact X'.warmed.alike) hp hb k1 k2 k3 (by rw [e1]; exact hce) hcv hcl T' rfl X'
    exact ⟨t2, st.trans a1, b1⟩
theorem vx_callv {S SX : Type} {post : S → Prop} {px : SX → Prop} {B : S → State → Prop} {BX : String → SX → State → Prop} {AX : Nat → Prop} (hr : vx_Run p l e R s m args below meth c H locs cells slots mc ms (F0 m pc ls st0) rest (va_Qv post B A1 a) (vx_X px BX AX) free) (hS : va_S A0 H0 H locs) (hA : ∀ q, q < H.size → A1 q → A0 q) (hf : ∀ q, free q → A0 q) (hAX : ∀ q, q < H.size → AX q → A0 q)
    (kx : ∀ (E : String) (ce : Cell) (q9 : Addr) (u : SX) (t : State) (H1 : Heap) (locs1 : List Loc), t.heap = H1 → s.vm.Alike t.vm → px u → BX E u t → H.size ≤ H1.size → (∀ q : Nat, q < H.size → ¬ AX q → H1[q]? = H[q]?) → va_S A0 H0 H1 locs1 → H1[q9]? = some ce → ce.vm = .none → s.vm.findClass E = some ce.cls → vx_W p l e R s m args below meth c H1 locs1 (cells + mc) (slots + ms) Q (F0 m pc ls rest) q9)
    (kk : ∀ (u : S) (t : State) (H1 : Heap) (locs1 : List Loc), t.heap = H1 → s.vm.Alike t.vm → post u → B u t → H.size ≤ H1.size → (∀ q : Nat, q < H.size → ¬ A1 q → H1[q]? = H[q]?) → va_S A0 H0 H1 locs1 → W p l e R s m args below meth c H1 locs1 (cells + mc) (slots + ms) Q (F0 m (pc + 3) ls (rest))) : W p l e R s m args below meth c H locs cells slots Q (F0 m pc ls st0) := by
  intro T hT X
  rcases hr T hT X with ⟨v, st₀, t, T', L, h0, X', hL, e1, e2, ⟨⟨u, hv, hp, hb⟩, hF⟩, st⟩ | ⟨q, st₀, t, T', L, E, ce, h0, X', hL, e1, e2, ⟨u, hp, hb, hF⟩, hce, hcv, hcl, st⟩
  · cases hv
    obtain ⟨k1, k2, k3⟩ := vx_keep h0 e1 hS hA hf hL hF
    obtain ⟨t2, a1, b1⟩ := kk u t T'.heap (locs ++ L) e1.symm (by rw [← e2]; exact X'.warmed.alike) hp hb k1 k2 k3 T' rfl X'
    exact ⟨t2, st t2 a1, b1⟩
  · obtain ⟨k1, k2, k3⟩ := vx_keep h0 e1 hS hAX hf hL hF
    obtain ⟨t2, a1, b1⟩ := kx E ce q u t T'.heap (locs ++ L) e1.symm (by rw [← e2]; exact X'.warmed.alike) hp hb k1 k2 k3 (by rw [e1]; exact hce) hcv hcl T' rfl X'
    exact ⟨t2, st.trans a1, b1⟩
/-- caught by the row x of this method's table; the rows ahead don't take it -/
theorem vx_catch {own name : String} {E : String} {ce : Cell} {q : Addr} (hown : s.vm.findClass own = some m.cls) (pre : List ExceptionTableEntry) (x : ExceptionTableEntry) (suf : List ExceptionTableEntry) (hsplit : c.exceptionTable.toList = pre ++ x :: suf)
    (hpass : ∀ z ∈ pre, covers z pc = false ∨ (z.catchType ≠ 0 ∧ ∃ nm : String, (Cond.classLink own z.catchType nm).before args s = true ∧ va_Nc E nm s)) (hx : covers x pc = true) (h0 : x.catchType ≠ 0)
    (hlink : (Cond.classLink own x.catchType name).before args s = true) (hcast : (Cond.castable E name).before args s = true) (hcell : H[q]? = some ce) (hv : ce.vm = .none) (hcl : s.vm.findClass E = some ce.cls)
    (kk : W p l e R s m args below meth c H locs cells slots Q (F0 m x.handlerPc ls [.ref q])) : vx_W p l e R s m args below meth c H locs cells slots Q (F0 m pc ls rest) q := by
  intro T hT X
  have hpl : e.platform.magicAccessors = ({} : Platform).magicAccessors := by rw [X.admits.platform]
  obtain ⟨c3, c4, hc3, hc4, hasg⟩ := Cond.castable_spec hcast
  cases Option.some.inj (hc3.symm.trans hcl)
  obtain ⟨c5, hc5, hcl5⟩ := Cond.classLink_spec hown hlink e.platform hpl
  cases Option.some.inj (hc4.symm.trans hc5)
  obtain ⟨vm', X', st⟩ := X.thenCaughtThrough q (g := F0 m pc ls rest) rfl (Steps.refl _) (by rw [hT]; exact hcell) (by rw [hv]; rfl) (by obtain ⟨k9, h9, -⟩ := Vm.findClass_spec hcl; exact ⟨k9, h9⟩) pre x suf hsplit
    (fun z hz => by
      rcases hpass z hz with h | ⟨hz0, nm, hl1, hn1⟩
      · exact Or.inl h
      · obtain ⟨c6, hc6, hcl6⟩ := Cond.classLink_spec hown hl1 e.platform hpl
        obtain ⟨a8, b8, h1, h2, h3⟩ := hn1
        cases Option.some.inj (h1.symm.trans hcl)
        cases Option.some.inj (h2.symm.trans hc6)
        exact Or.inr ⟨hz0, _, hcl6, h3⟩) hx (Or.inr ⟨h0, c4, hcl5, hasg⟩)
  obtain ⟨t, a1, b1⟩ := kk (T.setVm vm') hT X'
  exact ⟨t, st.trans a1, b1⟩
end Rows
section Ends
variable {p : Program} {l : Launch} {e : Env} {R : Room} {s : State} {m : MethodId} {args : Array Value} {below : List Frame} {meth : Method} {c : Code} {H : Heap} {locs : List Loc} {cells slots : Nat} {Q : State → Prop}
variable {mc ms : Nat} {free : Addr → Prop} {A0 A1 : Nat → Prop} {H0 : Heap} {a : Array Value} {ls : Array Slot} {st0 rest : List Value}
variable {Qc : Array Value → State → Outcome → State → Prop} {XC : String → State → State → Prop}
/-- what a body that may throw owes at its end -/
def vx_MQ (below : List Frame) (Qc : Array Value → State → Outcome → State → Prop) (XC : String → State → State → Prop) (a : Array Value) (s : State) (mc ms : Nat) (free : Addr → Prop) : State → Prop := fun t =>
  ∃ o, t.status = .running ∧ Ended t below o ∧ vx_Q Qc XC mc ms free a s o t
theorem vx_ret {g : JFrame} {mc ms : Nat} (k : W p l e R s m args below meth c H locs cells slots (MQ below Qc args s mc ms free) g) : W p l e R s m args below meth c H locs cells slots (vx_MQ below Qc XC args s mc ms free) g := by
  intro T hT X
  obtain ⟨t, a1, o, b1, b2, b3, b4⟩ := k T hT X
  exact ⟨t, a1, o, b1, b2, Or.inl ⟨b3, b4⟩⟩
/-- not caught here: it goes on to the caller -/
theorem vx_widen {g : JFrame} {q : Addr} {k n : Nat} (h1 : cells ≤ k) (h2 : slots ≤ n) (kk : vx_W p l e R s m args below meth c H locs k n Q g q) : vx_W p l e R s m args below meth c H locs cells slots Q g q := fun T hT X => kk T hT (stand_widen X h1 h2)
theorem vx_out {pc : Nat} {E : String} {ce : Cell} {q : Addr} {mc ms : Nat} (hout : ∀ x ∈ c.exceptionTable.toList, covers x pc = false) (hlocks : meth.locks = false) (hcell : H[q]? = some ce) (hv : ce.vm = .none) (hcl : s.vm.findClass E = some ce.cls)
    (hx : ∀ t : State, t.heap = H → s.vm.Alike t.vm → XC E s t) (hf : ∀ z ∈ locs, free z.base) (hc : cells ≤ mc) (hs : slots ≤ ms) :
    vx_W p l e R s m args below meth c H locs cells slots (vx_MQ below Qc XC args s mc ms free) (F0 m pc ls rest) q := by
  intro T hT X
  obtain ⟨st1, hrun, hend, hW, hsm⟩ := X.leaveThrown q (g := F0 m pc ls rest) rfl rfl rfl hout hlocks
  have hcell9 : (T.setFrames (.throwing q :: below)).heap[q]? = some ce := by
    show T.heap[q]? = some ce
    rw [hT]; exact hcell
  exact ⟨_, st1, .threw q, hrun, hend, Or.inr ⟨q, rfl, E, ce, locs, hx _ hT hW.alike, hcell9, hv, hcl, hW, hsm.mono hc hs, hf⟩⟩
theorem vx_frame {U : State} {k n : Nat} (h : s.sameButNew ({ U with vm := s.vm } : State) locs k n) : s.heap.size ≤ U.heap.size ∧ ∀ q : Nat, q < s.heap.size → (∀ z ∈ locs, z.base ≠ q) → U.heap[q]? = s.heap[q]? := by
  obtain ⟨-, h2, -, -, -, h6⟩ := h
  refine ⟨h2, fun q hq hz => ?_⟩
  obtain ⟨c9, e1, e2, e3, e4⟩ := h6 q _ (Array.getElem?_eq_getElem hq)
  have hs : c9.slots = (s.heap[q]).slots := Array.ext_getElem? fun i => e4 i fun hm => hz _ hm rfl
  have h9 : c9 = s.heap[q] := by
    rw [hs] at e2
    exact e2
  have e5 : U.heap[q]? = some c9 := e1
  rw [e5, h9, Array.getElem?_eq_getElem hq]
/-- the words of a throw but the four that speak of the heap -/
def vx_no (w : Cond) : Bool := decide (w ≠ .isRef (.static Bundle.tN "UNASSIGNED_STACK" Bundle.steD)) && decide (w ≠ .isRef (.static Bundle.tN "SUPPRESSED_SENTINEL" Bundle.listD)) && decide (w ≠ .laysStatic Bundle.tN "UNASSIGNED_STACK" Bundle.steD) && decide (w ≠ .laysStatic Bundle.tN "SUPPRESSED_SENTINEL" Bundle.listD)
def vx_at0 (own : String) (ic : Nat) (X : String) (names : List String) : List Cond := (Bundle.ownAtoms0 own ic X names).filter vx_no
def vx_atS (own : String) (ic : Nat) (X : String) (names : List String) : List Cond := (Bundle.ownAtoms own ic X names).filter vx_no
/-- a word that the tables alone decide, or a good one -/
def vx_ot (w : Cond) : Bool := w.onTables || goodWord w
theorem vx_ot_at {args a' : Array Value} {s U : State} {w : Cond} (hW : s.WarmedH U.vm) (hvm : s.vm = U.vm) (hg : vx_ot w = true) (h : w.before args s = true) : w.before a' U = true := by
  simp only [vx_ot, Bool.or_eq_true] at hg
  rcases hg with hg | hg
  · exact va_tabs hg hvm h
  · exact word_at hW (good_of_word hg) h
/-- a list's words: the good ones out of the method's own list, the others by premises of their own -/
theorem vx_hat {args : Array Value} {s : State} {L B : List Cond} (h1 : ∀ w ∈ L.filter goodWord, w.before args s = true) (h2 : ∀ w ∈ L.filter (fun w => !goodWord w), w ∈ B) (h3 : ∀ w ∈ B, w.before args s = true) : ∀ w ∈ L, w.before args s = true := by
  intro w hw
  by_cases g : goodWord w = true
  · exact h1 w (List.mem_filter.mpr ⟨hw, g⟩)
  · refine h3 w (h2 w (List.mem_filter.mpr ⟨hw, ?_⟩))
    show (!goodWord w) = true
    cases hgw : goodWord w
    · rfl
    · exact absurd hgw g
theorem vx_c {args : Array Value} {s : State} {w : Cond} {B : List Cond} (h : w.before args s = true) (t : ∀ w ∈ B, w.before args s = true) : ∀ w' ∈ w :: B, w'.before args s = true := fun w' h' => (List.mem_cons.mp h').elim (fun e => by rw [e]; exact h) (t w')
theorem vx_n {args : Array Value} {s : State} : ∀ w ∈ ([] : List Cond), w.before args s = true := fun _ h => nomatch h
theorem vx_own {args : Array Value} {s : State} {L : List Cond} (h1 : ∀ w ∈ L.filter vx_no, w.before args s = true)
    (hU : (Cond.isRef (.static Bundle.tN "UNASSIGNED_STACK" Bundle.steD)).before args s = true) (hN : (Cond.isRef (.static Bundle.tN "SUPPRESSED_SENTINEL" Bundle.listD)).before args s = true)
    (lU : (Cond.laysStatic Bundle.tN "UNASSIGNED_STACK" Bundle.steD).before args s = true) (lN : (Cond.laysStatic Bundle.tN "SUPPRESSED_SENTINEL" Bundle.listD).before args s = true) : ∀ w ∈ L, w.before args s = true := by
  intro w hw
  by_cases e1 : w = .isRef (.static Bundle.tN "UNASSIGNED_STACK" Bundle.steD)
  · rw [e1]; exact hU
  · by_cases e2 : w = .isRef (.static Bundle.tN "SUPPRESSED_SENTINEL" Bundle.listD)
    · rw [e2]; exact hN
    · by_cases e3 : w = .laysStatic Bundle.tN "UNASSIGNED_STACK" Bundle.steD
      · rw [e3]; exact lU
      · by_cases e4 : w = .laysStatic Bundle.tN "SUPPRESSED_SENTINEL" Bundle.listD
        · rw [e4]; exact lN
        · exact h1 w (List.mem_filter.mpr ⟨hw, by unfold vx_no; rw [decide_eq_true e1, decide_eq_true e2, decide_eq_true e3, decide_eq_true e4]; rfl⟩)
/-- where a static field lies, its class's statics cell in H -/
def vx_L (C n d : String) (A : Nat → Prop) (U : State) (H : Heap) : Prop := ∃ (c : ClassId) (k : Class) (i : Nat) (f : Field) (a : Nat) (cell : Cell), U.vm.findClass C = some c ∧ U.fieldFound? C n d = some (c, k, i, f) ∧ f.isStatic = true ∧ k.statics = some a ∧ H[a]? = some cell ∧ cell.vm.isStatics = true ∧ cell.cls = c ∧ f.slot < cell.slots.size ∧ k.staticTypes[f.slot]? = some f.type ∧ ¬ A a
theorem vx_L.moved {C n d : String} {A : Nat → Prop} {u U : State} {H : Heap} (hvm : u.vm.Alike U.vm) (h : vx_L C n d A u H) : vx_L C n d A U H := by
  obtain ⟨c, k, i, f, a, cell, h1, h2, h3, h4, h5, h6, h7, h8, h9, h10⟩ := h
  obtain ⟨k', hi', he⟩ := State.fieldFound?_setVm hvm h2
  exact ⟨c, k', i, f, a, cell, by rw [hvm.findClass]; exact h1, hi', h3, by rw [he]; exact h4, h5, h6, h7, h8, by rw [he]; exact h9, h10⟩
theorem vx_L.kept {C n d : String} {A : Nat → Prop} {U : State} {H H1 : Heap} (h : vx_L C n d A U H) (hq : ∀ a : Nat, a < H.size → ¬ A a → H1[a]? = H[a]?) : vx_L C n d A U H1 := by
  obtain ⟨c, k, i, f, a, cell, h1, h2, h3, h4, h5, h6, h7, h8, h9, h10⟩ := h
  exact ⟨c, k, i, f, a, cell, h1, h2, h3, h4, by rw [hq a (Array.getElem?_eq_some_iff.mp h5).1 h10]; exact h5, h6, h7, h8, h9, h10⟩
theorem vx_L.narrow {C n d : String} {A B : Nat → Prop} {U : State} {H : Heap} (h : vx_L C n d A U H) (hAB : ∀ q, B q → A q) : vx_L C n d B U H := by
  obtain ⟨c, k, i, f, a, cell, h1, h2, h3, h4, h5, h6, h7, h8, h9, h10⟩ := h
  exact ⟨c, k, i, f, a, cell, h1, h2, h3, h4, h5, h6, h7, h8, h9, fun z => h10 (hAB _ z)⟩
theorem vx_L.word {C n d : String} {A : Nat → Prop} {s : State} {args : Array Value} (h : vx_L C n d A s s.heap) : (Cond.laysStatic C n d).before args s = true := by
  obtain ⟨c, k, i, f, a, cell, h1, h2, h3, h4, h5, h6, h7, h8, h9, -⟩ := h
  show (Cond.laysStatic C n d).holds args s none s [] = true
  exact Cond.laysStatic_of h1 h2 h3 h4 h5 h6 h7 h8 h9
/-- .. and what it holds: null or some reference -/
def vx_Zq (C n d : String) (A : Nat → Prop) (U : State) (H : Heap) : Prop := va_Zq C n d A U H ∧ vx_L C n d A U H
theorem vx_Zq.moved {C n d : String} {A : Nat → Prop} {u U : State} {H : Heap} (hvm : u.vm.Alike U.vm) (h : vx_Zq C n d A u H) : vx_Zq C n d A U H := ⟨va_Zq.moved hvm h.1, vx_L.moved hvm h.2⟩
theorem vx_Zq.kept {C n d : String} {A : Nat → Prop} {U : State} {H H1 : Heap} (h : vx_Zq C n d A U H) (hq : ∀ a : Nat, a < H.size → ¬ A a → H1[a]? = H[a]?) : vx_Zq C n d A U H1 := ⟨va_Zq.kept h.1 hq, vx_L.kept h.2 hq⟩
theorem vx_Zq.narrow {C n d : String} {A B : Nat → Prop} {U : State} {H : Heap} (h : vx_Zq C n d A U H) (hAB : ∀ q, B q → A q) : vx_Zq C n d B U H := ⟨va_Zq.narrow h.1 hAB, vx_L.narrow h.2 hAB⟩
theorem vx_Zqof {args : Array Value} {s : State} {C n d : String} {A : Nat → Prop} (hl : (Cond.laysStatic C n d).before args s = true) (hini : (Cond.initialized C).before args s = true) (h : (Cond.isRef (.static C n d)).before args s = true) (hA : ∀ a : Nat, a < s.heap.size → ¬ A a) : vx_Zq C n d A s s.heap := by
  refine ⟨va_Zqof hl hini h hA, ?_⟩
  obtain ⟨c, k, i, f, a, cell, h1, h2, h3, h4, h5, h6, h7, h8, h9⟩ := Cond.laysStatic_spec hl
  exact ⟨c, k, i, f, a, cell, h1, h2, h3, h4, h5, h6, h7, h8, h9, hA a (Array.getElem?_eq_some_iff.mp h5).1⟩
theorem vx_isRef {C n d : String} {v : Value} {A : Nat → Prop} {s : State} {args : Array Value} (h : va_Z C n d v A s s.heap) (hv : v.isRef = true) : (Cond.isRef (.static C n d)).before args s = true := by
  obtain ⟨cf, kf, fi, f, a, cell, h1, h2, h3, h4, h5, h6, h7, -⟩ := h
  have he : (Term.static C n d).eval args s none [] s = some v := by
    simp [Term.eval, State.fieldNamed?, h1, h2, h4, h5, h6, h7]
  simp only [Cond.before, Cond.holds, Cond.value, he]
  cases v <;> simp_all [Value.isRef]
theorem vx_isRefq {C n d : String} {A : Nat → Prop} {s : State} {args : Array Value} (h : va_Zq C n d A s s.heap) : (Cond.isRef (.static C n d)).before args s = true := by
  rcases h with h | ⟨t, h⟩
  · exact vx_isRef h rfl
  · exact vx_isRef h rfl
/-- the same frame, seen from here: as if the method were called anew in this heap -/
theorem vx_rebase {T : State} (X : Stand p l e R s m args below meth c T locs cells slots) {R' : Room} (hf : R'.frames ≤ R.frames) (hl : R'.locals ≤ R.locals) (hc : cells + R'.cells ≤ R.cells) (hs : slots + R'.slots ≤ R.slots) :
    Stand p l e R' ((T.setVm s.vm).setFrames (.invoking m args :: below)) m args below meth c T [] 0 0 := by
  have htop : (T.setVm s.vm).topJava?.isSome := X.here.top
  have hF : ((T.setVm s.vm).setFrames (.invoking m args :: below)).frames = .invoking m args :: below := State.frames_setFrames _ (State.cur_lt_of_top htop)
  obtain ⟨g₀, hg0⟩ := Option.isSome_iff_exists.mp htop
  obtain ⟨r, hr⟩ := State.topJava?_eq_some.mp hg0
  have hl9 : e.platform.stackLimits (T.setVm s.vm).me = e.platform.stackLimits s.me := X.limits
  have hb9 : (T.setVm s.vm).me.stackBytes = s.me.stackBytes := X.bytes
  refine ⟨X.admits, X.cas, X.clock, hF, ?_, X.hears, X.method, X.code, X.here, X.tail, X.warmed, ?_, ?_, ?_⟩
  · have h := X.room
    have hU : ((T.setVm s.vm).setFrames (.invoking m args :: below)).localsInUse = s.localsInUse := by
      rw [State.localsInUse_invoking hF (meth := meth) (c := c) X.method X.code, State.localsInUse_invoking X.frames X.method X.code]
    simp only [State.hasRoom, Bool.and_eq_true, decide_eq_true_eq] at h ⊢
    obtain ⟨⟨⟨⟨h1, h2, h3, h4, h5, h6⟩, h7⟩, h8⟩, h9⟩ := h
    rw [X.frames, List.length_cons] at h2 h3
    have q1 := X.heapSize
    have q2 := X.used
    simp only [hF, hU, List.length_cons, State.stackLimits_setFrames, State.stackBytes_setFrames, hl9, hb9]
    refine ⟨⟨⟨⟨by omega, by omega, by omega, by omega, by omega, h6⟩, ?_⟩, ?_⟩, X.book⟩
    · show T.heap.size + R'.cells ≤ e.platform.maxCells
      omega
    · show T.slotsUsed + R'.slots ≤ e.platform.maxSlots
      omega
  · rw [State.stackLimits_setFrames]; rfl
  · rw [State.stackBytes_setFrames]; rfl
  · refine ⟨?_, Nat.le_refl _, Nat.le_refl _, ?_, ?_, fun a c9 h9 => ⟨c9, h9, rfl, rfl, fun _ _ => rfl⟩⟩
    · obtain ⟨t, ht, -⟩ := State.frames_cons hr
      show T.setVm s.vm = { ((T.setVm s.vm).setFrames (.invoking m args :: below)).setFrames (T.setVm s.vm).frames with heap := T.heap, slotsUsed := T.slotsUsed }
      rw [State.setFrames_setFrames, State.setFrames_self ht]
      rfl
    · show T.slotsUsed = T.slotsUsed + ((T.heap.toList.drop T.heap.size).map (·.slots.size)).sum
      rw [List.drop_eq_nil_of_le (Nat.le_of_eq Array.length_toList)]
      rfl
    · show ((T.heap.toList.drop T.heap.size).map (·.slots.size)).sum ≤ 0
      rw [List.drop_eq_nil_of_le (Nat.le_of_eq Array.length_toList)]
      exact Nat.le_refl _
/-- 'throw new E()': new; dup; invokespecial; athrow -/
theorem vx_throw0 {cc : ByteArray} {pc : Nat} (hexec : p.tables.exec = Jvm.exec) (hb : c.code = cc) (hl : l.stackTraces = false) {own cls : String} {names : List String} {ik ic mc ms : Nat} {A : Nat → Prop}
    (hown : s.vm.findClass own = some m.cls) (hcls : Bundle.fit cls = true) (hnames : ∀ n ∈ names, Bundle.fit n = true)
    (hk : (Cond.classLink own ik cls).before args s = true) (hini : (Cond.initialized cls).before args s = true) (hat : ∀ w ∈ vx_at0 own ic cls names, w.before args s = true)
    (hgood : ∀ w ∈ Cond.classLink own ik cls :: Cond.initialized cls :: vx_at0 own ic cls names, vx_ot w = true)
    (hU : vx_Zq Bundle.tN "UNASSIGNED_STACK" Bundle.steD A s s.heap) (hN : vx_Zq Bundle.tN "SUPPRESSED_SENTINEL" Bundle.listD A s s.heap) (hS : va_S A s.heap H locs) (hsize : ls.size = c.maxLocals)
    (d0 : decode cc pc = .ok (.new ik, 3)) (d3 : decode cc (pc + 3) = .ok (.dup, 1)) (d4 : decode cc (pc + 4) = .ok (.invokespecial ic, 3)) (d7 : decode cc (pc + 7) = .ok (.athrow, 1))
    (hout : ∀ x ∈ c.exceptionTable.toList, covers x (pc + 7) = false)
    (hRframes : names.length + 3 < R.frames) (hRlocals : (rest.map fun v => v.category).sum + (13 * (names.length + 1) + 42) ≤ R.locals) (hRcells : cells + 1 ≤ R.cells) (hRslots : slots + 6 ≤ R.slots) (hlocks : meth.locks = false)
    (hx : ∀ t : State, s.vm.Alike t.vm → H.size ≤ t.heap.size → (∀ q : Nat, q < H.size → t.heap[q]? = H[q]?) → XC cls s t)
    (hf : ∀ z ∈ locs, free z.base) (hc : cells + 1 ≤ mc) (hs : slots + 6 ≤ ms) :
    W p l e R s m args below meth c H locs cells slots (vx_MQ below Qc XC args s mc ms free) (F0 m pc ls rest) := by
  intro T hT X
  have htr : e.platform.stackTraces = false := (show e.platform.stackTraces = l.stackTraces by rw [X.admits.platform]).trans hl
  have Y := vx_rebase X (R' := { frames := R.frames, locals := R.locals, cells := 1, slots := 6 }) (Nat.le_refl _) (Nat.le_refl _) hRcells hRslots
  obtain ⟨s', hA⟩ : ∃ z, z = (T.setVm s.vm).setFrames (.invoking m args :: below) := ⟨_, rfl⟩
  rw [← hA] at Y
  have hvm : s'.vm = s.vm := by rw [hA]; rfl
  have hhp : s'.heap = H := by rw [hA]; exact hT
  have hW0 : s.WarmedH s'.vm := by rw [hvm]; exact State.WarmedH.refl s
  have hat' : ∀ w ∈ vx_at0 own ic cls names, w.before args s' = true := fun w hw => vx_ot_at hW0 hvm.symm (hgood w (List.mem_cons_of_mem _ (List.mem_cons_of_mem _ hw))) (hat w hw)
  have hk' : (Cond.classLink own ik cls).before args s' = true := vx_ot_at hW0 hvm.symm (hgood _ List.mem_cons_self) hk
  have hini' : (Cond.initialized cls).before args s' = true := vx_ot_at hW0 hvm.symm (hgood _ (List.mem_cons_of_mem _ List.mem_cons_self)) hini
  have hU' : vx_Zq Bundle.tN "UNASSIGNED_STACK" Bundle.steD A s' s'.heap := by rw [hhp]; exact vx_Zq.moved hW0.alike (hU.kept hS.2.1)
  have hN' : vx_Zq Bundle.tN "SUPPRESSED_SENTINEL" Bundle.listD A s' s'.heap := by rw [hhp]; exact vx_Zq.moved hW0.alike (hN.kept hS.2.1)
  have h : ∀ w ∈ Bundle.ownAtoms0 own ic cls names, w.before args s' = true := vx_own hat' (vx_isRefq hU'.1) (vx_isRefq hN'.1) hU'.2.word hN'.2.word
  have hown' : s'.vm.findClass own = some m.cls := by rw [hvm]; exact hown
  have hins : (Cond.instantiable cls 6).before args s' = true := h _ (by simp [Bundle.ownAtoms0])
  obtain ⟨vm₁, cX, kX, hfX, hkX, -, -, X₁, st1⟩ := Y.newCold hexec (own := own) (C := cls) (index := ik) (n := 6) hown' hk' hins hini'
    (g := F0 m pc ls rest) rfl (by rw [hb]; exact d0) (Nat.le_refl _) (Nat.le_refl _)
  generalize hT1 : (T.setVm vm₁).pushCell { cls := cX, slots := kX.instanceTypes.map defaultValue, vm := .none } = T1 at X₁ st1
  have hcat : (Value.ref T.heap.size).category = 1 := rfl
  have hcellA : T1.heap[T.heap.size]? = some (freshCell cX kX) := by rw [← hT1]; exact State.heap_pushCell_size _ _
  have d3' : decode c.code (pc + 3) = .ok (.dup, 1) := by rw [hb]; exact d3
  obtain ⟨U, hsteps, hrun, hend, hW, hsame, ce, hce, hO⟩ := X₁.ctorThrow0 hexec htr (own := own) (cls := cls) (names := names) (ic := ic) hown' hcls hnames h (fun x hx => nomatch hx) hfX hkX hcellA (by rw [hhp, hT]; exact Nat.le_refl _)
    (g := { method := m, pc := pc + 4, locals := ls, stack := .ref T.heap.size :: .ref T.heap.size :: rest, locked := none }) rfl hsize rfl rfl (rest := rest) rfl
    (by rw [hb]; exact d4) (by rw [hb]; exact d7) hout hRframes (by simp only [List.map_cons, List.sum_cons, hcat]; omega) hlocks
  obtain ⟨f1, f2⟩ := vx_frame hsame
  rw [hhp] at f1 f2
  have hWs : s.WarmedH U.vm := State.WarmedH.trans hW0 hW
  have hcl : s.vm.findClass cls = some ce.cls := by
    have h9 := hO.cls
    rw [hvm] at h9
    exact h9
  have hall : s.sameButNew ({ U with vm := s.vm } : State) locs mc ms := by
    subst hA
    obtain ⟨e1, e2⟩ := hsame
    rw [State.setFrames_setFrames] at e1
    have h2 : (T.setVm s.vm).sameButNew ({ U with vm := s.vm } : State) [] (0 + 1) (0 + 6) := ⟨e1, e2⟩
    have h3 := X.same.trans h2
    rw [List.append_nil] at h3
    exact h3.mono hc hs
  refine ⟨U, ?_, .threw T.heap.size, hrun, hend, Or.inr ⟨T.heap.size, rfl, cls, ce, locs, hx U hWs.alike f1 (fun q hq => f2 q hq (fun z hz => nomatch hz)), hce, hO.vm, hcl, hWs, hall, hf⟩⟩
  refine st1 _ ?_
  show Steps p.tables e below (T1.setTop { method := m, pc := pc + 3, locals := ls, stack := .ref T.heap.size :: rest, locked := none }) _
  jvm_step X₁.here [X₁.here.top, hexec, d3', Value.category]
  exact hsteps
/-- 'throw new E("text")': new; dup; ldc; invokespecial; athrow -/
theorem vx_throwS {cc : ByteArray} {pc : Nat} (hexec : p.tables.exec = Jvm.exec) (hb : c.code = cc) (hl : l.stackTraces = false) {own cls text : String} {names : List String} {ik is ic mc ms sa : Nat} {A : Nat → Prop}
    (hown : s.vm.findClass own = some m.cls) (hcls : Bundle.fit cls = true) (hnames : ∀ n ∈ names, Bundle.fit n = true)
    (hk : (Cond.classLink own ik cls).before args s = true) (hini : (Cond.initialized cls).before args s = true) (hstr : vk_R own is text sa s) (hat : ∀ w ∈ vx_atS own ic cls names, w.before args s = true)
    (hgood : ∀ w ∈ Cond.classLink own ik cls :: Cond.initialized cls :: vx_atS own ic cls names, vx_ot w = true)
    (hU : vx_Zq Bundle.tN "UNASSIGNED_STACK" Bundle.steD A s s.heap) (hN : vx_Zq Bundle.tN "SUPPRESSED_SENTINEL" Bundle.listD A s s.heap) (hS : va_S A s.heap H locs) (hsize : ls.size = c.maxLocals)
    (d0 : decode cc pc = .ok (.new ik, 3)) (d3 : decode cc (pc + 3) = .ok (.dup, 1)) (d4 : decode cc (pc + 4) = .ok (.ldc is, 2)) (d6 : decode cc (pc + 6) = .ok (.invokespecial ic, 3)) (d9 : decode cc (pc + 9) = .ok (.athrow, 1))
    (hout : ∀ x ∈ c.exceptionTable.toList, covers x (pc + 9) = false)
    (hRframes : names.length + 3 < R.frames) (hRlocals : (rest.map fun v => v.category).sum + (13 * (names.length + 1) + 43) ≤ R.locals) (hRcells : cells + 1 ≤ R.cells) (hRslots : slots + 6 ≤ R.slots) (hlocks : meth.locks = false)
    (hx : ∀ t : State, s.vm.Alike t.vm → H.size ≤ t.heap.size → (∀ q : Nat, q < H.size → t.heap[q]? = H[q]?) → XC cls s t)
    (hf : ∀ z ∈ locs, free z.base) (hc : cells + 1 ≤ mc) (hs : slots + 6 ≤ ms) :
    W p l e R s m args below meth c H locs cells slots (vx_MQ below Qc XC args s mc ms free) (F0 m pc ls rest) := by
  intro T hT X
  have htr : e.platform.stackTraces = false := (show e.platform.stackTraces = l.stackTraces by rw [X.admits.platform]).trans hl
  have Y := vx_rebase X (R' := { frames := R.frames, locals := R.locals, cells := 1, slots := 6 }) (Nat.le_refl _) (Nat.le_refl _) hRcells hRslots
  obtain ⟨s', hA⟩ : ∃ z, z = (T.setVm s.vm).setFrames (.invoking m args :: below) := ⟨_, rfl⟩
  rw [← hA] at Y
  have hvm : s'.vm = s.vm := by rw [hA]; rfl
  have hhp : s'.heap = H := by rw [hA]; exact hT
  have hW0 : s.WarmedH s'.vm := by rw [hvm]; exact State.WarmedH.refl s
  have hat' : ∀ w ∈ vx_atS own ic cls names, w.before args s' = true := fun w hw => vx_ot_at hW0 hvm.symm (hgood w (List.mem_cons_of_mem _ (List.mem_cons_of_mem _ hw))) (hat w hw)
  have hk' : (Cond.classLink own ik cls).before args s' = true := vx_ot_at hW0 hvm.symm (hgood _ List.mem_cons_self) hk
  have hini' : (Cond.initialized cls).before args s' = true := vx_ot_at hW0 hvm.symm (hgood _ (List.mem_cons_of_mem _ List.mem_cons_self)) hini
  have hU' : vx_Zq Bundle.tN "UNASSIGNED_STACK" Bundle.steD A s' s'.heap := by rw [hhp]; exact vx_Zq.moved hW0.alike (hU.kept hS.2.1)
  have hN' : vx_Zq Bundle.tN "SUPPRESSED_SENTINEL" Bundle.listD A s' s'.heap := by rw [hhp]; exact vx_Zq.moved hW0.alike (hN.kept hS.2.1)
  have h : ∀ w ∈ Bundle.ownAtoms own ic cls names, w.before args s' = true := vx_own hat' (vx_isRefq hU'.1) (vx_isRefq hN'.1) hU'.2.word hN'.2.word
  have hown' : s'.vm.findClass own = some m.cls := by rw [hvm]; exact hown
  have hins : (Cond.instantiable cls 6).before args s' = true := h _ (by simp [Bundle.ownAtoms])
  obtain ⟨vm₁, cX, kX, hfX, hkX, -, -, X₁, st1⟩ := Y.newCold hexec (own := own) (C := cls) (index := ik) (n := 6) hown' hk' hins hini'
    (g := F0 m pc ls rest) rfl (by rw [hb]; exact d0) (Nat.le_refl _) (Nat.le_refl _)
  generalize hT1 : (T.setVm vm₁).pushCell { cls := cX, slots := kX.instanceTypes.map defaultValue, vm := .none } = T1 at X₁ st1
  have hcat : (Value.ref T.heap.size).category = 1 := rfl
  have hcellA : T1.heap[T.heap.size]? = some (freshCell cX kX) := by rw [← hT1]; exact State.heap_pushCell_size _ _
  have d3' : decode c.code (pc + 3) = .ok (.dup, 1) := by rw [hb]; exact d3
  have d4' : decode c.code (pc + 4) = .ok (.ldc is, 2) := by rw [hb]; exact d4
  have hstr' : vk_R own is text sa s' := vk_R.warm hW0 hstr
  obtain ⟨U, hsteps, hrun, hend, hW, hsame, ce, hce, hO⟩ := X₁.ctorThrowS hexec htr (own := own) (cls := cls) (names := names) (ic := ic) hown' hcls hnames h (fun x hx => nomatch hx) hfX hkX hcellA (by rw [hhp, hT]; exact Nat.le_refl _) (msg := .ref sa) rfl
    (g := { method := m, pc := pc + 6, locals := ls, stack := .ref sa :: .ref T.heap.size :: .ref T.heap.size :: rest, locked := none }) rfl hsize rfl rfl (rest := rest) rfl
    (by rw [hb]; exact d6) (by rw [hb]; exact d9) hout hRframes (by simp only [List.map_cons, List.sum_cons, hcat]; omega) hlocks
  obtain ⟨f1, f2⟩ := vx_frame hsame
  rw [hhp] at f1 f2
  have hWs : s.WarmedH U.vm := State.WarmedH.trans hW0 hW
  have hcl : s.vm.findClass cls = some ce.cls := by
    have h9 := hO.cls
    rw [hvm] at h9
    exact h9
  have hall : s.sameButNew ({ U with vm := s.vm } : State) locs mc ms := by
    subst hA
    obtain ⟨e1, e2⟩ := hsame
    rw [State.setFrames_setFrames] at e1
    have h2 : (T.setVm s.vm).sameButNew ({ U with vm := s.vm } : State) [] (0 + 1) (0 + 6) := ⟨e1, e2⟩
    have h3 := X.same.trans h2
    rw [List.append_nil] at h3
    exact h3.mono hc hs
  refine ⟨U, ?_, .threw T.heap.size, hrun, hend, Or.inr ⟨T.heap.size, rfl, cls, ce, locs, hx U hWs.alike f1 (fun q hq => f2 q hq (fun z hz => nomatch hz)), hce, hO.vm, hcl, hWs, hall, hf⟩⟩
  refine st1 _ ?_
  show Steps p.tables e below (T1.setTop { method := m, pc := pc + 3, locals := ls, stack := .ref T.heap.size :: rest, locked := none }) _
  jvm_step X₁.here [X₁.here.top, hexec, d3', Value.category]
  exact X₁.ldcString hexec (own := own) (text := text) (index := is) (a := sa) hown' hstr'.1 hstr'.2
    (g := { method := m, pc := pc + 4, locals := ls, stack := .ref T.heap.size :: .ref T.heap.size :: rest, locked := none }) rfl d4' _ hsteps
/-- 'throw new E("text")', the text by a wide index -/
theorem vx_throwSW {cc : ByteArray} {pc : Nat} (hexec : p.tables.exec = Jvm.exec) (hb : c.code = cc) (hl : l.stackTraces = false) {own cls text : String} {names : List String} {ik is ic mc ms sa : Nat} {A : Nat → Prop}
    (hown : s.vm.findClass own = some m.cls) (hcls : Bundle.fit cls = true) (hnames : ∀ n ∈ names, Bundle.fit n = true)
    (hk : (Cond.classLink own ik cls).before args s = true) (hini : (Cond.initialized cls).before args s = true) (hstr : vk_R own is text sa s) (hat : ∀ w ∈ vx_atS own ic cls names, w.before args s = true)
    (hgood : ∀ w ∈ Cond.classLink own ik cls :: Cond.initialized cls :: vx_atS own ic cls names, vx_ot w = true)
    (hU : vx_Zq Bundle.tN "UNASSIGNED_STACK" Bundle.steD A s s.heap) (hN : vx_Zq Bundle.tN "SUPPRESSED_SENTINEL" Bundle.listD A s s.heap) (hS : va_S A s.heap H locs) (hsize : ls.size = c.maxLocals)
    (d0 : decode cc pc = .ok (.new ik, 3)) (d3 : decode cc (pc + 3) = .ok (.dup, 1)) (d4 : decode cc (pc + 4) = .ok (.ldc_w is, 3)) (d7 : decode cc (pc + 7) = .ok (.invokespecial ic, 3)) (d10 : decode cc (pc + 10) = .ok (.athrow, 1))
    (hout : ∀ x ∈ c.exceptionTable.toList, covers x (pc + 10) = false)
    (hRframes : names.length + 3 < R.frames) (hRlocals : (rest.map fun v => v.category).sum + (13 * (names.length + 1) + 43) ≤ R.locals) (hRcells : cells + 1 ≤ R.cells) (hRslots : slots + 6 ≤ R.slots) (hlocks : meth.locks = false)
    (hx : ∀ t : State, s.vm.Alike t.vm → H.size ≤ t.heap.size → (∀ q : Nat, q < H.size → t.heap[q]? = H[q]?) → XC cls s t)
    (hf : ∀ z ∈ locs, free z.base) (hc : cells + 1 ≤ mc) (hs : slots + 6 ≤ ms) :
    W p l e R s m args below meth c H locs cells slots (vx_MQ below Qc XC args s mc ms free) (F0 m pc ls rest) := by
  intro T hT X
  have htr : e.platform.stackTraces = false := (show e.platform.stackTraces = l.stackTraces by rw [X.admits.platform]).trans hl
  have Y := vx_rebase X (R' := { frames := R.frames, locals := R.locals, cells := 1, slots := 6 }) (Nat.le_refl _) (Nat.le_refl _) hRcells hRslots
  obtain ⟨s', hA⟩ : ∃ z, z = (T.setVm s.vm).setFrames (.invoking m args :: below) := ⟨_, rfl⟩
  rw [← hA] at Y
  have hvm : s'.vm = s.vm := by rw [hA]; rfl
  have hhp : s'.heap = H := by rw [hA]; exact hT
  have hW0 : s.WarmedH s'.vm := by rw [hvm]; exact State.WarmedH.refl s
  have hat' : ∀ w ∈ vx_atS own ic cls names, w.before args s' = true := fun w hw => vx_ot_at hW0 hvm.symm (hgood w (List.mem_cons_of_mem _ (List.mem_cons_of_mem _ hw))) (hat w hw)
  have hk' : (Cond.classLink own ik cls).before args s' = true := vx_ot_at hW0 hvm.symm (hgood _ List.mem_cons_self) hk
  have hini' : (Cond.initialized cls).before args s' = true := vx_ot_at hW0 hvm.symm (hgood _ (List.mem_cons_of_mem _ List.mem_cons_self)) hini
  have hU' : vx_Zq Bundle.tN "UNASSIGNED_STACK" Bundle.steD A s' s'.heap := by rw [hhp]; exact vx_Zq.moved hW0.alike (hU.kept hS.2.1)
  have hN' : vx_Zq Bundle.tN "SUPPRESSED_SENTINEL" Bundle.listD A s' s'.heap := by rw [hhp]; exact vx_Zq.moved hW0.alike (hN.kept hS.2.1)
  have h : ∀ w ∈ Bundle.ownAtoms own ic cls names, w.before args s' = true := vx_own hat' (vx_isRefq hU'.1) (vx_isRefq hN'.1) hU'.2.word hN'.2.word
  have hown' : s'.vm.findClass own = some m.cls := by rw [hvm]; exact hown
  have hins : (Cond.instantiable cls 6).before args s' = true := h _ (by simp [Bundle.ownAtoms])
  obtain ⟨vm₁, cX, kX, hfX, hkX, -, -, X₁, st1⟩ := Y.newCold hexec (own := own) (C := cls) (index := ik) (n := 6) hown' hk' hins hini'
    (g := F0 m pc ls rest) rfl (by rw [hb]; exact d0) (Nat.le_refl _) (Nat.le_refl _)
  generalize hT1 : (T.setVm vm₁).pushCell { cls := cX, slots := kX.instanceTypes.map defaultValue, vm := .none } = T1 at X₁ st1
  have hcat : (Value.ref T.heap.size).category = 1 := rfl
  have hcellA : T1.heap[T.heap.size]? = some (freshCell cX kX) := by rw [← hT1]; exact State.heap_pushCell_size _ _
  have d3' : decode c.code (pc + 3) = .ok (.dup, 1) := by rw [hb]; exact d3
  have d4' : decode c.code (pc + 4) = .ok (.ldc_w is, 3) := by rw [hb]; exact d4
  have hstr' : vk_R own is text sa s' := vk_R.warm hW0 hstr
  obtain ⟨U, hsteps, hrun, hend, hW, hsame, ce, hce, hO⟩ := X₁.ctorThrowS hexec htr (own := own) (cls := cls) (names := names) (ic := ic) hown' hcls hnames h (fun x hx => nomatch hx) hfX hkX hcellA (by rw [hhp, hT]; exact Nat.le_refl _) (msg := .ref sa) rfl
    (g := { method := m, pc := pc + 7, locals := ls, stack := .ref sa :: .ref T.heap.size :: .ref T.heap.size :: rest, locked := none }) rfl hsize rfl rfl (rest := rest) rfl
    (by rw [hb]; exact d7) (by rw [hb]; exact d10) hout hRframes (by simp only [List.map_cons, List.sum_cons, hcat]; omega) hlocks
  obtain ⟨f1, f2⟩ := vx_frame hsame
  rw [hhp] at f1 f2
  have hWs : s.WarmedH U.vm := State.WarmedH.trans hW0 hW
  have hcl : s.vm.findClass cls = some ce.cls := by
    have h9 := hO.cls
    rw [hvm] at h9
    exact h9
  have hall : s.sameButNew ({ U with vm := s.vm } : State) locs mc ms := by
    subst hA
    obtain ⟨e1, e2⟩ := hsame
    rw [State.setFrames_setFrames] at e1
    have h2 : (T.setVm s.vm).sameButNew ({ U with vm := s.vm } : State) [] (0 + 1) (0 + 6) := ⟨e1, e2⟩
    have h3 := X.same.trans h2
    rw [List.append_nil] at h3
    exact h3.mono hc hs
  refine ⟨U, ?_, .threw T.heap.size, hrun, hend, Or.inr ⟨T.heap.size, rfl, cls, ce, locs, hx U hWs.alike f1 (fun q hq => f2 q hq (fun z hz => nomatch hz)), hce, hO.vm, hcl, hWs, hall, hf⟩⟩
  refine st1 _ ?_
  show Steps p.tables e below (T1.setTop { method := m, pc := pc + 3, locals := ls, stack := .ref T.heap.size :: rest, locked := none }) _
  jvm_step X₁.here [X₁.here.top, hexec, d3', Value.category]
  exact X₁.ldcStringW hexec (own := own) (text := text) (index := is) (a := sa) hown' hstr'.1 hstr'.2
    (g := { method := m, pc := pc + 4, locals := ls, stack := .ref T.heap.size :: .ref T.heap.size :: rest, locked := none }) rfl d4' _ hsteps
end Ends
section Bodies
variable {l : Launch}
theorem vx_ofW {y : MethodName} {ws ws' : List Cond} {rm : Room} {Pc : Array Value → State → Prop} {Qc : Array Value → State → Outcome → State → Prop} {XC : String → State → State → Prop} {mc ms : Nat} {free : Addr → Prop} {cc : ByteArray} {maxL : Nat} {ret : Option FieldType}
    (hy : plainName y.cls = true) (hw : ws = Cond.code y cc maxL ret :: ws')
    (body : ∀ p e s m args below meth c s₁, BodyLoose p l y (headSpec ws rm) cc maxL ret e s m args below meth c s₁ → c.maxLocals = maxL → (∀ x ∈ c.exceptionTable.toList, False) → Pc args s →
      W p l e (headSpec ws rm).room s m args below meth c s.heap [] 0 0 (vx_MQ below Qc XC args s mc ms free) (entryFrame m args maxL)) : vx_Met l y ws rm Pc Qc XC mc ms free := by
  refine MetFree.of_bodyS (code := cc) (maxLocals := maxL) (ret := ret) hy ?_ ?_
  · intro args s m h hn
    obtain ⟨meth, c, h1, h2, h3, h4, h5, h6, -, -⟩ := Cond.code_spec hn (atoms_spec (ws := ws) h _ (by rw [hw]; exact List.mem_cons_self))
    exact ⟨meth, c, h1, h2, h3, h4, h5, h6⟩
  · intro p e s m args below meth c s₁ B hml hP _
    have hh0 : s₁.heap = s.heap := by rw [B.state]; rfl
    have ht : ∀ x ∈ c.exceptionTable.toList, False := by
      obtain ⟨meth9, c9, h1, h2, -, -, -, -, h7, -⟩ := Cond.code_spec B.named (atoms_spec (ws := ws) B.pre _ (by rw [hw]; exact List.mem_cons_self))
      cases Option.some.inj (h1.symm.trans B.method)
      cases Option.some.inj (h2.symm.trans (Stand.of_body B).code)
      intro x hx
      rw [Array.isEmpty_iff.mp h7] at hx
      cases hx
    obtain ⟨t, a1, o, b1, b2, b3⟩ := body p e s m args below meth c s₁ B hml ht hP s₁ hh0 (Stand.of_body B)
    exact ⟨t, o, a1, b1, b2, b3⟩
/-- the table of a body with handlers -/
theorem vx_table {p : Program} {x y : MethodName} {S : Spec} {cc bytes : ByteArray} {maxL maxL' : Nat} {ret ret' : Option FieldType} {e : Env} {s s₁ : State} {m : MethodId} {args : Array Value} {below : List Frame} {meth : Method} {c : Code} {hh : List (Nat × Nat × Nat × Nat)}
    (B : BodyLoose p l y S cc maxL ret e s m args below meth c s₁) (h : (Cond.codeWith y bytes maxL' ret' hh).before args s = true) : c.exceptionTable.toList = tableOf hh := by
  obtain ⟨m9, meth9, c9, hn9, h1, h2, -, -, h6, -⟩ := Cond.codeWith_spec h
  cases Option.some.inj (hn9.symm.trans B.named)
  cases Option.some.inj (h1.symm.trans B.method)
  cases Option.some.inj (h2.symm.trans (Stand.of_body B).code)
  rw [← h6, table_eq]
end Bodies
end VXA
/-! ===== END ===== -/
/-! ===== BEGIN a static call of a method with an exception table ===== -/
section VXS
variable {p : Program} {l : Launch} {e : Env} {R : Room} {s : State} {m : MethodId} {args : Array Value} {below : List Frame} {meth : Method} {c : Code} {T : State} {H : Heap} {locs : List Loc} {cells slots : Nat}
abbrev vx_CSW (R : Room) (s : State) (args : Array Value) (own : String) (index : Nat) (y : MethodName) (bytes : ByteArray) (maxL : Nat) (ret : Option FieldType) (hh : List (Nat × Nat × Nat × Nat)) (ws : List Cond) (rm : Room) (mc ms n : Nat) : Prop :=
  (rm.cells = mc ∧ rm.slots = ms ∧ rm.frames + 1 ≤ R.frames ∧ 8 + (maxL + 11) + rm.locals ≤ R.locals ∧ (∀ w ∈ ws, ∀ (a' : Array Value) (U : State), s.WarmedH U.vm → w.before a' U = true) ∧ Cond.codeWith y bytes maxL ret hh ∈ ws) ∧
  (Cond.codeWith y bytes maxL ret hh).before args s = true ∧ (Cond.initialized y.cls).before args s = true ∧ (y.cls ≠ "java/lang/invoke/MethodHandle" ∧ y.cls ≠ "java/lang/invoke/VarHandle") ∧
  (∀ sig, parseMethodDescriptor y.desc = some sig → n = sig.parameters.length) ∧ (Cond.methodLink own index y).before args s = true ∧ (Cond.static y).before args s = true
theorem vx_cwSW {own : String} {index maxL mc ms : Nat} {y : MethodName} {bytes : ByteArray} {ret : Option FieldType} {hh : List (Nat × Nat × Nat × Nat)} {Ts ws ws' : List Cond} {rm : Room} (n : Nat) (ht : ∀ w ∈ Ts, w.before args s = true) (hT : GoodIn Ts (va_wsS own index y ws)) (hw : ws = Cond.codeWith y bytes maxL ret hh :: ws') (hrc : rm.cells = mc) (hrs : rm.slots = ms)
    (hd : y.cls ≠ "java/lang/invoke/MethodHandle" ∧ y.cls ≠ "java/lang/invoke/VarHandle" ∧ (parseMethodDescriptor y.desc).map (fun d => d.parameters.length) = some n) (hR : rm.frames + 1 ≤ R.frames ∧ 8 + (maxL + 11) + rm.locals ≤ R.locals) :
    vx_CSW R s args own index y bytes maxL ret hh ws rm mc ms n := by
  have ok : ∀ w ∈ va_wsS own index y ws, w.before args s = true := fun w h => ht w (hT w h).1
  have hG : GoodIn Ts ws := fun w h => hT w (by unfold va_wsS; exact List.mem_append_right _ h)
  have hc : Cond.codeWith y bytes maxL ret hh ∈ ws := by rw [hw]; exact List.mem_cons_self
  refine ⟨⟨hrc, hrs, hR.1, hR.2, pay_in ht hG, hc⟩, ht _ (hG _ hc).1, ok _ (by simp [va_wsS]), ⟨hd.1, hd.2.1⟩, fun sig h => ?_, ok _ (by simp [va_wsS]), ok _ (by simp [va_wsS])⟩
  have h2 := hd.2.2
  rw [h] at h2
  exact (Option.some.inj h2).symm
theorem vx_callSW (X : Stand p l e R s m args below meth c T locs cells slots) (hexec : p.tables.exec = Jvm.exec) {own : String} {index : Nat} {y : MethodName} {bytes : ByteArray} {maxL : Nat} {ret : Option FieldType} {hh : List (Nat × Nat × Nat × Nat)}
    (hown : s.vm.findClass own = some m.cls) (hlink : (Cond.methodLink own index y).before args s = true) (hstat : (Cond.static y).before args s = true) (hinit : (Cond.initialized y.cls).before args s = true)
    (hcode : (Cond.codeWith y bytes maxL ret hh).before args s = true) (hy : y.cls ≠ "java/lang/invoke/MethodHandle" ∧ y.cls ≠ "java/lang/invoke/VarHandle")
    {W9 : Nat} {Pre : Pt → Array Value → Prop} {Post : Pt → Array Value → Option Value → Pt → Prop} (hK : Back l R p e below s args y 3 W9 Pre Post)
    {g : JFrame} (hg : g.method = m) (hsize : g.locals.size = c.maxLocals) {argsL rest : List Value} (hlen : ∀ sig, parseMethodDescriptor y.desc = some sig → argsL.length = sig.parameters.length)
    (hstack : g.stack = argsL.reverse ++ rest) (hW : 2 * g.monitorRoom + (rest.map fun v => v.category).sum ≤ W9) (hdg : decode c.code g.pc = .ok (.invokestatic index, 3))
    (hpre : ∀ vm₁, s.WarmedH vm₁ → Pre ⟨T.setVm vm₁, locs, cells, slots⟩ argsL.toArray) :
    ∃ (v : Option Value) (vm₁ : Vm) (B : Pt), s.WarmedH vm₁ ∧ Stand p l e R s m args below meth c B.U B.locs B.cells B.slots ∧ Post ⟨T.setVm vm₁, locs, cells, slots⟩ argsL.toArray v B ∧
      ∀ target, Steps p.tables e below (B.U.setTop { g with pc := g.pc + 3, stack := v.toList ++ rest }) target → Steps p.tables e below (T.setTop g) target := by
  obtain ⟨mk, methM, cM, hnamed, hmethM, -, -, -, -, -, -, hsigM⟩ := Cond.codeWith_spec hcode
  have hstatic : methM.isStatic = true := Cond.static_spec hnamed hmethM hstat
  obtain ⟨kP, hkP, -⟩ := className_of_methodNamed hnamed
  have hinitP : kP.init = .initialized := Cond.initialized_spec (findClass_of_methodNamed hnamed) hkP hinit
  obtain ⟨vm₁, X₁, hstep₁⟩ := X.invokestatic hexec hown hlink hnamed hmethM hstatic hkP hinitP hy (g := g) hg (argsL := argsL) (rest := rest) (hlen _ hsigM) hstack hdg
  obtain ⟨v, B, X', hpost, hsteps⟩ := hK m meth c ⟨T.setVm vm₁, locs, cells, slots⟩ { g with stack := rest } (.invokestatic index) mk argsL.toArray X₁ hg hsize hdg hW (X₁.named hnamed) (hpre vm₁ X₁.warmed)
  exact ⟨v, vm₁, B, X₁.warmed, X', hpost, fun target h => hstep₁ _ fun acts => by rw [doInvoke_state]; exact hsteps.trans h⟩
theorem vx_runSW {y : MethodName} {bytes cc : ByteArray} {maxL nL mc ms n index : Nat} {ret : Option FieldType} {hh : List (Nat × Nat × Nat × Nat)} {ws : List Cond} {rm : Room} {Pc : Array Value → State → Prop} {Qc : Array Value → State → Outcome → State → Prop} {free : Addr → Prop} {Ts : List Cond} {own : String} {As rest : List Value} {g : JFrame}
    (S : CallFix p m c cc nL s args Ts own) (hM : Met l y ws rm Pc Qc mc ms free) (cw : vx_CSW R s args own index y bytes maxL ret hh ws rm mc ms n) (hp : PreS s H Pc As)
    (hg : g.method = m) (hn : As.length = n) (hsize : g.locals.size = nL) (hstack : g.stack = As.reverse ++ rest) (hW : 2 * g.monitorRoom + (rest.map fun v => v.category).sum ≤ 8) (hdg : decode cc g.pc = .ok (.invokestatic index, 3)) (hf : cells + mc ≤ R.cells ∧ slots + ms ≤ R.slots) :
    va_Run p l e R s m args below meth c H locs cells slots mc ms g rest (Qc As.toArray) (free) := by
  obtain ⟨⟨hrc, hrs, hfr, hlo, hws, hcw⟩, hcode, hini, hy, hlen, hl, hstt⟩ := cw
  have hK : Back l R p e below s args y 3 8 (PreOf R mc ms Pc) (PostOf Qc mc ms free) := va_backW (hh := hh) (bytes := bytes) (maxL := maxL) (ret := ret) hM hp.1 hrc hrs hfr hlo hws hcw (fun a' U hW => word_at hW (Or.inl (by first | rfl | simp [Cond.onTables, Cond.keeps, Cond.steady])) hini)
  obtain ⟨hx, hb, hml, ho, -⟩ := S
  intro T hT X
  obtain ⟨v, vm₁, ⟨U', l2, c2, s2⟩, hW₁, X', ⟨g', mk, t, L, e1, e2, hq, h1, hL, h2, h3⟩, st⟩ := vx_callSW X hx (hh := hh) (bytes := bytes) (maxL := maxL) (ret := ret) ho hl hstt hini hcode hy hK hg (hsize.trans hml.symm) (argsL := As) (rest := rest) (fun sig h => hn.trans (hlen sig h)) hstack hW (by rw [hb]; exact hdg)
    (fun vm₁ hW₁ => ⟨hf.1, hf.2, hp.2 (T.setVm vm₁) hT hW₁⟩)
  dsimp only [Pt.U, Pt.locs, Pt.cells, Pt.slots] at X' e1 e2 h1 h2 h3 st
  subst h1; subst h2; subst h3
  exact ⟨v, (T.setVm vm₁).calling g' mk As.toArray, t, U', L, hT, X', hL, e1, e2, hq, st⟩
/-- not caught here, past rows that name other classes: it goes on to the caller -/
theorem vx_outP {p : Program} {l : Launch} {e : Env} {R : Room} {s : State} {m : MethodId} {args : Array Value} {below : List Frame} {meth : Method} {c : Code} {H : Heap} {locs : List Loc} {cells slots : Nat} {free : Addr → Prop} {ls : Array Slot} {rest : List Value} {Qc : Array Value → State → Outcome → State → Prop} {XC : String → State → State → Prop}
    {pc : Nat} {own E : String} {ce : Cell} {q : Addr} {mc ms : Nat} (hown : s.vm.findClass own = some m.cls) (hlocks : meth.locks = false)
    (hpass : ∀ z ∈ c.exceptionTable.toList, covers z pc = false ∨ (z.catchType ≠ 0 ∧ ∃ nm : String, (Cond.classLink own z.catchType nm).before args s = true ∧ va_Nc E nm s)) (hcell : H[q]? = some ce) (hv : ce.vm = .none) (hcl : s.vm.findClass E = some ce.cls)
    (hx : ∀ t : State, t.heap = H → s.vm.Alike t.vm → XC E s t) (hf : ∀ z ∈ locs, free z.base) (hc : cells ≤ mc) (hs : slots ≤ ms) :
    vx_W p l e R s m args below meth c H locs cells slots (vx_MQ below Qc XC args s mc ms free) (F0 m pc ls rest) q := by
  intro T hT X
  have hpl : e.platform.magicAccessors = ({} : Platform).magicAccessors := by rw [X.admits.platform]
  obtain ⟨vm', hW', X', st⟩ := X.outThrough hlocks q (g := F0 m pc ls rest) rfl rfl rfl (cell := ce) (by rw [hT]; exact hcell) (by rw [hv]; rfl)
    (by obtain ⟨k9, h9, -⟩ := Vm.findClass_spec hcl; exact ⟨k9, h9⟩) (fun z hz => by
      rcases hpass z hz with h | ⟨hz0, nm, hl1, hn1⟩
      · exact Or.inl h
      · obtain ⟨c6, hc6, hcl6⟩ := Cond.classLink_spec hown hl1 e.platform hpl
        obtain ⟨a8, b8, h1, h2, h3⟩ := hn1
        cases Option.some.inj (h1.symm.trans hcl)
        cases Option.some.inj (h2.symm.trans hc6)
        exact Or.inr ⟨hz0, _, hcl6, h3⟩)
  obtain ⟨g₀, hfr⟩ := X'.frames_eq
  have hcell9 : ((T.setVm vm').setFrames (.throwing q :: below)).heap[q]? = some ce := by
    show T.heap[q]? = some ce
    rw [hT]; exact hcell
  have hend : Ended ((T.setVm vm').setFrames (.throwing q :: below)) below (.threw q) := State.frames_setFrames _ (State.cur_lt_of_frames hfr)
  refine ⟨(T.setVm vm').setFrames (.throwing q :: below), ?_, .threw q, X'.here.running, hend, Or.inr ⟨q, rfl, E, ce, locs, hx _ hT (X'.ends _).1.alike, hcell9, hv, hcl, (X'.ends _).1, (X'.ends _).2.mono hc hs, hf⟩⟩
  rw [X.pushThrowing_eq]
  exact st
/-- a thing of a world lies in the heap -/
theorem vx_lt {D : va_G} {cl : List vw_C} {ws : va_W} {H1 : Heap} (h : va_P D cl ws H1) {k : Nat} {q : Nat × va_E} (hk : ws[k]? = some q) : q.1 < H1.size := (h k q hk).lt
end VXS
/-! ===== END ===== -/
/-! ===== BEGIN methods with a table of their own: called by a name, returning or throwing ===== -/
section VXH
/-! vx_backW, vx_callVX, vx_callSX, vx_callVW, vx_runVW, vx_runVX, vx_runSX, vx_ofWH follow the same proofs as their sisters above (Free/Laws.lean, Shelf42/LK1.lean); vx_outP calls Shelf42/NT130.lean (outThrough). -/
section
variable {l : Launch} {R : Room} {p : Program} {e : Env} {below : List Frame} {s : State} {sargs : Array Value} {y : MethodName} {len W9 : Nat}
theorem vx_backW {ws : List Cond} {rm : Room} {Pc : Array Value → State → Prop} {Qc : Array Value → State → Outcome → State → Prop} {XC : String → State → State → Prop} {mc ms : Nat} {free : Addr → Prop} {bytes : ByteArray} {maxL : Nat} {ret : Option FieldType} {hh : List (Nat × Nat × Nat × Nat)}
    (hM : vx_Met l y ws rm Pc Qc XC mc ms free) (hblind : FrameBlind Pc) (hrc : rm.cells = mc) (hrs : rm.slots = ms)
    (hframes : rm.frames + 1 ≤ R.frames) (hlocals : W9 + (maxL + 11) + rm.locals ≤ R.locals)
    (hws : ∀ w ∈ ws, ∀ a' U, s.WarmedH U.vm → w.before a' U = true) (hcode : Cond.codeWith y bytes maxL ret hh ∈ ws) (hinit : ∀ a' U, s.WarmedH U.vm → (Cond.initialized y.cls).before a' U = true) :
    vx_Back l R p e below s sargs y len W9 (PreOf R mc ms Pc) (PostOf Qc mc ms free) (vx_Post XC mc ms free) := by
  intro m meth c A g ig mk a X hg hsize hdg hW hn hp
  have h1 : (headSpec ws rm).pre.before a A.U = true := atoms_intro fun w hw => hws w hw _ _ X.warmed
  have h2 : (Cond.codeWith y bytes maxL ret hh).before a A.U = true := hws _ hcode _ _ X.warmed
  have h3 : (Cond.initialized y.cls).before a A.U = true := hinit _ _ X.warmed
  have h4 : A.cells + (headSpec ws rm).room.cells ≤ R.cells := by rw [show (headSpec ws rm).room.cells = mc from hrc]; exact hp.1
  have h5 : A.slots + (headSpec ws rm).room.slots ≤ R.slots := by rw [show (headSpec ws rm).room.slots = ms from hrs]; exact hp.2.1
  have hPc : Pc a (A.U.calling g mk a) := hblind _ _ _ _ hp.2.2
  obtain ⟨U, Ls, c0, s0⟩ := A
  dsimp only [Pt.U, Pt.locs, Pt.cells, Pt.slots] at h1 h2 h3 h4 h5 X hn hPc ⊢
  obtain ⟨m9, methY, cY, hn9, hmY, hcY, -, hlY, -⟩ := Cond.codeWith_spec h2
  cases Option.some.inj (hn9.symm.trans hn)
  obtain ⟨kY, hkY, -⟩ := className_of_methodNamed hn
  have hinitY : kY.init = .initialized := Cond.initialized_spec (findClass_of_methodNamed hn) hkY h3
  have h : At U g.method c below := by rw [hg]; exact X.here
  have hlocals9 : W9 + (maxL + 11) + (headSpec ws rm).room.locals ≤ R.locals := hlocals
  have happ : (headSpec ws rm).appliesLoose y e.platform (U.calling g mk a) = true :=
    Spec.appliesLoose_calling (g := g) h hdg hn hkY hinitY
      (X.room_calling (g := g) (R' := (headSpec ws rm).room) hsize hmY hcY hframes (by rw [hlY]; omega) h4 h5) h1
  obtain ⟨mid, hmid⟩ := h.above
  have hfr : (U.setTop g).frames = (.java g :: mid) ++ below := by rw [State.frames_setTop' g h.top, hmid]; rfl
  obtain ⟨o, s₂, hsteps, -, hend, hq⟩ := Steps.callFree hM p X.admits X.cas X.clock (acts := []) hfr happ hPc trivial
  have hq' : vx_Q Qc XC mc ms free a (U.calling g mk a) o s₂ := hq
  rw [State.frames_setTop' g h.top] at hend
  obtain ⟨g₀, hg0⟩ := Option.isSome_iff_exists.mp h.top
  obtain ⟨r, hr⟩ := State.topJava?_eq_some.mp hg0
  have hr' : (({ U with heap := s₂.heap, slotsUsed := s₂.slotsUsed } : State).setVm s₂.vm).frames = .java g₀ :: r := hr
  rcases hq' with ⟨hqc, L, hfe, hL⟩ | ⟨q, rfl, E, ce, L, hx, hce, hcv, hcl, hW₂, hsm, hL⟩
  · obtain ⟨⟨v, rfl⟩, hW₂, e2, q2, q3, q4, q5, q6⟩ := id hfe
    have e3 : s₂ = ({ (U.calling g mk a).setFrames s₂.frames with heap := s₂.heap, slotsUsed := s₂.slotsUsed } : State).setVm s₂.vm := by
      have : s₂ = ({ s₂ with vm := (U.calling g mk a).vm } : State).setVm s₂.vm := rfl
      rw [e2] at this
      exact this
    obtain ⟨c₂, i₂, len₂, hc₂, hd₂, hf₂⟩ := hend
    have hW' : U.WarmedH s₂.vm := hW₂
    have hcc : c₂ = c := by
      have h1 : s₂.code? g.method = U.code? g.method := by
        rw [State.code?_eq, State.code?_eq, hW'.alike.method?]
      exact Option.some.inj (hc₂.symm.trans (h1.trans h.code))
    subst hcc
    have hlen : len₂ = len := by rw [hdg] at hd₂; cases hd₂; rfl
    subst hlen
    have hs₂ : s₂ = (({ U with heap := s₂.heap, slotsUsed := s₂.slotsUsed } : State).setVm s₂.vm).setTop { g with pc := g.pc + len₂, stack := v.toList ++ g.stack } := by
      refine e3.trans ?_
      rw [hf₂, State.calling_eq h.top, State.setFrames_setFrames, State.setTop_of_frames _ hr', hr]
      rfl
    have hsame : U.sameButNew ({ U with heap := s₂.heap, slotsUsed := s₂.slotsUsed } : State) L mc ms := by
      refine ⟨?_, q2, q3, q4, q5, q6⟩
      obtain ⟨t, ht, -⟩ := State.frames_cons hr
      show ({ U with heap := s₂.heap, slotsUsed := s₂.slotsUsed } : State) = { U.setFrames U.frames with heap := s₂.heap, slotsUsed := s₂.slotsUsed }
      rw [State.setFrames_self ht]
    subst hg
    refine Or.inl ⟨v, ⟨(({ U with heap := s₂.heap, slotsUsed := s₂.slotsUsed } : State).setVm s₂.vm), Ls ++ L, c0 + mc, s0 + ms⟩,
      ⟨X.admits, X.cas, X.clock, X.frames, X.room, X.hears, X.method, X.code, (X.here.setHeapUsed s₂.heap s₂.slotsUsed).setVm hW'.alike, X.tail, State.WarmedH.trans X.warmed hW', X.limits, X.bytes, X.same.trans (hsame.setVm s.vm)⟩,
      ⟨g, mk, s₂, L, rfl, rfl, hqc, rfl, hL, rfl, rfl⟩, ?_⟩
    show Steps p.tables e below _ ((({ U with heap := s₂.heap, slotsUsed := s₂.slotsUsed } : State).setVm s₂.vm).setTop { g with pc := g.pc + len₂, stack := v.toList ++ g.stack })
    rw [← hs₂]
    exact hsteps
  · obtain ⟨e2, q2, q3, q4, q5, q6⟩ := id hsm
    have e3 : s₂ = ({ (U.calling g mk a).setFrames s₂.frames with heap := s₂.heap, slotsUsed := s₂.slotsUsed } : State).setVm s₂.vm := by
      have : s₂ = ({ s₂ with vm := (U.calling g mk a).vm } : State).setVm s₂.vm := rfl
      rw [e2] at this
      exact this
    have hf₂ : s₂.frames = .throwing q :: .java g :: U.frames.tail := hend
    have hW' : U.WarmedH s₂.vm := hW₂
    have hs₂ : s₂ = ((({ U with heap := s₂.heap, slotsUsed := s₂.slotsUsed } : State).setVm s₂.vm).setTop g).pushFrame (.throwing q) := by
      refine e3.trans ?_
      rw [hf₂, State.calling_eq h.top, State.setFrames_setFrames, State.pushFrame, State.frames_setTop _ hr', State.setTop_of_frames _ hr', State.setFrames_setFrames, hr]
      rfl
    have hsame : U.sameButNew ({ U with heap := s₂.heap, slotsUsed := s₂.slotsUsed } : State) L mc ms := by
      refine ⟨?_, q2, q3, q4, q5, q6⟩
      obtain ⟨t, ht, -⟩ := State.frames_cons hr
      show ({ U with heap := s₂.heap, slotsUsed := s₂.slotsUsed } : State) = { U.setFrames U.frames with heap := s₂.heap, slotsUsed := s₂.slotsUsed }
      rw [State.setFrames_self ht]
    subst hg
    refine Or.inr ⟨q, ⟨(({ U with heap := s₂.heap, slotsUsed := s₂.slotsUsed } : State).setVm s₂.vm), Ls ++ L, c0 + mc, s0 + ms⟩,
      ⟨X.admits, X.cas, X.clock, X.frames, X.room, X.hears, X.method, X.code, (X.here.setHeapUsed s₂.heap s₂.slotsUsed).setVm hW'.alike, X.tail, State.WarmedH.trans X.warmed hW', X.limits, X.bytes, X.same.trans (hsame.setVm s.vm)⟩,
      ⟨g, mk, s₂, L, E, ce, rfl, rfl, hx, hce, hcv, hcl, rfl, hL, rfl, rfl⟩, ?_⟩
    show Steps p.tables e below _ (((({ U with heap := s₂.heap, slotsUsed := s₂.slotsUsed } : State).setVm s₂.vm).setTop g).pushFrame (.throwing q))
    rw [← hs₂]
    exact hsteps
end
variable {p : Program} {l : Launch} {e : Env} {R : Room} {s : State} {m : MethodId} {args : Array Value} {below : List Frame} {meth : Method} {c : Code} {T : State} {H : Heap} {locs : List Loc} {cells slots : Nat}
theorem vx_callVX (X : Stand p l e R s m args below meth c T locs cells slots) (hexec : p.tables.exec = Jvm.exec) {own C : String} {index : Nat} {y : MethodName} {bytes : ByteArray} {maxL : Nat} {ret : Option FieldType} {hh : List (Nat × Nat × Nat × Nat)}
    (hown : s.vm.findClass own = some m.cls) (hlink : (Cond.methodLink own index y).before args s = true) (hinst : (Cond.instanceMethod y).before args s = true) (hsel : (Cond.selects C y y).before args s = true)
    (hcode : (Cond.codeWith y bytes maxL ret hh).before args s = true) (hy : y.cls ≠ "java/lang/invoke/MethodHandle" ∧ y.cls ≠ "java/lang/invoke/VarHandle")
    {W9 : Nat} {Pre : Pt → Array Value → Prop} {Post : Pt → Array Value → Option Value → Pt → Prop} {PostX : Pt → Array Value → Addr → Pt → Prop} (hK : vx_Back l R p e below s args y 3 W9 Pre Post PostX)
    {b : Addr} {cellB : Cell} (hcell : T.heap[b]? = some cellB) (hobj : cellB.vm.isStatics = false) (hcls : s.vm.findClass C = some cellB.cls)
    {g : JFrame} (hg : g.method = m) (hsize : g.locals.size = c.maxLocals) {argsL rest : List Value} (hlen : ∀ sig, parseMethodDescriptor y.desc = some sig → argsL.length = sig.parameters.length)
    (hstack : g.stack = argsL.reverse ++ .ref b :: rest) (hW : 2 * g.monitorRoom + (rest.map fun v => v.category).sum ≤ W9) (hdg : decode c.code g.pc = .ok (.invokevirtual index, 3))
    (hpre : ∀ vm₁, s.WarmedH vm₁ → Pre ⟨T.setVm vm₁, locs, cells, slots⟩ (Value.ref b :: argsL).toArray) :
    (∃ (v : Option Value) (vm₁ : Vm) (B : Pt), s.WarmedH vm₁ ∧ Stand p l e R s m args below meth c B.U B.locs B.cells B.slots ∧ Post ⟨T.setVm vm₁, locs, cells, slots⟩ (Value.ref b :: argsL).toArray v B ∧
      ∀ target, Steps p.tables e below (B.U.setTop { g with pc := g.pc + 3, stack := v.toList ++ rest }) target → Steps p.tables e below (T.setTop g) target) ∨
    (∃ (q : Addr) (vm₁ : Vm) (B : Pt), s.WarmedH vm₁ ∧ Stand p l e R s m args below meth c B.U B.locs B.cells B.slots ∧ PostX ⟨T.setVm vm₁, locs, cells, slots⟩ (Value.ref b :: argsL).toArray q B ∧
      Steps p.tables e below (T.setTop g) ((B.U.setTop { g with stack := rest }).pushFrame (.throwing q))) := by
  obtain ⟨mk, methM, hnamed, hmethM, hstM, habM⟩ := Cond.instanceMethod_spec hinst
  obtain ⟨m8, methM', cM, hn8, hmethM', -, -, -, -, -, -, hsigM⟩ := Cond.codeWith_spec hcode
  cases Option.some.inj (hn8.symm.trans hnamed)
  cases hmethM.symm.trans hmethM'
  obtain ⟨c2, r2, m2, q1, q2, q3, q4, kP, hkP, hkPi⟩ := Cond.selects_spec hsel
  cases hcls.symm.trans q1
  cases (State.methodFound?_of_named hnamed hy).symm.trans q2
  cases hnamed.symm.trans q3
  have hselP : selectMethod e.platform s.vm cellB.cls mk = .method mk := by rw [Launch.admits_selectMethod X.admits]; exact q4
  obtain ⟨vm₁, X₁, hstep₁⟩ := X.invokevirtual hexec hown hlink hnamed hmethM hstM hkP hkPi hy (a := b) (cell := cellB) hcell
    (fun z h => by rw [h] at hobj; cases hobj) hselP hmethM habM hkP hkPi (g := g) hg (argsL := argsL) (rest := rest) (hlen _ hsigM) hstack hdg
  rcases hK m meth c ⟨T.setVm vm₁, locs, cells, slots⟩ { g with stack := rest } (.invokevirtual index) mk (Value.ref b :: argsL).toArray X₁ hg hsize hdg hW (X₁.named hnamed) (hpre vm₁ X₁.warmed) with ⟨v, B, X', hpost, hsteps⟩ | ⟨q, B, X', hpost, hsteps⟩
  · exact Or.inl ⟨v, vm₁, B, X₁.warmed, X', hpost, fun target h => hstep₁ _ fun acts => by rw [doInvoke_state]; exact hsteps.trans h⟩
  · exact Or.inr ⟨q, vm₁, B, X₁.warmed, X', hpost, hstep₁ _ fun acts => by rw [doInvoke_state]; exact hsteps⟩
theorem vx_callSX (X : Stand p l e R s m args below meth c T locs cells slots) (hexec : p.tables.exec = Jvm.exec) {own : String} {index : Nat} {y : MethodName} {bytes : ByteArray} {maxL : Nat} {ret : Option FieldType} {hh : List (Nat × Nat × Nat × Nat)}
    (hown : s.vm.findClass own = some m.cls) (hlink : (Cond.methodLink own index y).before args s = true) (hstat : (Cond.static y).before args s = true) (hinit : (Cond.initialized y.cls).before args s = true)
    (hcode : (Cond.codeWith y bytes maxL ret hh).before args s = true) (hy : y.cls ≠ "java/lang/invoke/MethodHandle" ∧ y.cls ≠ "java/lang/invoke/VarHandle")
    {W9 : Nat} {Pre : Pt → Array Value → Prop} {Post : Pt → Array Value → Option Value → Pt → Prop} {PostX : Pt → Array Value → Addr → Pt → Prop} (hK : vx_Back l R p e below s args y 3 W9 Pre Post PostX)
    {g : JFrame} (hg : g.method = m) (hsize : g.locals.size = c.maxLocals) {argsL rest : List Value} (hlen : ∀ sig, parseMethodDescriptor y.desc = some sig → argsL.length = sig.parameters.length)
    (hstack : g.stack = argsL.reverse ++ rest) (hW : 2 * g.monitorRoom + (rest.map fun v => v.category).sum ≤ W9) (hdg : decode c.code g.pc = .ok (.invokestatic index, 3))
    (hpre : ∀ vm₁, s.WarmedH vm₁ → Pre ⟨T.setVm vm₁, locs, cells, slots⟩ argsL.toArray) :
    (∃ (v : Option Value) (vm₁ : Vm) (B : Pt), s.WarmedH vm₁ ∧ Stand p l e R s m args below meth c B.U B.locs B.cells B.slots ∧ Post ⟨T.setVm vm₁, locs, cells, slots⟩ argsL.toArray v B ∧
      ∀ target, Steps p.tables e below (B.U.setTop { g with pc := g.pc + 3, stack := v.toList ++ rest }) target → Steps p.tables e below (T.setTop g) target) ∨
    (∃ (q : Addr) (vm₁ : Vm) (B : Pt), s.WarmedH vm₁ ∧ Stand p l e R s m args below meth c B.U B.locs B.cells B.slots ∧ PostX ⟨T.setVm vm₁, locs, cells, slots⟩ argsL.toArray q B ∧
      Steps p.tables e below (T.setTop g) ((B.U.setTop { g with stack := rest }).pushFrame (.throwing q))) := by
  obtain ⟨mk, methM, cM, hnamed, hmethM, -, -, -, -, -, -, hsigM⟩ := Cond.codeWith_spec hcode
  have hstatic : methM.isStatic = true := Cond.static_spec hnamed hmethM hstat
  obtain ⟨kP, hkP, -⟩ := className_of_methodNamed hnamed
  have hinitP : kP.init = .initialized := Cond.initialized_spec (findClass_of_methodNamed hnamed) hkP hinit
  obtain ⟨vm₁, X₁, hstep₁⟩ := X.invokestatic hexec hown hlink hnamed hmethM hstatic hkP hinitP hy (g := g) hg (argsL := argsL) (rest := rest) (hlen _ hsigM) hstack hdg
  rcases hK m meth c ⟨T.setVm vm₁, locs, cells, slots⟩ { g with stack := rest } (.invokestatic index) mk argsL.toArray X₁ hg hsize hdg hW (X₁.named hnamed) (hpre vm₁ X₁.warmed) with ⟨v, B, X', hpost, hsteps⟩ | ⟨q, B, X', hpost, hsteps⟩
  · exact Or.inl ⟨v, vm₁, B, X₁.warmed, X', hpost, fun target h => hstep₁ _ fun acts => by rw [doInvoke_state]; exact hsteps.trans h⟩
  · exact Or.inr ⟨q, vm₁, B, X₁.warmed, X', hpost, hstep₁ _ fun acts => by rw [doInvoke_state]; exact hsteps⟩
theorem vx_callVW (X : Stand p l e R s m args below meth c T locs cells slots) (hexec : p.tables.exec = Jvm.exec) {own C : String} {index : Nat} {y : MethodName} {bytes : ByteArray} {maxL : Nat} {ret : Option FieldType} {hh : List (Nat × Nat × Nat × Nat)}
    (hown : s.vm.findClass own = some m.cls) (hlink : (Cond.methodLink own index y).before args s = true) (hinst : (Cond.instanceMethod y).before args s = true) (hsel : (Cond.selects C y y).before args s = true)
    (hcode : (Cond.codeWith y bytes maxL ret hh).before args s = true) (hy : y.cls ≠ "java/lang/invoke/MethodHandle" ∧ y.cls ≠ "java/lang/invoke/VarHandle")
    {W9 : Nat} {Pre : Pt → Array Value → Prop} {Post : Pt → Array Value → Option Value → Pt → Prop} (hK : Back l R p e below s args y 3 W9 Pre Post)
    {b : Addr} {cellB : Cell} (hcell : T.heap[b]? = some cellB) (hobj : cellB.vm.isStatics = false) (hcls : s.vm.findClass C = some cellB.cls)
    {g : JFrame} (hg : g.method = m) (hsize : g.locals.size = c.maxLocals) {argsL rest : List Value} (hlen : ∀ sig, parseMethodDescriptor y.desc = some sig → argsL.length = sig.parameters.length)
    (hstack : g.stack = argsL.reverse ++ .ref b :: rest) (hW : 2 * g.monitorRoom + (rest.map fun v => v.category).sum ≤ W9) (hdg : decode c.code g.pc = .ok (.invokevirtual index, 3))
    (hpre : ∀ vm₁, s.WarmedH vm₁ → Pre ⟨T.setVm vm₁, locs, cells, slots⟩ (Value.ref b :: argsL).toArray) :
    ∃ (v : Option Value) (vm₁ : Vm) (B : Pt), s.WarmedH vm₁ ∧ Stand p l e R s m args below meth c B.U B.locs B.cells B.slots ∧ Post ⟨T.setVm vm₁, locs, cells, slots⟩ (Value.ref b :: argsL).toArray v B ∧
      ∀ target, Steps p.tables e below (B.U.setTop { g with pc := g.pc + 3, stack := v.toList ++ rest }) target → Steps p.tables e below (T.setTop g) target := by
  obtain ⟨mk, methM, hnamed, hmethM, hstM, habM⟩ := Cond.instanceMethod_spec hinst
  obtain ⟨m8, methM', cM, hn8, hmethM', -, -, -, -, -, -, hsigM⟩ := Cond.codeWith_spec hcode
  cases Option.some.inj (hn8.symm.trans hnamed)
  cases hmethM.symm.trans hmethM'
  obtain ⟨c2, r2, m2, q1, q2, q3, q4, kP, hkP, hkPi⟩ := Cond.selects_spec hsel
  cases hcls.symm.trans q1
  cases (State.methodFound?_of_named hnamed hy).symm.trans q2
  cases hnamed.symm.trans q3
  have hselP : selectMethod e.platform s.vm cellB.cls mk = .method mk := by rw [Launch.admits_selectMethod X.admits]; exact q4
  obtain ⟨vm₁, X₁, hstep₁⟩ := X.invokevirtual hexec hown hlink hnamed hmethM hstM hkP hkPi hy (a := b) (cell := cellB) hcell
    (fun z h => by rw [h] at hobj; cases hobj) hselP hmethM habM hkP hkPi (g := g) hg (argsL := argsL) (rest := rest) (hlen _ hsigM) hstack hdg
  obtain ⟨v, B, X', hpost, hsteps⟩ := hK m meth c ⟨T.setVm vm₁, locs, cells, slots⟩ { g with stack := rest } (.invokevirtual index) mk (Value.ref b :: argsL).toArray X₁ hg hsize hdg hW (X₁.named hnamed) (hpre vm₁ X₁.warmed)
  exact ⟨v, vm₁, B, X₁.warmed, X', hpost, fun target h => hstep₁ _ fun acts => by rw [doInvoke_state]; exact hsteps.trans h⟩
abbrev vx_CVW (R : Room) (s : State) (args : Array Value) (own C : String) (index : Nat) (y : MethodName) (bytes : ByteArray) (maxL : Nat) (ret : Option FieldType) (hh : List (Nat × Nat × Nat × Nat)) (ws : List Cond) (rm : Room) (mc ms n : Nat) : Prop :=
  (rm.cells = mc ∧ rm.slots = ms ∧ rm.frames + 1 ≤ R.frames ∧ 8 + (maxL + 11) + rm.locals ≤ R.locals ∧ (∀ w ∈ ws, ∀ (a' : Array Value) (U : State), s.WarmedH U.vm → w.before a' U = true) ∧ Cond.codeWith y bytes maxL ret hh ∈ ws) ∧
  (Cond.codeWith y bytes maxL ret hh).before args s = true ∧ (Cond.initialized y.cls).before args s = true ∧ (y.cls ≠ "java/lang/invoke/MethodHandle" ∧ y.cls ≠ "java/lang/invoke/VarHandle") ∧
  (∀ sig, parseMethodDescriptor y.desc = some sig → n = sig.parameters.length) ∧ (Cond.methodLink own index y).before args s = true ∧ (Cond.instanceMethod y).before args s = true ∧ (Cond.selects C y y).before args s = true
theorem vx_cwVW {own C : String} {index maxL mc ms : Nat} {y : MethodName} {bytes : ByteArray} {ret : Option FieldType} {hh : List (Nat × Nat × Nat × Nat)} {Ts ws ws' : List Cond} {rm : Room} (n : Nat) (ht : ∀ w ∈ Ts, w.before args s = true) (hT : GoodIn Ts (wsV own index C y ws)) (hw : ws = Cond.codeWith y bytes maxL ret hh :: ws') (hrc : rm.cells = mc) (hrs : rm.slots = ms)
    (hd : y.cls = C ∧ y.cls ≠ "java/lang/invoke/MethodHandle" ∧ y.cls ≠ "java/lang/invoke/VarHandle" ∧ (parseMethodDescriptor y.desc).map (fun d => d.parameters.length) = some n) (hR : rm.frames + 1 ≤ R.frames ∧ 8 + (maxL + 11) + rm.locals ≤ R.locals) :
    vx_CVW R s args own C index y bytes maxL ret hh ws rm mc ms n := by
  obtain ⟨hC, hd⟩ := hd
  subst hC
  have ok : ∀ w ∈ wsV own index y.cls y ws, w.before args s = true := fun w h => ht w (hT w h).1
  have hG : GoodIn Ts ws := fun w h => hT w (by unfold wsV; exact List.mem_append_right _ h)
  have hc : Cond.codeWith y bytes maxL ret hh ∈ ws := by rw [hw]; exact List.mem_cons_self
  refine ⟨⟨hrc, hrs, hR.1, hR.2, pay_in ht hG, hc⟩, ht _ (hG _ hc).1, ok _ (by simp [wsV]), ⟨hd.1, hd.2.1⟩, fun sig h => ?_, ok _ (by simp [wsV]), ok _ (by simp [wsV]), ok _ (by simp [wsV])⟩
  have h2 := hd.2.2
  rw [h] at h2
  exact (Option.some.inj h2).symm
theorem vx_runVW {y : MethodName} {bytes cc : ByteArray} {maxL nL mc ms n index : Nat} {ret : Option FieldType} {hh : List (Nat × Nat × Nat × Nat)} {ws : List Cond} {rm : Room} {Pc : Array Value → State → Prop} {Qc : Array Value → State → Outcome → State → Prop} {free : Addr → Prop} {Ts : List Cond} {own C : String} {b : Addr} {As rest : List Value} {g : JFrame}
    (S : CallFix p m c cc nL s args Ts own) (hM : Met l y ws rm Pc Qc mc ms free) (cw : vx_CVW R s args own C index y bytes maxL ret hh ws rm mc ms n) (hp : PreV s H C b Pc As)
    (hg : g.method = m) (hn : As.length = n) (hsize : g.locals.size = nL) (hstack : g.stack = As.reverse ++ .ref b :: rest) (hW : 2 * g.monitorRoom + (rest.map fun v => v.category).sum ≤ 8) (hdg : decode cc g.pc = .ok (.invokevirtual index, 3)) (hf : cells + mc ≤ R.cells ∧ slots + ms ≤ R.slots) :
    va_Run p l e R s m args below meth c H locs cells slots mc ms g rest (Qc (Value.ref b :: As).toArray) free := by
  obtain ⟨⟨hrc, hrs, hfr, hlo, hws, hcw⟩, hcode, hini, hy, hlen, hl, hin, hse⟩ := cw
  have hK : Back l R p e below s args y 3 8 (PreOf R mc ms Pc) (PostOf Qc mc ms free) := va_backW (hh := hh) (bytes := bytes) (maxL := maxL) (ret := ret) hM hp.1 hrc hrs hfr hlo hws hcw (fun a' U hW => word_at hW (Or.inl (by first | rfl | simp [Cond.onTables, Cond.keeps, Cond.steady])) hini)
  obtain ⟨hx, hb, hml, ho, -⟩ := S
  obtain ⟨-, ⟨cellB, hcB, hoB, hclB⟩, hPc⟩ := hp
  intro T hT X
  obtain ⟨v, vm₁, ⟨U', l2, c2, s2⟩, hW₁, X', ⟨g', mk, t, L, e1, e2, hq, h1, hL, h2, h3⟩, st⟩ := vx_callVW X hx (C := C) (hh := hh) (bytes := bytes) (maxL := maxL) (ret := ret) ho hl hin hse hcode hy hK (by rw [hT]; exact hcB) hoB hclB hg (hsize.trans hml.symm) (argsL := As) (rest := rest) (fun sig h => hn.trans (hlen sig h)) hstack hW (by rw [hb]; exact hdg)
    (fun vm₁ hW₁ => ⟨hf.1, hf.2, hPc (T.setVm vm₁) hT hW₁⟩)
  dsimp only [Pt.U, Pt.locs, Pt.cells, Pt.slots] at X' e1 e2 h1 h2 h3 st
  subst h1; subst h2; subst h3
  exact ⟨v, (T.setVm vm₁).calling g' mk (Value.ref b :: As).toArray, t, U', L, hT, X', hL, e1, e2, hq, st⟩
section
variable {y : MethodName} {bytes cc : ByteArray} {maxL nL mc ms n index : Nat} {ret : Option FieldType} {ws : List Cond} {rm : Room} {Pc : Array Value → State → Prop} {Qc : Array Value → State → Outcome → State → Prop} {XC : String → State → State → Prop} {free : Addr → Prop} {Ts : List Cond} {own C : String} {b : Addr} {As rest : List Value} {g : JFrame}
theorem vx_runVX {hh : List (Nat × Nat × Nat × Nat)} (S : CallFix p m c cc nL s args Ts own) (hM : vx_Met l y ws rm Pc Qc XC mc ms free) (cw : vx_CVW R s args own C index y bytes maxL ret hh ws rm mc ms n) (hp : PreV s H C b Pc As)
    (hg : g.method = m) (hn : As.length = n) (hsize : g.locals.size = nL) (hstack : g.stack = As.reverse ++ .ref b :: rest) (hW : 2 * g.monitorRoom + (rest.map fun v => v.category).sum ≤ 8) (hdg : decode cc g.pc = .ok (.invokevirtual index, 3)) (hf : cells + mc ≤ R.cells ∧ slots + ms ≤ R.slots) :
    vx_Run p l e R s m args below meth c H locs cells slots mc ms g rest (Qc (Value.ref b :: As).toArray) XC free := by
  obtain ⟨⟨hrc, hrs, hfr, hlo, hws, hcw⟩, hcode, hini, hy, hlen, hl, hin, hse⟩ := cw
  have hK : vx_Back l R p e below s args y 3 8 (PreOf R mc ms Pc) (PostOf Qc mc ms free) (vx_Post XC mc ms free) := vx_backW (hh := hh) (bytes := bytes) (maxL := maxL) (ret := ret) hM hp.1 hrc hrs hfr hlo hws hcw (fun a' U hW => word_at hW (Or.inl (by first | rfl | simp [Cond.onTables, Cond.keeps, Cond.steady])) hini)
  obtain ⟨hx, hb, hml, ho, -⟩ := S
  obtain ⟨-, ⟨cellB, hcB, hoB, hclB⟩, hPc⟩ := hp
  intro T hT X
  rcases vx_callVX X hx (C := C) (hh := hh) (bytes := bytes) (maxL := maxL) (ret := ret) ho hl hin hse hcode hy hK (by rw [hT]; exact hcB) hoB hclB hg (hsize.trans hml.symm) (argsL := As) (rest := rest) (fun sig h => hn.trans (hlen sig h)) hstack hW (by rw [hb]; exact hdg)
    (fun vm₁ hW₁ => ⟨hf.1, hf.2, hPc (T.setVm vm₁) hT hW₁⟩) with ⟨v, vm₁, ⟨U', l2, c2, s2⟩, hW₁, X', ⟨g', mk, t, L, e1, e2, hq, h1, hL, h2, h3⟩, st⟩ | ⟨q, vm₁, ⟨U', l2, c2, s2⟩, hW₁, X', ⟨g', mk, t, L, E, ce, e1, e2, hq, hce, hcv, hcl, h1, hL, h2, h3⟩, st⟩
  · dsimp only [Pt.U, Pt.locs, Pt.cells, Pt.slots] at X' e1 e2 h1 h2 h3 st
    subst h1; subst h2; subst h3
    exact Or.inl ⟨v, (T.setVm vm₁).calling g' mk (Value.ref b :: As).toArray, t, U', L, hT, X', hL, e1, e2, hq, st⟩
  · dsimp only [Pt.U, Pt.locs, Pt.cells, Pt.slots] at X' e1 e2 h1 h2 h3 st hcl
    subst h1; subst h2; subst h3
    exact Or.inr ⟨q, (T.setVm vm₁).calling g' mk (Value.ref b :: As).toArray, t, U', L, E, ce, hT, X', hL, e1, e2, hq, hce, hcv, vx_cls hW₁ hcl, st⟩
theorem vx_runSX {hh : List (Nat × Nat × Nat × Nat)} (S : CallFix p m c cc nL s args Ts own) (hM : vx_Met l y ws rm Pc Qc XC mc ms free) (cw : vx_CSW R s args own index y bytes maxL ret hh ws rm mc ms n) (hp : PreS s H Pc As)
    (hg : g.method = m) (hn : As.length = n) (hsize : g.locals.size = nL) (hstack : g.stack = As.reverse ++ rest) (hW : 2 * g.monitorRoom + (rest.map fun v => v.category).sum ≤ 8) (hdg : decode cc g.pc = .ok (.invokestatic index, 3)) (hf : cells + mc ≤ R.cells ∧ slots + ms ≤ R.slots) :
    vx_Run p l e R s m args below meth c H locs cells slots mc ms g rest (Qc As.toArray) XC free := by
  obtain ⟨⟨hrc, hrs, hfr, hlo, hws, hcw⟩, hcode, hini, hy, hlen, hl, hstt⟩ := cw
  have hK : vx_Back l R p e below s args y 3 8 (PreOf R mc ms Pc) (PostOf Qc mc ms free) (vx_Post XC mc ms free) := vx_backW (hh := hh) (bytes := bytes) (maxL := maxL) (ret := ret) hM hp.1 hrc hrs hfr hlo hws hcw (fun a' U hW => word_at hW (Or.inl (by first | rfl | simp [Cond.onTables, Cond.keeps, Cond.steady])) hini)
  obtain ⟨hx, hb, hml, ho, -⟩ := S
  intro T hT X
  rcases vx_callSX X hx (hh := hh) (bytes := bytes) (maxL := maxL) (ret := ret) ho hl hstt hini hcode hy hK hg (hsize.trans hml.symm) (argsL := As) (rest := rest) (fun sig h => hn.trans (hlen sig h)) hstack hW (by rw [hb]; exact hdg)
    (fun vm₁ hW₁ => ⟨hf.1, hf.2, hp.2 (T.setVm vm₁) hT hW₁⟩) with ⟨v, vm₁, ⟨U', l2, c2, s2⟩, hW₁, X', ⟨g', mk, t, L, e1, e2, hq, h1, hL, h2, h3⟩, st⟩ | ⟨q, vm₁, ⟨U', l2, c2, s2⟩, hW₁, X', ⟨g', mk, t, L, E, ce, e1, e2, hq, hce, hcv, hcl, h1, hL, h2, h3⟩, st⟩
  · dsimp only [Pt.U, Pt.locs, Pt.cells, Pt.slots] at X' e1 e2 h1 h2 h3 st
    subst h1; subst h2; subst h3
    exact Or.inl ⟨v, (T.setVm vm₁).calling g' mk As.toArray, t, U', L, hT, X', hL, e1, e2, hq, st⟩
  · dsimp only [Pt.U, Pt.locs, Pt.cells, Pt.slots] at X' e1 e2 h1 h2 h3 st hcl
    subst h1; subst h2; subst h3
    exact Or.inr ⟨q, (T.setVm vm₁).calling g' mk As.toArray, t, U', L, E, ce, hT, X', hL, e1, e2, hq, hce, hcv, vx_cls hW₁ hcl, st⟩
end
end VXH
theorem vx_ofWH {l : Launch} {y : MethodName} {ws ws' : List Cond} {rm : Room} {Pc : Array Value → State → Prop} {Qc : Array Value → State → Outcome → State → Prop} {XC : String → State → State → Prop} {mc ms : Nat} {free : Addr → Prop} {cc : ByteArray} {maxL : Nat} {ret : Option FieldType} {hh : List (Nat × Nat × Nat × Nat)}
    (hy : plainName y.cls = true) (hw : ws = Cond.codeWith y cc maxL ret hh :: ws')
    (body : ∀ p e s m args below meth c s₁, BodyLoose p l y (headSpec ws rm) cc maxL ret e s m args below meth c s₁ → c.maxLocals = maxL → Pc args s →
      W p l e (headSpec ws rm).room s m args below meth c s.heap [] 0 0 (vx_MQ below Qc XC args s mc ms free) (entryFrame m args maxL)) : vx_Met l y ws rm Pc Qc XC mc ms free := by
  refine MetFree.of_bodyS (code := cc) (maxLocals := maxL) (ret := ret) hy ?_ ?_
  · intro args s m h hn
    obtain ⟨m9, meth, c, hn9, h1, h2, h3, h4, -, h5, h6, -⟩ := Cond.codeWith_spec (atoms_spec (ws := ws) h _ (by rw [hw]; exact List.mem_cons_self))
    cases hn.symm.trans hn9
    exact ⟨meth, c, h1, h2, h3, h4, h5, h6⟩
  · intro p e s m args below meth c s₁ B hml hP _
    have hh0 : s₁.heap = s.heap := by rw [B.state]; rfl
    obtain ⟨t, a1, o, b1, b2, b3⟩ := body p e s m args below meth c s₁ B hml hP s₁ hh0 (Stand.of_body B)
    exact ⟨t, o, a1, b1, b2, b3⟩
/-! ===== END ===== -/

/-! ===== BEGIN printed: names, fields, word lists, decode rows ===== -/
def RX0 : String := "NimberField$History"
def TX0 : u_T := fun k => match k with
  | 0 => ("NimberField$History", "kept", "[LNimberField$State;", true)
  | _ => ("NimberField$History", "size", "I", false)
def tyX0 : Nat → FieldType := fun k => match k with
  | 0 => .array (.object "NimberField$State")
  | _ => .int
abbrev wsX00 : List Cond := u_ws RX0 TX0 2
theorem nmX0 : ∀ a, a < 2 → ∀ b, b < 2 → a ≠ b → (TX0 a).2.1 ≠ (TX0 b).2.1 := by decide +kernel
theorem tyX0_ok : ∀ k, k < 2 → parseFieldDescriptor (TX0 k).2.2.1 = some (tyX0 k) := by decide +kernel
abbrev cX0_init : ByteArray := prog_2_method_1_code
def yX0_init : MethodName := ⟨RX0, "<init>", "()V"⟩
abbrev cX0_size : ByteArray := prog_2_method_2_code
def yX0_size : MethodName := ⟨RX0, "size", "()I"⟩
abbrev cX0_record : ByteArray := prog_2_method_3_code
def yX0_record : MethodName := ⟨RX0, "record", "(LNimberField$State;)V"⟩
abbrev cX0_returnTo : ByteArray := prog_2_method_4_code
def yX0_returnTo : MethodName := ⟨RX0, "returnTo", "(LNimberField$State;)I"⟩
def RX1 : String := "NimberField$LeastNumberTable"
def TX1 : u_T := fun k => match k with
  | 0 => ("NimberField$LeastNumberTable", "cells", "[I", true)
  | _ => ("NimberField$LeastNumberTable", "filledRows", "I", false)
def tyX1 : Nat → FieldType := fun k => match k with
  | 0 => .array .int
  | _ => .int
abbrev wsX10 : List Cond := u_ws RX1 TX1 2
theorem nmX1 : ∀ a, a < 2 → ∀ b, b < 2 → a ≠ b → (TX1 a).2.1 ≠ (TX1 b).2.1 := by decide +kernel
theorem tyX1_ok : ∀ k, k < 2 → parseFieldDescriptor (TX1 k).2.2.1 = some (tyX1 k) := by decide +kernel
abbrev cX1_init : ByteArray := prog_3_method_1_code
def yX1_init : MethodName := ⟨RX1, "<init>", "()V"⟩
def RX2 : String := "NimberField$Nimbers"
def TX2 : u_T := fun k => match k with
  | _ => ("NimberField$Nimbers", "bitProducts", "[I", true)
def tyX2 : Nat → FieldType := fun k => match k with
  | _ => .array .int
abbrev wsX20 : List Cond := u_ws RX2 TX2 1
theorem nmX2 : ∀ a, a < 1 → ∀ b, b < 1 → a ≠ b → (TX2 a).2.1 ≠ (TX2 b).2.1 := by decide +kernel
theorem tyX2_ok : ∀ k, k < 1 → parseFieldDescriptor (TX2 k).2.2.1 = some (tyX2 k) := by decide +kernel
abbrev cX2_init : ByteArray := prog_4_method_1_code
def yX2_init : MethodName := ⟨RX2, "<init>", "()V"⟩
abbrev cX2_productsOfBits : ByteArray := prog_4_method_2_code
def yX2_productsOfBits : MethodName := ⟨RX2, "productsOfBits", "()[I"⟩
abbrev cX2_addProductsBelow : ByteArray := prog_4_method_3_code
def yX2_addProductsBelow : MethodName := ⟨RX2, "addProductsBelow", "(II[I)V"⟩
abbrev cX2_timesSquareOfPower : ByteArray := prog_4_method_4_code
def yX2_timesSquareOfPower : MethodName := ⟨RX2, "timesSquareOfPower", "(II[I)I"⟩
abbrev cX2_timesByHalves : ByteArray := prog_4_method_5_code
def yX2_timesByHalves : MethodName := ⟨RX2, "timesByHalves", "(III)I"⟩
abbrev cX2_times : ByteArray := prog_4_method_6_code
def yX2_times : MethodName := ⟨RX2, "times", "(II)I"⟩
abbrev cX2_square : ByteArray := prog_4_method_7_code
def yX2_square : MethodName := ⟨RX2, "square", "(I)I"⟩
abbrev cX2_raised : ByteArray := prog_4_method_8_code
def yX2_raised : MethodName := ⟨RX2, "raised", "(II)I"⟩
abbrev cX2_dividedBy : ByteArray := prog_4_method_9_code
def yX2_dividedBy : MethodName := ⟨RX2, "dividedBy", "(II)I"⟩
abbrev cX2_root : ByteArray := prog_4_method_10_code
def yX2_root : MethodName := ⟨RX2, "root", "(I)I"⟩
abbrev cX2_orderByQuotients : ByteArray := prog_4_method_12_code
def yX2_orderByQuotients : MethodName := ⟨RX2, "orderByQuotients", "(I)I"⟩
abbrev cX2_trace : ByteArray := prog_4_method_13_code
def yX2_trace : MethodName := ⟨RX2, "trace", "(I)I"⟩
abbrev cX2_leastSolution : ByteArray := prog_4_method_14_code
def yX2_leastSolution : MethodName := ⟨RX2, "leastSolution", "(I)I"⟩
def RX3 : String := "NimberField$Program"
def TX3 : u_T := fun k => match k with
  | 0 => ("NimberField$Program", "text", "[C", true)
  | 1 => ("NimberField$Program", "steps", "[LNimberField$Step;", true)
  | 2 => ("NimberField$Program", "length", "I", false)
  | 3 => ("NimberField$Program", "stepCount", "I", false)
  | _ => ("NimberField$Program", "cursor", "I", false)
def tyX3 : Nat → FieldType := fun k => match k with
  | 0 => .array .char
  | 1 => .array (.object "NimberField$Step")
  | 2 => .int
  | 3 => .int
  | _ => .int
abbrev wsX30 : List Cond := u_ws RX3 TX3 5
theorem nmX3 : ∀ a, a < 5 → ∀ b, b < 5 → a ≠ b → (TX3 a).2.1 ≠ (TX3 b).2.1 := by decide +kernel
theorem tyX3_ok : ∀ k, k < 5 → parseFieldDescriptor (TX3 k).2.2.1 = some (tyX3 k) := by decide +kernel
abbrev cX3_init : ByteArray := prog_5_method_1_code
def yX3_init : MethodName := ⟨RX3, "<init>", "()V"⟩
abbrev cX3_isFull : ByteArray := prog_5_method_2_code
def yX3_isFull : MethodName := ⟨RX3, "isFull", "()Z"⟩
abbrev cX3_append : ByteArray := prog_5_method_3_code
def yX3_append : MethodName := ⟨RX3, "append", "(C)I"⟩
abbrev cX3_empty : ByteArray := prog_5_method_4_code
def yX3_empty : MethodName := ⟨RX3, "empty", "()I"⟩
abbrev cX3_read : ByteArray := prog_5_method_5_code
def yX3_read : MethodName := ⟨RX3, "read", "()I"⟩
abbrev cX3_runOn : ByteArray := prog_5_method_6_code
def yX3_runOn : MethodName := ⟨RX3, "runOn", "(LNimberField$State;LNimberField$Nimbers;)I"⟩
abbrev cX3_lastTarget : ByteArray := prog_5_method_7_code
def yX3_lastTarget : MethodName := ⟨RX3, "lastTarget", "()I"⟩
abbrev cX3_readTarget : ByteArray := prog_5_method_8_code
def yX3_readTarget : MethodName := ⟨RX3, "readTarget", "(LNimberField$Step;)Z"⟩
abbrev cX3_readRightSide : ByteArray := prog_5_method_9_code
def yX3_readRightSide : MethodName := ⟨RX3, "readRightSide", "(LNimberField$Step;)Z"⟩
abbrev cX3_readOperand : ByteArray := prog_5_method_10_code
def yX3_readOperand : MethodName := ⟨RX3, "readOperand", "()I"⟩
abbrev cX3_readRegister : ByteArray := prog_5_method_11_code
def yX3_readRegister : MethodName := ⟨RX3, "readRegister", "()I"⟩
abbrev cX3_readNumber : ByteArray := prog_5_method_12_code
def yX3_readNumber : MethodName := ⟨RX3, "readNumber", "()I"⟩
abbrev cX3_digitOf : ByteArray := prog_5_method_13_code
def yX3_digitOf : MethodName := ⟨RX3, "digitOf", "(C)I"⟩
abbrev cX3_skip : ByteArray := prog_5_method_14_code
def yX3_skip : MethodName := ⟨RX3, "skip", "(C)Z"⟩
abbrev cX3_current : ByteArray := prog_5_method_15_code
def yX3_current : MethodName := ⟨RX3, "current", "()C"⟩
def RX4 : String := "NimberField$State"
def TX4 : u_T := fun k => match k with
  | 0 => ("NimberField$State", "nimbers", "[I", true)
  | _ => ("NimberField$State", "productCount", "I", false)
def tyX4 : Nat → FieldType := fun k => match k with
  | 0 => .array .int
  | _ => .int
abbrev wsX40 : List Cond := u_ws RX4 TX4 2
theorem nmX4 : ∀ a, a < 2 → ∀ b, b < 2 → a ≠ b → (TX4 a).2.1 ≠ (TX4 b).2.1 := by decide +kernel
theorem tyX4_ok : ∀ k, k < 2 → parseFieldDescriptor (TX4 k).2.2.1 = some (tyX4 k) := by decide +kernel
abbrev cX4_init : ByteArray := prog_6_method_1_code
def yX4_init : MethodName := ⟨RX4, "<init>", "()V"⟩
abbrev cX4_nimberIn : ByteArray := prog_6_method_2_code
def yX4_nimberIn : MethodName := ⟨RX4, "nimberIn", "(I)I"⟩
abbrev cX4_put : ByteArray := prog_6_method_3_code
def yX4_put : MethodName := ⟨RX4, "put", "(II)V"⟩
abbrev cX4_productCount : ByteArray := prog_6_method_4_code
def yX4_productCount : MethodName := ⟨RX4, "productCount", "()I"⟩
abbrev cX4_countProduct : ByteArray := prog_6_method_5_code
def yX4_countProduct : MethodName := ⟨RX4, "countProduct", "()V"⟩
abbrev cX4_copyFrom : ByteArray := prog_6_method_6_code
def yX4_copyFrom : MethodName := ⟨RX4, "copyFrom", "(LNimberField$State;)V"⟩
abbrev cX4_sum : ByteArray := prog_6_method_7_code
def yX4_sum : MethodName := ⟨RX4, "sum", "()I"⟩
def RX5 : String := "NimberField$Step"
def TX5 : u_T := fun k => match k with
  | 0 => ("NimberField$Step", "target", "I", false)
  | 1 => ("NimberField$Step", "sign", "C", false)
  | 2 => ("NimberField$Step", "first", "I", false)
  | _ => ("NimberField$Step", "second", "I", false)
def tyX5 : Nat → FieldType := fun k => match k with
  | 0 => .int
  | 1 => .char
  | 2 => .int
  | _ => .int
abbrev wsX50 : List Cond := u_ws RX5 TX5 4
theorem nmX5 : ∀ a, a < 4 → ∀ b, b < 4 → a ≠ b → (TX5 a).2.1 ≠ (TX5 b).2.1 := by decide +kernel
theorem tyX5_ok : ∀ k, k < 4 → parseFieldDescriptor (TX5 k).2.2.1 = some (tyX5 k) := by decide +kernel
abbrev cX5_init : ByteArray := prog_7_method_1_code
def yX5_init : MethodName := ⟨RX5, "<init>", "()V"⟩
abbrev cX5_target : ByteArray := prog_7_method_2_code
def yX5_target : MethodName := ⟨RX5, "target", "()I"⟩
abbrev cX5_setTarget : ByteArray := prog_7_method_3_code
def yX5_setTarget : MethodName := ⟨RX5, "setTarget", "(I)V"⟩
abbrev cX5_setRightSide : ByteArray := prog_7_method_4_code
def yX5_setRightSide : MethodName := ⟨RX5, "setRightSide", "(CII)V"⟩
abbrev cX5_doOn : ByteArray := prog_7_method_5_code
def yX5_doOn : MethodName := ⟨RX5, "doOn", "(LNimberField$State;LNimberField$Nimbers;)Z"⟩
abbrev cX5_valueOf : ByteArray := prog_7_method_6_code
def yX5_valueOf : MethodName := ⟨RX5, "valueOf", "(ILNimberField$State;)I"⟩
abbrev cX5_resultOf : ByteArray := prog_7_method_7_code
def yX5_resultOf : MethodName := ⟨RX5, "resultOf", "(IILNimberField$Nimbers;)I"⟩
def RX6 : String := "NimberField"
def TX6 : u_T := fun k => match k with
  | 0 => ("NimberField", "field", "LNimberField$Nimbers;", true)
  | 1 => ("NimberField", "table", "LNimberField$LeastNumberTable;", true)
  | 2 => ("NimberField", "program", "LNimberField$Program;", true)
  | 3 => ("NimberField", "state", "LNimberField$State;", true)
  | 4 => ("NimberField", "trial", "LNimberField$State;", true)
  | 5 => ("NimberField", "snapshot", "LNimberField$State;", true)
  | 6 => ("NimberField", "history", "LNimberField$History;", true)
  | _ => ("NimberField", "snapshotTaken", "Z", false)
def tyX6 : Nat → FieldType := fun k => match k with
  | 0 => .object "NimberField$Nimbers"
  | 1 => .object "NimberField$LeastNumberTable"
  | 2 => .object "NimberField$Program"
  | 3 => .object "NimberField$State"
  | 4 => .object "NimberField$State"
  | 5 => .object "NimberField$State"
  | 6 => .object "NimberField$History"
  | _ => .boolean
abbrev wsX60 : List Cond := u_ws RX6 TX6 8
theorem nmX6 : ∀ a, a < 8 → ∀ b, b < 8 → a ≠ b → (TX6 a).2.1 ≠ (TX6 b).2.1 := by decide +kernel
theorem tyX6_ok : ∀ k, k < 8 → parseFieldDescriptor (TX6 k).2.2.1 = some (tyX6 k) := by decide +kernel
abbrev cX6_init : ByteArray := prog_1_method_1_code
def yX6_init : MethodName := ⟨RX6, "<init>", "()V"⟩
abbrev cX6_set : ByteArray := prog_1_method_2_code
def yX6_set : MethodName := ⟨RX6, "set", "(II)I"⟩
abbrev cX6_invert : ByteArray := prog_1_method_3_code
def yX6_invert : MethodName := ⟨RX6, "invert", "(I)I"⟩
abbrev cX6_takeRoot : ByteArray := prog_1_method_4_code
def yX6_takeRoot : MethodName := ⟨RX6, "takeRoot", "(I)I"⟩
abbrev cX6_multiply : ByteArray := prog_1_method_5_code
def yX6_multiply : MethodName := ⟨RX6, "multiply", "(II)I"⟩
abbrev cX6_exchange : ByteArray := prog_1_method_6_code
def yX6_exchange : MethodName := ⟨RX6, "exchange", "(II)I"⟩
abbrev cX6_type : ByteArray := prog_1_method_7_code
def yX6_type : MethodName := ⟨RX6, "type", "(C)I"⟩
abbrev cX6_clearProgram : ByteArray := prog_1_method_8_code
def yX6_clearProgram : MethodName := ⟨RX6, "clearProgram", "()I"⟩
abbrev cX6_carryOut : ByteArray := prog_1_method_11_code
def yX6_carryOut : MethodName := ⟨RX6, "carryOut", "()I"⟩
abbrev cX6_undo : ByteArray := prog_1_method_12_code
def yX6_undo : MethodName := ⟨RX6, "undo", "()I"⟩
abbrev cX6_takeSnapshot : ByteArray := prog_1_method_13_code
def yX6_takeSnapshot : MethodName := ⟨RX6, "takeSnapshot", "()I"⟩
abbrev cX6_restoreSnapshot : ByteArray := prog_1_method_14_code
def yX6_restoreSnapshot : MethodName := ⟨RX6, "restoreSnapshot", "()I"⟩
abbrev cX6_nimberOf : ByteArray := prog_1_method_15_code
def yX6_nimberOf : MethodName := ⟨RX6, "nimberOf", "(I)I"⟩
abbrev cX6_sumOfAll : ByteArray := prog_1_method_16_code
def yX6_sumOfAll : MethodName := ⟨RX6, "sumOfAll", "()I"⟩
abbrev cX6_registerToLessen : ByteArray := prog_1_method_17_code
def yX6_registerToLessen : MethodName := ⟨RX6, "registerToLessen", "()I"⟩
abbrev cX6_productByHalves : ByteArray := prog_1_method_18_code
def yX6_productByHalves : MethodName := ⟨RX6, "productByHalves", "(II)I"⟩
abbrev cX6_productByBits : ByteArray := prog_1_method_19_code
def yX6_productByBits : MethodName := ⟨RX6, "productByBits", "(II)I"⟩
abbrev cX6_quotient : ByteArray := prog_1_method_21_code
def yX6_quotient : MethodName := ⟨RX6, "quotient", "(II)I"⟩
abbrev cX6_power : ByteArray := prog_1_method_22_code
def yX6_power : MethodName := ⟨RX6, "power", "(II)I"⟩
abbrev cX6_rootOf : ByteArray := prog_1_method_23_code
def yX6_rootOf : MethodName := ⟨RX6, "rootOf", "(I)I"⟩
abbrev cX6_fieldOf : ByteArray := prog_1_method_24_code
def yX6_fieldOf : MethodName := ⟨RX6, "fieldOf", "(I)I"⟩
abbrev cX6_orderByDivisors : ByteArray := prog_1_method_26_code
def yX6_orderByDivisors : MethodName := ⟨RX6, "orderByDivisors", "(I)I"⟩
abbrev cX6_traceOf : ByteArray := prog_1_method_27_code
def yX6_traceOf : MethodName := ⟨RX6, "traceOf", "(I)I"⟩
abbrev cX6_solve : ByteArray := prog_1_method_28_code
def yX6_solve : MethodName := ⟨RX6, "solve", "(I)I"⟩
abbrev cX6_products : ByteArray := prog_1_method_29_code
def yX6_products : MethodName := ⟨RX6, "products", "()I"⟩
abbrev cX6_recordedStates : ByteArray := prog_1_method_30_code
def yX6_recordedStates : MethodName := ⟨RX6, "recordedStates", "()I"⟩
abbrev cX6_requireRegister : ByteArray := prog_1_method_31_code
def yX6_requireRegister : MethodName := ⟨RX6, "requireRegister", "(I)V"⟩
abbrev cX6_requireRange : ByteArray := prog_1_method_32_code
def yX6_requireRange : MethodName := ⟨RX6, "requireRange", "(II)V"⟩
abbrev cX6_requireValidProgram : ByteArray := prog_1_method_33_code
def yX6_requireValidProgram : MethodName := ⟨RX6, "requireValidProgram", "()V"⟩
abbrev cX6_replace : ByteArray := prog_1_method_34_code
def yX6_replace : MethodName := ⟨RX6, "replace", "(II)I"⟩
abbrev cX6_tryProgram : ByteArray := prog_1_method_35_code
def yX6_tryProgram : MethodName := ⟨RX6, "tryProgram", "()I"⟩
def RX7 : String := "NimberFieldModel"
def TX7 : u_T := fun k => match k with
  | _ => ("", "", "", false)
def tyX7 : Nat → FieldType := fun k => match k with
  | _ => .int
abbrev wsX70 : List Cond := u_ws RX7 TX7 0
theorem nmX7 : ∀ a, a < 0 → ∀ b, b < 0 → a ≠ b → (TX7 a).2.1 ≠ (TX7 b).2.1 := by decide +kernel
theorem tyX7_ok : ∀ k, k < 0 → parseFieldDescriptor (TX7 k).2.2.1 = some (tyX7 k) := by decide +kernel
def RJ9 : String := "java/lang/Math"
def TJ9 : u_T := fun k => match k with
  | _ => ("", "", "", false)
def tyJ9 : Nat → FieldType := fun k => match k with
  | _ => .int
abbrev wsJ90 : List Cond := u_ws RJ9 TJ9 0
theorem nmJ9 : ∀ a, a < 0 → ∀ b, b < 0 → a ≠ b → (TJ9 a).2.1 ≠ (TJ9 b).2.1 := by decide +kernel
theorem tyJ9_ok : ∀ k, k < 0 → parseFieldDescriptor (TJ9 k).2.2.1 = some (tyJ9 k) := by decide +kernel
abbrev cJ9_min_7cf53 : ByteArray := prog_14_method_69_code
def yJ9_min_7cf53 : MethodName := ⟨RJ9, "min", "(II)I"⟩
def RJ0 : String := "java/lang/String"
def TJ0 : u_T := fun k => match k with
  | _ => ("", "", "", false)
def tyJ0 : Nat → FieldType := fun k => match k with
  | _ => .int
abbrev wsJ00 : List Cond := u_ws RJ0 TJ0 0
theorem nmJ0 : ∀ a, a < 0 → ∀ b, b < 0 → a ≠ b → (TJ0 a).2.1 ≠ (TJ0 b).2.1 := by decide +kernel
theorem tyJ0_ok : ∀ k, k < 0 → parseFieldDescriptor (TJ0 k).2.2.1 = some (tyJ0 k) := by decide +kernel
def RL : String := "NimberFieldLaw"
abbrev cL_cell : ByteArray := method_2_code
def yL_cell : MethodName := ⟨RL, "cell", "([II)I"⟩
abbrev cL_up : ByteArray := method_3_code
def yL_up : MethodName := ⟨RL, "up", "(II)I"⟩
abbrev cL_set : ByteArray := method_4_code
def yL_set : MethodName := ⟨RL, "set", "(LNimberField;II)I"⟩
abbrev cL_invert : ByteArray := method_5_code
def yL_invert : MethodName := ⟨RL, "invert", "(LNimberField;I)I"⟩
abbrev cL_takeRoot : ByteArray := method_6_code
def yL_takeRoot : MethodName := ⟨RL, "takeRoot", "(LNimberField;I)I"⟩
abbrev cL_multiply : ByteArray := method_7_code
def yL_multiply : MethodName := ⟨RL, "multiply", "(LNimberField;II)I"⟩
abbrev cL_exchange : ByteArray := method_8_code
def yL_exchange : MethodName := ⟨RL, "exchange", "(LNimberField;II)I"⟩
abbrev cL_type : ByteArray := method_9_code
def yL_type : MethodName := ⟨RL, "type", "(LNimberField;I)I"⟩
abbrev cL_carryOut : ByteArray := method_11_code
def yL_carryOut : MethodName := ⟨RL, "carryOut", "(LNimberField;)I"⟩
abbrev cL_undo : ByteArray := method_12_code
def yL_undo : MethodName := ⟨RL, "undo", "(LNimberField;)I"⟩
abbrev cL_restore : ByteArray := method_13_code
def yL_restore : MethodName := ⟨RL, "restore", "(LNimberField;)I"⟩
abbrev cL_nimber : ByteArray := method_14_code
def yL_nimber : MethodName := ⟨RL, "nimber", "(LNimberField;I)I"⟩
abbrev cL_halves : ByteArray := method_15_code
def yL_halves : MethodName := ⟨RL, "halves", "(LNimberField;II)I"⟩
abbrev cL_bits : ByteArray := method_16_code
def yL_bits : MethodName := ⟨RL, "bits", "(LNimberField;II)I"⟩
abbrev cL_quotient : ByteArray := method_18_code
def yL_quotient : MethodName := ⟨RL, "quotient", "(LNimberField;II)I"⟩
abbrev cL_power : ByteArray := method_19_code
def yL_power : MethodName := ⟨RL, "power", "(LNimberField;II)I"⟩
abbrev cL_root : ByteArray := method_20_code
def yL_root : MethodName := ⟨RL, "root", "(LNimberField;I)I"⟩
abbrev cL_field : ByteArray := method_21_code
def yL_field : MethodName := ⟨RL, "field", "(LNimberField;I)I"⟩
abbrev cL_order : ByteArray := method_23_code
def yL_order : MethodName := ⟨RL, "order", "(LNimberField;I)I"⟩
abbrev cL_trace : ByteArray := method_24_code
def yL_trace : MethodName := ⟨RL, "trace", "(LNimberField;I)I"⟩
abbrev cL_solve : ByteArray := method_25_code
def yL_solve : MethodName := ⟨RL, "solve", "(LNimberField;I)I"⟩
abbrev cL_square : ByteArray := method_26_code
def yL_square : MethodName := ⟨RL, "square", "(LNimberField;I)I"⟩
abbrev cL_written : ByteArray := method_27_code
def yL_written : MethodName := ⟨RL, "written", "(LNimberField;III)I"⟩
abbrev cL_isStep : ByteArray := method_28_code
def yL_isStep : MethodName := ⟨RL, "isStep", "(LNimberField;LNimberField;II)Z"⟩
abbrev cL_isBack : ByteArray := method_29_code
def yL_isBack : MethodName := ⟨RL, "isBack", "(LNimberField;LNimberField;II)Z"⟩
abbrev cL_areAlike : ByteArray := method_30_code
def yL_areAlike : MethodName := ⟨RL, "areAlike", "(LNimberField;LNimberField;)Z"⟩
abbrev cL_isWell : ByteArray := method_31_code
def yL_isWell : MethodName := ⟨RL, "isWell", "(LNimberField;)Z"⟩
abbrev cL_law : ByteArray := code
def yL_law : MethodName := ⟨RL, "law", "([I)Z"⟩
def wsX4_init : List Cond := .code yX4_init cX4_init 1 none :: ([.methodLink RX4 3 objectInit, .instanceMethod objectInit, .code objectInit ⟨#[0xb1]⟩ 1 none, .arrayClass .int, .fieldLink RX4 9 "NimberField$State" "nimbers" "[I"] ++ wsX40)
def wsX0_init : List Cond := .code yX0_init cX0_init 2 none :: ([.methodLink RX0 3 objectInit, .instanceMethod objectInit, .code objectInit ⟨#[0xb1]⟩ 1 none, .classLink RX0 9 RX4, .fieldLink RX0 11 "NimberField$History" "kept" "[LNimberField$State;", .instantiable RX4 2, .initialized RX4, .instanceMethod yX4_init, .code yX4_init cX4_init 1 none, .methodLink RX4 3 objectInit, .arrayClass .int, .fieldLink RX4 9 "NimberField$State" "nimbers" "[I"] ++ wsX00 ++ wsX40)
def wsX0_size : List Cond := .code yX0_size cX0_size 1 (some .int) :: ([.fieldLink RX0 18 "NimberField$History" "size" "I"] ++ wsX00)
def wsX4_nimberIn : List Cond := .code yX4_nimberIn cX4_nimberIn 2 (some .int) :: ([.fieldLink RX4 9 "NimberField$State" "nimbers" "[I"] ++ wsX40)
def wsX4_productCount : List Cond := .code yX4_productCount cX4_productCount 1 (some .int) :: ([.fieldLink RX4 15 "NimberField$State" "productCount" "I"] ++ wsX40)
def wsX4_copyFrom : List Cond := .code yX4_copyFrom cX4_copyFrom 3 none :: ([.fieldLink RX4 9 "NimberField$State" "nimbers" "[I", .fieldLink RX4 15 "NimberField$State" "productCount" "I", .methodLink RX4 19 yX4_nimberIn, .instanceMethod yX4_nimberIn, .selects RX4 yX4_nimberIn yX4_nimberIn, .initialized RX4, .code yX4_nimberIn cX4_nimberIn 2 (some .int), .methodLink RX4 23 yX4_productCount, .instanceMethod yX4_productCount, .selects RX4 yX4_productCount yX4_productCount, .code yX4_productCount cX4_productCount 1 (some .int)] ++ wsX40)
def wsX0_record : List Cond := .code yX0_record cX0_record 3 none :: ([.fieldLink RX0 11 "NimberField$History" "kept" "[LNimberField$State;", .fieldLink RX0 18 "NimberField$History" "size" "I", .methodLink RX0 26 Lib.Math.min.name, .static Lib.Math.min.name, .initialized "java/lang/Math", .code Lib.Math.min.name Lib.Math.min.code 2 (some .int), .methodLink RX0 22 yX4_copyFrom, .instanceMethod yX4_copyFrom, .selects RX4 yX4_copyFrom yX4_copyFrom, .initialized RX4, .code yX4_copyFrom cX4_copyFrom 3 none, .fieldLink RX4 9 "NimberField$State" "nimbers" "[I", .fieldLink RX4 15 "NimberField$State" "productCount" "I", .methodLink RX4 19 yX4_nimberIn, .instanceMethod yX4_nimberIn, .selects RX4 yX4_nimberIn yX4_nimberIn, .code yX4_nimberIn cX4_nimberIn 2 (some .int), .methodLink RX4 23 yX4_productCount, .instanceMethod yX4_productCount, .selects RX4 yX4_productCount yX4_productCount, .code yX4_productCount cX4_productCount 1 (some .int)] ++ wsX00 ++ wsX40)
def wsX0_returnTo : List Cond := .code yX0_returnTo cX0_returnTo 3 (some .int) :: ([.fieldLink RX0 18 "NimberField$History" "size" "I", .fieldLink RX0 11 "NimberField$History" "kept" "[LNimberField$State;", .methodLink RX0 22 yX4_copyFrom, .instanceMethod yX4_copyFrom, .selects RX4 yX4_copyFrom yX4_copyFrom, .initialized RX4, .code yX4_copyFrom cX4_copyFrom 3 none, .fieldLink RX4 9 "NimberField$State" "nimbers" "[I", .fieldLink RX4 15 "NimberField$State" "productCount" "I", .methodLink RX4 19 yX4_nimberIn, .instanceMethod yX4_nimberIn, .selects RX4 yX4_nimberIn yX4_nimberIn, .code yX4_nimberIn cX4_nimberIn 2 (some .int), .methodLink RX4 23 yX4_productCount, .instanceMethod yX4_productCount, .selects RX4 yX4_productCount yX4_productCount, .code yX4_productCount cX4_productCount 1 (some .int)] ++ wsX00 ++ wsX40)
def wsX1_init : List Cond := .code yX1_init cX1_init 1 none :: ([.methodLink RX1 3 objectInit, .instanceMethod objectInit, .code objectInit ⟨#[0xb1]⟩ 1 none, .arrayClass .int, .fieldLink RX1 11 "NimberField$LeastNumberTable" "cells" "[I"] ++ wsX10)
def wsX2_timesSquareOfPower : List Cond := .code yX2_timesSquareOfPower cX2_timesSquareOfPower 5 (some .int) :: ([])
def wsX2_addProductsBelow : List Cond := .code yX2_addProductsBelow cX2_addProductsBelow 6 none :: ([.methodLink RX2 23 yX2_timesSquareOfPower, .static yX2_timesSquareOfPower, .initialized RX2, .code yX2_timesSquareOfPower cX2_timesSquareOfPower 5 (some .int)])
def wsX2_productsOfBits : List Cond := .code yX2_productsOfBits cX2_productsOfBits 2 (some (.array .int)) :: ([.arrayClass .int, .methodLink RX2 19 yX2_addProductsBelow, .static yX2_addProductsBelow, .initialized RX2, .code yX2_addProductsBelow cX2_addProductsBelow 6 none, .methodLink RX2 23 yX2_timesSquareOfPower, .static yX2_timesSquareOfPower, .code yX2_timesSquareOfPower cX2_timesSquareOfPower 5 (some .int)])
def wsX2_init : List Cond := .code yX2_init cX2_init 1 none :: ([.methodLink RX2 3 objectInit, .instanceMethod objectInit, .code objectInit ⟨#[0xb1]⟩ 1 none, .fieldLink RX2 15 "NimberField$Nimbers" "bitProducts" "[I", .methodLink RX2 9 yX2_productsOfBits, .static yX2_productsOfBits, .initialized RX2, .code yX2_productsOfBits cX2_productsOfBits 2 (some (.array .int)), .arrayClass .int, .methodLink RX2 19 yX2_addProductsBelow, .static yX2_addProductsBelow, .code yX2_addProductsBelow cX2_addProductsBelow 6 none, .methodLink RX2 23 yX2_timesSquareOfPower, .static yX2_timesSquareOfPower, .code yX2_timesSquareOfPower cX2_timesSquareOfPower 5 (some .int)] ++ wsX20)
def wsX2_timesByHalves : List Cond := .code yX2_timesByHalves cX2_timesByHalves 12 (some .int) :: ([.methodLink RX2 27 yX2_timesByHalves, .static yX2_timesByHalves, .initialized RX2])
def wsX2_times : List Cond := .code yX2_times cX2_times 6 (some .int) :: ([.fieldLink RX2 15 "NimberField$Nimbers" "bitProducts" "[I"] ++ wsX20)
def wsX2_square : List Cond := .code yX2_square cX2_square 4 (some .int) :: ([.fieldLink RX2 15 "NimberField$Nimbers" "bitProducts" "[I"] ++ wsX20)
def wsX2_raised : List Cond := .code yX2_raised cX2_raised 6 (some .int) :: ([.methodLink RX2 31 yX2_times, .instanceMethod yX2_times, .selects RX2 yX2_times yX2_times, .initialized RX2, .code yX2_times cX2_times 6 (some .int), .fieldLink RX2 15 "NimberField$Nimbers" "bitProducts" "[I", .methodLink RX2 35 yX2_square, .instanceMethod yX2_square, .selects RX2 yX2_square yX2_square, .code yX2_square cX2_square 4 (some .int)] ++ wsX20)
def wsX2_dividedBy : List Cond := .code yX2_dividedBy cX2_dividedBy 6 (some .int) :: ([.methodLink RX2 35 yX2_square, .instanceMethod yX2_square, .selects RX2 yX2_square yX2_square, .initialized RX2, .code yX2_square cX2_square 4 (some .int), .fieldLink RX2 15 "NimberField$Nimbers" "bitProducts" "[I", .methodLink RX2 31 yX2_times, .instanceMethod yX2_times, .selects RX2 yX2_times yX2_times, .code yX2_times cX2_times 6 (some .int)] ++ wsX20)
def wsX2_root : List Cond := .code yX2_root cX2_root 4 (some .int) :: ([.methodLink RX2 35 yX2_square, .instanceMethod yX2_square, .selects RX2 yX2_square yX2_square, .initialized RX2, .code yX2_square cX2_square 4 (some .int), .fieldLink RX2 15 "NimberField$Nimbers" "bitProducts" "[I"] ++ wsX20)
def wsX2_orderByQuotients : List Cond := .code yX2_orderByQuotients cX2_orderByQuotients 7 (some .int) :: ([.constant RX2 39 (65535), .fieldLink RX2 40 "NimberField$Nimbers" "ORDER_DIVISORS" "[I", .methodLink RX2 43 yX2_raised, .instanceMethod yX2_raised, .selects RX2 yX2_raised yX2_raised, .initialized RX2, .code yX2_raised cX2_raised 6 (some .int), .methodLink RX2 31 yX2_times, .instanceMethod yX2_times, .selects RX2 yX2_times yX2_times, .code yX2_times cX2_times 6 (some .int), .fieldLink RX2 15 "NimberField$Nimbers" "bitProducts" "[I", .methodLink RX2 35 yX2_square, .instanceMethod yX2_square, .selects RX2 yX2_square yX2_square, .code yX2_square cX2_square 4 (some .int)] ++ wsX20)
def wsX2_trace : List Cond := .code yX2_trace cX2_trace 5 (some .int) :: ([.methodLink RX2 35 yX2_square, .instanceMethod yX2_square, .selects RX2 yX2_square yX2_square, .initialized RX2, .code yX2_square cX2_square 4 (some .int), .fieldLink RX2 15 "NimberField$Nimbers" "bitProducts" "[I"] ++ wsX20)
def wsX2_leastSolution : List Cond := .code yX2_leastSolution cX2_leastSolution 5 (some .int) :: ([.methodLink RX2 35 yX2_square, .instanceMethod yX2_square, .selects RX2 yX2_square yX2_square, .initialized RX2, .code yX2_square cX2_square 4 (some .int), .fieldLink RX2 15 "NimberField$Nimbers" "bitProducts" "[I"] ++ wsX20)
def wsX5_init : List Cond := .code yX5_init cX5_init 1 none :: ([.methodLink RX5 3 objectInit, .instanceMethod objectInit, .code objectInit ⟨#[0xb1]⟩ 1 none])
def wsX3_init : List Cond := .code yX3_init cX3_init 2 none :: ([.methodLink RX3 3 objectInit, .instanceMethod objectInit, .code objectInit ⟨#[0xb1]⟩ 1 none, .arrayClass .char, .fieldLink RX3 9 "NimberField$Program" "text" "[C", .classLink RX3 15 RX5, .fieldLink RX3 17 "NimberField$Program" "steps" "[LNimberField$Step;", .instantiable RX5 4, .initialized RX5, .instanceMethod yX5_init, .code yX5_init cX5_init 1 none, .methodLink RX5 3 objectInit] ++ wsX30 ++ wsX50)
def wsX3_isFull : List Cond := .code yX3_isFull cX3_isFull 1 (some .boolean) :: ([.fieldLink RX3 22 "NimberField$Program" "length" "I"] ++ wsX30)
def wsX3_append : List Cond := .code yX3_append cX3_append 2 (some .int) :: ([.fieldLink RX3 22 "NimberField$Program" "length" "I", .fieldLink RX3 9 "NimberField$Program" "text" "[C"] ++ wsX30)
def wsX3_empty : List Cond := .code yX3_empty cX3_empty 2 (some .int) :: ([.fieldLink RX3 22 "NimberField$Program" "length" "I"] ++ wsX30)
def wsX3_current : List Cond := .code yX3_current cX3_current 1 (some .char) :: ([.fieldLink RX3 26 "NimberField$Program" "cursor" "I", .fieldLink RX3 22 "NimberField$Program" "length" "I", .fieldLink RX3 9 "NimberField$Program" "text" "[C"] ++ wsX30)
def wsX3_readRegister : List Cond := .code yX3_readRegister cX3_readRegister 2 (some .int) :: ([.fieldLink RX3 26 "NimberField$Program" "cursor" "I", .methodLink RX3 58 yX3_current, .instanceMethod yX3_current, .selects RX3 yX3_current yX3_current, .initialized RX3, .code yX3_current cX3_current 1 (some .char), .fieldLink RX3 22 "NimberField$Program" "length" "I", .fieldLink RX3 9 "NimberField$Program" "text" "[C"] ++ wsX30)
def wsX5_setTarget : List Cond := .code yX5_setTarget cX5_setTarget 2 none :: ([.fieldLink RX5 9 "NimberField$Step" "target" "I"] ++ wsX50)
def wsX3_skip : List Cond := .code yX3_skip cX3_skip 2 (some .boolean) :: ([.fieldLink RX3 26 "NimberField$Program" "cursor" "I", .methodLink RX3 58 yX3_current, .instanceMethod yX3_current, .selects RX3 yX3_current yX3_current, .initialized RX3, .code yX3_current cX3_current 1 (some .char), .fieldLink RX3 22 "NimberField$Program" "length" "I", .fieldLink RX3 9 "NimberField$Program" "text" "[C"] ++ wsX30)
def wsX3_readTarget : List Cond := .code yX3_readTarget cX3_readTarget 3 (some .boolean) :: ([.methodLink RX3 51 yX3_readRegister, .instanceMethod yX3_readRegister, .selects RX3 yX3_readRegister yX3_readRegister, .initialized RX3, .code yX3_readRegister cX3_readRegister 2 (some .int), .fieldLink RX3 26 "NimberField$Program" "cursor" "I", .methodLink RX3 58 yX3_current, .instanceMethod yX3_current, .selects RX3 yX3_current yX3_current, .code yX3_current cX3_current 1 (some .char), .fieldLink RX3 22 "NimberField$Program" "length" "I", .fieldLink RX3 9 "NimberField$Program" "text" "[C", .methodLink RX3 54 yX5_setTarget, .instanceMethod yX5_setTarget, .selects RX5 yX5_setTarget yX5_setTarget, .initialized RX5, .code yX5_setTarget cX5_setTarget 2 none, .fieldLink RX5 9 "NimberField$Step" "target" "I", .methodLink RX3 39 yX3_skip, .instanceMethod yX3_skip, .selects RX3 yX3_skip yX3_skip, .code yX3_skip cX3_skip 2 (some .boolean)] ++ wsX30 ++ wsX50)
def wsX3_digitOf : List Cond := .code yX3_digitOf cX3_digitOf 1 (some .int) :: ([])
def wsX3_readNumber : List Cond := .code yX3_readNumber cX3_readNumber 3 (some .int) :: ([.fieldLink RX3 26 "NimberField$Program" "cursor" "I", .fieldLink RX3 22 "NimberField$Program" "length" "I", .constant RX3 77 (65535), .methodLink RX3 58 yX3_current, .instanceMethod yX3_current, .selects RX3 yX3_current yX3_current, .initialized RX3, .code yX3_current cX3_current 1 (some .char), .fieldLink RX3 9 "NimberField$Program" "text" "[C", .methodLink RX3 73 yX3_digitOf, .static yX3_digitOf, .code yX3_digitOf cX3_digitOf 1 (some .int)] ++ wsX30)
def wsX3_readOperand : List Cond := .code yX3_readOperand cX3_readOperand 2 (some .int) :: ([.constant RX3 72 (65536), .methodLink RX3 51 yX3_readRegister, .instanceMethod yX3_readRegister, .selects RX3 yX3_readRegister yX3_readRegister, .initialized RX3, .code yX3_readRegister cX3_readRegister 2 (some .int), .fieldLink RX3 26 "NimberField$Program" "cursor" "I", .methodLink RX3 58 yX3_current, .instanceMethod yX3_current, .selects RX3 yX3_current yX3_current, .code yX3_current cX3_current 1 (some .char), .fieldLink RX3 22 "NimberField$Program" "length" "I", .fieldLink RX3 9 "NimberField$Program" "text" "[C", .methodLink RX3 69 yX3_readNumber, .instanceMethod yX3_readNumber, .selects RX3 yX3_readNumber yX3_readNumber, .code yX3_readNumber cX3_readNumber 3 (some .int), .constant RX3 77 (65535), .methodLink RX3 73 yX3_digitOf, .static yX3_digitOf, .code yX3_digitOf cX3_digitOf 1 (some .int)] ++ wsX30)
def wsX5_setRightSide : List Cond := .code yX5_setRightSide cX5_setRightSide 4 none :: ([.fieldLink RX5 15 "NimberField$Step" "sign" "C", .fieldLink RX5 19 "NimberField$Step" "first" "I", .fieldLink RX5 22 "NimberField$Step" "second" "I"] ++ wsX50)
def wsX3_readRightSide_r1 : List Cond := [Cond.fieldLink RX3 26 "NimberField$Program" "cursor" "I", Cond.methodLink RX3 58 yX3_current, Cond.instanceMethod yX3_current, Cond.selects RX3 yX3_current yX3_current, Cond.initialized RX3, Cond.code yX3_current cX3_current 1 (some .char), Cond.fieldLink RX3 22 "NimberField$Program" "length" "I", Cond.fieldLink RX3 9 "NimberField$Program" "text" "[C", Cond.methodLink RX3 62 yX3_readOperand, Cond.instanceMethod yX3_readOperand, Cond.selects RX3 yX3_readOperand yX3_readOperand, Cond.code yX3_readOperand cX3_readOperand 2 (some .int), Cond.constant RX3 72 (65536), Cond.methodLink RX3 51 yX3_readRegister, Cond.instanceMethod yX3_readRegister, Cond.selects RX3 yX3_readRegister yX3_readRegister, Cond.code yX3_readRegister cX3_readRegister 2 (some .int), Cond.methodLink RX3 69 yX3_readNumber, Cond.instanceMethod yX3_readNumber, Cond.selects RX3 yX3_readNumber yX3_readNumber, Cond.code yX3_readNumber cX3_readNumber 3 (some .int), Cond.constant RX3 77 (65535), Cond.methodLink RX3 73 yX3_digitOf, Cond.static yX3_digitOf]
def wsX3_readRightSide_r2 : List Cond := [Cond.code yX3_digitOf cX3_digitOf 1 (some .int), Cond.methodLink RX3 65 yX5_setRightSide, Cond.instanceMethod yX5_setRightSide, Cond.selects RX5 yX5_setRightSide yX5_setRightSide, Cond.initialized RX5, Cond.code yX5_setRightSide cX5_setRightSide 4 none, Cond.fieldLink RX5 15 "NimberField$Step" "sign" "C", Cond.fieldLink RX5 19 "NimberField$Step" "first" "I", Cond.fieldLink RX5 22 "NimberField$Step" "second" "I"]
def wsX3_readRightSide : List Cond := .code yX3_readRightSide cX3_readRightSide 5 (some .boolean) :: ((wsX3_readRightSide_r1 ++ wsX3_readRightSide_r2) ++ wsX30 ++ wsX50)
def wsX3_read_r1 : List Cond := [Cond.fieldLink RX3 26 "NimberField$Program" "cursor" "I", Cond.fieldLink RX3 29 "NimberField$Program" "stepCount" "I", Cond.fieldLink RX3 17 "NimberField$Program" "steps" "[LNimberField$Step;", Cond.fieldLink RX3 22 "NimberField$Program" "length" "I", Cond.methodLink RX3 32 yX3_readTarget, Cond.instanceMethod yX3_readTarget, Cond.selects RX3 yX3_readTarget yX3_readTarget, Cond.initialized RX3, Cond.code yX3_readTarget cX3_readTarget 3 (some .boolean), Cond.methodLink RX3 51 yX3_readRegister, Cond.instanceMethod yX3_readRegister, Cond.selects RX3 yX3_readRegister yX3_readRegister, Cond.code yX3_readRegister cX3_readRegister 2 (some .int), Cond.methodLink RX3 58 yX3_current, Cond.instanceMethod yX3_current, Cond.selects RX3 yX3_current yX3_current, Cond.code yX3_current cX3_current 1 (some .char), Cond.fieldLink RX3 9 "NimberField$Program" "text" "[C", Cond.methodLink RX3 54 yX5_setTarget, Cond.instanceMethod yX5_setTarget, Cond.selects RX5 yX5_setTarget yX5_setTarget, Cond.initialized RX5, Cond.code yX5_setTarget cX5_setTarget 2 none, Cond.fieldLink RX5 9 "NimberField$Step" "target" "I"]
def wsX3_read_r2 : List Cond := [Cond.methodLink RX3 39 yX3_skip, Cond.instanceMethod yX3_skip, Cond.selects RX3 yX3_skip yX3_skip, Cond.code yX3_skip cX3_skip 2 (some .boolean), Cond.methodLink RX3 36 yX3_readRightSide, Cond.instanceMethod yX3_readRightSide, Cond.selects RX3 yX3_readRightSide yX3_readRightSide, Cond.code yX3_readRightSide cX3_readRightSide 5 (some .boolean), Cond.methodLink RX3 62 yX3_readOperand, Cond.instanceMethod yX3_readOperand, Cond.selects RX3 yX3_readOperand yX3_readOperand, Cond.code yX3_readOperand cX3_readOperand 2 (some .int), Cond.constant RX3 72 (65536), Cond.methodLink RX3 69 yX3_readNumber, Cond.instanceMethod yX3_readNumber, Cond.selects RX3 yX3_readNumber yX3_readNumber, Cond.code yX3_readNumber cX3_readNumber 3 (some .int), Cond.constant RX3 77 (65535), Cond.methodLink RX3 73 yX3_digitOf, Cond.static yX3_digitOf, Cond.code yX3_digitOf cX3_digitOf 1 (some .int), Cond.methodLink RX3 65 yX5_setRightSide, Cond.instanceMethod yX5_setRightSide, Cond.selects RX5 yX5_setRightSide yX5_setRightSide]
def wsX3_read_r3 : List Cond := [Cond.code yX5_setRightSide cX5_setRightSide 4 none, Cond.fieldLink RX5 15 "NimberField$Step" "sign" "C", Cond.fieldLink RX5 19 "NimberField$Step" "first" "I", Cond.fieldLink RX5 22 "NimberField$Step" "second" "I"]
def wsX3_read : List Cond := .code yX3_read cX3_read 1 (some .int) :: ((wsX3_read_r1 ++ (wsX3_read_r2 ++ wsX3_read_r3)) ++ wsX30 ++ wsX50)
def wsX5_valueOf : List Cond := .code yX5_valueOf cX5_valueOf 2 (some .int) :: ([.constant RX5 42 (65536), .methodLink RX5 43 yX4_nimberIn, .instanceMethod yX4_nimberIn, .selects RX4 yX4_nimberIn yX4_nimberIn, .initialized RX4, .code yX4_nimberIn cX4_nimberIn 2 (some .int), .fieldLink RX4 9 "NimberField$State" "nimbers" "[I"] ++ wsX40)
def wsX5_resultOf : List Cond := .code yX5_resultOf cX5_resultOf 4 (some .int) :: ([.fieldLink RX5 15 "NimberField$Step" "sign" "C", .methodLink RX5 47 yX2_dividedBy, .instanceMethod yX2_dividedBy, .selects RX2 yX2_dividedBy yX2_dividedBy, .initialized RX2, .code yX2_dividedBy cX2_dividedBy 6 (some .int), .methodLink RX2 35 yX2_square, .instanceMethod yX2_square, .selects RX2 yX2_square yX2_square, .code yX2_square cX2_square 4 (some .int), .fieldLink RX2 15 "NimberField$Nimbers" "bitProducts" "[I", .methodLink RX2 31 yX2_times, .instanceMethod yX2_times, .selects RX2 yX2_times yX2_times, .code yX2_times cX2_times 6 (some .int), .methodLink RX5 53 yX2_root, .instanceMethod yX2_root, .selects RX2 yX2_root yX2_root, .code yX2_root cX2_root 4 (some .int), .methodLink RX5 56 yX2_times, .methodLink RX5 59 yX2_raised, .instanceMethod yX2_raised, .selects RX2 yX2_raised yX2_raised, .code yX2_raised cX2_raised 6 (some .int)] ++ wsX50 ++ wsX20)
def wsX4_put : List Cond := .code yX4_put cX4_put 3 none :: ([.fieldLink RX4 9 "NimberField$State" "nimbers" "[I"] ++ wsX40)
def wsX4_countProduct : List Cond := .code yX4_countProduct cX4_countProduct 1 none :: ([.fieldLink RX4 15 "NimberField$State" "productCount" "I"] ++ wsX40)
def wsX5_doOn_r1 : List Cond := [Cond.fieldLink RX5 19 "NimberField$Step" "first" "I", Cond.fieldLink RX5 22 "NimberField$Step" "second" "I", Cond.fieldLink RX5 9 "NimberField$Step" "target" "I", Cond.fieldLink RX5 15 "NimberField$Step" "sign" "C", Cond.methodLink RX5 25 yX5_valueOf, Cond.static yX5_valueOf, Cond.initialized RX5, Cond.code yX5_valueOf cX5_valueOf 2 (some .int), Cond.constant RX5 42 (65536), Cond.methodLink RX5 43 yX4_nimberIn, Cond.instanceMethod yX4_nimberIn, Cond.selects RX4 yX4_nimberIn yX4_nimberIn, Cond.initialized RX4, Cond.code yX4_nimberIn cX4_nimberIn 2 (some .int), Cond.fieldLink RX4 9 "NimberField$State" "nimbers" "[I", Cond.methodLink RX5 29 yX5_resultOf, Cond.instanceMethod yX5_resultOf, Cond.selects RX5 yX5_resultOf yX5_resultOf, Cond.code yX5_resultOf cX5_resultOf 4 (some .int), Cond.methodLink RX5 47 yX2_dividedBy, Cond.instanceMethod yX2_dividedBy, Cond.selects RX2 yX2_dividedBy yX2_dividedBy, Cond.initialized RX2, Cond.code yX2_dividedBy cX2_dividedBy 6 (some .int)]
def wsX5_doOn_r2 : List Cond := [Cond.methodLink RX2 35 yX2_square, Cond.instanceMethod yX2_square, Cond.selects RX2 yX2_square yX2_square, Cond.code yX2_square cX2_square 4 (some .int), Cond.fieldLink RX2 15 "NimberField$Nimbers" "bitProducts" "[I", Cond.methodLink RX2 31 yX2_times, Cond.instanceMethod yX2_times, Cond.selects RX2 yX2_times yX2_times, Cond.code yX2_times cX2_times 6 (some .int), Cond.methodLink RX5 53 yX2_root, Cond.instanceMethod yX2_root, Cond.selects RX2 yX2_root yX2_root, Cond.code yX2_root cX2_root 4 (some .int), Cond.methodLink RX5 56 yX2_times, Cond.methodLink RX5 59 yX2_raised, Cond.instanceMethod yX2_raised, Cond.selects RX2 yX2_raised yX2_raised, Cond.code yX2_raised cX2_raised 6 (some .int), Cond.methodLink RX5 33 yX4_put, Cond.instanceMethod yX4_put, Cond.selects RX4 yX4_put yX4_put, Cond.code yX4_put cX4_put 3 none, Cond.methodLink RX5 39 yX4_countProduct, Cond.instanceMethod yX4_countProduct]
def wsX5_doOn_r3 : List Cond := [Cond.selects RX4 yX4_countProduct yX4_countProduct, Cond.code yX4_countProduct cX4_countProduct 1 none, Cond.fieldLink RX4 15 "NimberField$State" "productCount" "I"]
def wsX5_doOn : List Cond := .code yX5_doOn cX5_doOn 4 (some .boolean) :: ((wsX5_doOn_r1 ++ (wsX5_doOn_r2 ++ wsX5_doOn_r3)) ++ wsX50 ++ wsX40 ++ wsX20)
def wsX3_runOn_r1 : List Cond := [Cond.fieldLink RX3 29 "NimberField$Program" "stepCount" "I", Cond.fieldLink RX3 17 "NimberField$Program" "steps" "[LNimberField$Step;", Cond.methodLink RX3 43 yX5_doOn, Cond.instanceMethod yX5_doOn, Cond.selects RX5 yX5_doOn yX5_doOn, Cond.initialized RX5, Cond.code yX5_doOn cX5_doOn 4 (some .boolean), Cond.fieldLink RX5 19 "NimberField$Step" "first" "I", Cond.fieldLink RX5 22 "NimberField$Step" "second" "I", Cond.fieldLink RX5 9 "NimberField$Step" "target" "I", Cond.fieldLink RX5 15 "NimberField$Step" "sign" "C", Cond.methodLink RX5 25 yX5_valueOf, Cond.static yX5_valueOf, Cond.code yX5_valueOf cX5_valueOf 2 (some .int), Cond.constant RX5 42 (65536), Cond.methodLink RX5 43 yX4_nimberIn, Cond.instanceMethod yX4_nimberIn, Cond.selects RX4 yX4_nimberIn yX4_nimberIn, Cond.initialized RX4, Cond.code yX4_nimberIn cX4_nimberIn 2 (some .int), Cond.fieldLink RX4 9 "NimberField$State" "nimbers" "[I", Cond.methodLink RX5 29 yX5_resultOf, Cond.instanceMethod yX5_resultOf, Cond.selects RX5 yX5_resultOf yX5_resultOf]
def wsX3_runOn_r2 : List Cond := [Cond.code yX5_resultOf cX5_resultOf 4 (some .int), Cond.methodLink RX5 47 yX2_dividedBy, Cond.instanceMethod yX2_dividedBy, Cond.selects RX2 yX2_dividedBy yX2_dividedBy, Cond.initialized RX2, Cond.code yX2_dividedBy cX2_dividedBy 6 (some .int), Cond.methodLink RX2 35 yX2_square, Cond.instanceMethod yX2_square, Cond.selects RX2 yX2_square yX2_square, Cond.code yX2_square cX2_square 4 (some .int), Cond.fieldLink RX2 15 "NimberField$Nimbers" "bitProducts" "[I", Cond.methodLink RX2 31 yX2_times, Cond.instanceMethod yX2_times, Cond.selects RX2 yX2_times yX2_times, Cond.code yX2_times cX2_times 6 (some .int), Cond.methodLink RX5 53 yX2_root, Cond.instanceMethod yX2_root, Cond.selects RX2 yX2_root yX2_root, Cond.code yX2_root cX2_root 4 (some .int), Cond.methodLink RX5 56 yX2_times, Cond.methodLink RX5 59 yX2_raised, Cond.instanceMethod yX2_raised, Cond.selects RX2 yX2_raised yX2_raised, Cond.code yX2_raised cX2_raised 6 (some .int)]
def wsX3_runOn_r3 : List Cond := [Cond.methodLink RX5 33 yX4_put, Cond.instanceMethod yX4_put, Cond.selects RX4 yX4_put yX4_put, Cond.code yX4_put cX4_put 3 none, Cond.methodLink RX5 39 yX4_countProduct, Cond.instanceMethod yX4_countProduct, Cond.selects RX4 yX4_countProduct yX4_countProduct, Cond.code yX4_countProduct cX4_countProduct 1 none, Cond.fieldLink RX4 15 "NimberField$State" "productCount" "I"]
def wsX3_runOn : List Cond := .code yX3_runOn cX3_runOn 4 (some .int) :: ((wsX3_runOn_r1 ++ (wsX3_runOn_r2 ++ wsX3_runOn_r3)) ++ wsX30 ++ wsX50 ++ wsX40 ++ wsX20)
def wsX5_target : List Cond := .code yX5_target cX5_target 1 (some .int) :: ([.fieldLink RX5 9 "NimberField$Step" "target" "I"] ++ wsX50)
def wsX3_lastTarget : List Cond := .code yX3_lastTarget cX3_lastTarget 1 (some .int) :: ([.fieldLink RX3 29 "NimberField$Program" "stepCount" "I", .fieldLink RX3 17 "NimberField$Program" "steps" "[LNimberField$Step;", .methodLink RX3 47 yX5_target, .instanceMethod yX5_target, .selects RX5 yX5_target yX5_target, .initialized RX5, .code yX5_target cX5_target 1 (some .int), .fieldLink RX5 9 "NimberField$Step" "target" "I"] ++ wsX30 ++ wsX50)
def wsX4_sum : List Cond := .code yX4_sum cX4_sum 3 (some .int) :: ([.fieldLink RX4 9 "NimberField$State" "nimbers" "[I"] ++ wsX40)
def wsX6_init_r1 : List Cond := [Cond.methodLink RX6 3 objectInit, Cond.instanceMethod objectInit, Cond.code objectInit ⟨#[0xb1]⟩ 1 none, Cond.classLink RX6 9 RX2, Cond.instantiable RX2 1, Cond.initialized RX2, Cond.fieldLink RX6 12 "NimberField" "field" "LNimberField$Nimbers;", Cond.classLink RX6 16 RX1, Cond.instantiable RX1 2, Cond.initialized RX1, Cond.fieldLink RX6 19 "NimberField" "table" "LNimberField$LeastNumberTable;", Cond.classLink RX6 23 RX3, Cond.instantiable RX3 5, Cond.initialized RX3, Cond.fieldLink RX6 26 "NimberField" "program" "LNimberField$Program;", Cond.classLink RX6 30 RX4, Cond.instantiable RX4 2, Cond.initialized RX4, Cond.fieldLink RX6 33 "NimberField" "state" "LNimberField$State;", Cond.fieldLink RX6 37 "NimberField" "trial" "LNimberField$State;", Cond.fieldLink RX6 40 "NimberField" "snapshot" "LNimberField$State;", Cond.classLink RX6 43 RX0, Cond.instantiable RX0 2, Cond.initialized RX0]
def wsX6_init_r2 : List Cond := [Cond.fieldLink RX6 46 "NimberField" "history" "LNimberField$History;", Cond.fieldLink RX6 50 "NimberField" "snapshotTaken" "Z", Cond.methodLink RX6 11 yX2_init, Cond.instanceMethod yX2_init, Cond.code yX2_init cX2_init 1 none, Cond.methodLink RX2 3 objectInit, Cond.fieldLink RX2 15 "NimberField$Nimbers" "bitProducts" "[I", Cond.methodLink RX2 9 yX2_productsOfBits, Cond.static yX2_productsOfBits, Cond.code yX2_productsOfBits cX2_productsOfBits 2 (some (.array .int)), Cond.arrayClass .int, Cond.methodLink RX2 19 yX2_addProductsBelow, Cond.static yX2_addProductsBelow, Cond.code yX2_addProductsBelow cX2_addProductsBelow 6 none, Cond.methodLink RX2 23 yX2_timesSquareOfPower, Cond.static yX2_timesSquareOfPower, Cond.code yX2_timesSquareOfPower cX2_timesSquareOfPower 5 (some .int), Cond.instanceMethod yX1_init, Cond.code yX1_init cX1_init 1 none, Cond.methodLink RX1 3 objectInit, Cond.fieldLink RX1 11 "NimberField$LeastNumberTable" "cells" "[I", Cond.methodLink RX6 25 yX3_init, Cond.instanceMethod yX3_init, Cond.code yX3_init cX3_init 2 none]
def wsX6_init_r3 : List Cond := [Cond.methodLink RX3 3 objectInit, Cond.arrayClass .char, Cond.fieldLink RX3 9 "NimberField$Program" "text" "[C", Cond.classLink RX3 15 RX5, Cond.fieldLink RX3 17 "NimberField$Program" "steps" "[LNimberField$Step;", Cond.instantiable RX5 4, Cond.initialized RX5, Cond.instanceMethod yX5_init, Cond.code yX5_init cX5_init 1 none, Cond.methodLink RX5 3 objectInit, Cond.instanceMethod yX4_init, Cond.code yX4_init cX4_init 1 none, Cond.methodLink RX4 3 objectInit, Cond.fieldLink RX4 9 "NimberField$State" "nimbers" "[I", Cond.methodLink RX6 45 yX0_init, Cond.instanceMethod yX0_init, Cond.code yX0_init cX0_init 2 none, Cond.methodLink RX0 3 objectInit, Cond.classLink RX0 9 RX4, Cond.fieldLink RX0 11 "NimberField$History" "kept" "[LNimberField$State;"]
def wsX6_init : List Cond := .code yX6_init cX6_init 1 none :: ((wsX6_init_r1 ++ (wsX6_init_r2 ++ wsX6_init_r3)) ++ wsX20 ++ wsX60 ++ wsX10 ++ wsX30 ++ wsX40 ++ wsX00 ++ wsX50)
def wsX6_requireRegister : List Cond := .code yX6_requireRegister cX6_requireRegister 1 none :: ([.classLink RX6 168 "java/lang/IndexOutOfBoundsException", .initialized "java/lang/IndexOutOfBoundsException"] ++ (vx_atS RX6 172 "java/lang/IndexOutOfBoundsException" ["java/lang/RuntimeException", "java/lang/Exception"]).filter goodWord)
def wsX6_requireRange : List Cond := .code yX6_requireRange cX6_requireRange 2 none :: ([.classLink RX6 173 "java/lang/IllegalArgumentException", .initialized "java/lang/IllegalArgumentException"] ++ (vx_atS RX6 177 "java/lang/IllegalArgumentException" ["java/lang/RuntimeException", "java/lang/Exception"]).filter goodWord)
def wsX6_set_r1 : List Cond := [Cond.constant RX6 58 (65535), Cond.fieldLink RX6 33 "NimberField" "state" "LNimberField$State;", Cond.fieldLink RX6 46 "NimberField" "history" "LNimberField$History;", Cond.methodLink RX6 54 yX6_requireRegister, Cond.static yX6_requireRegister, Cond.initialized RX6, Cond.code yX6_requireRegister cX6_requireRegister 1 none, Cond.classLink RX6 168 "java/lang/IndexOutOfBoundsException", Cond.initialized "java/lang/IndexOutOfBoundsException", Cond.methodLink RX6 59 yX6_requireRange, Cond.static yX6_requireRange, Cond.code yX6_requireRange cX6_requireRange 2 none, Cond.classLink RX6 173 "java/lang/IllegalArgumentException", Cond.initialized "java/lang/IllegalArgumentException", Cond.methodLink RX6 63 yX4_nimberIn, Cond.instanceMethod yX4_nimberIn, Cond.selects RX4 yX4_nimberIn yX4_nimberIn, Cond.initialized RX4, Cond.code yX4_nimberIn cX4_nimberIn 2 (some .int), Cond.fieldLink RX4 9 "NimberField$State" "nimbers" "[I", Cond.methodLink RX6 67 yX0_record, Cond.instanceMethod yX0_record, Cond.selects RX0 yX0_record yX0_record, Cond.initialized RX0]
def wsX6_set_r2 : List Cond := [Cond.code yX0_record cX0_record 3 none, Cond.fieldLink RX0 11 "NimberField$History" "kept" "[LNimberField$State;", Cond.fieldLink RX0 18 "NimberField$History" "size" "I", Cond.methodLink RX0 26 Lib.Math.min.name, Cond.static Lib.Math.min.name, Cond.initialized "java/lang/Math", Cond.code Lib.Math.min.name Lib.Math.min.code 2 (some .int), Cond.methodLink RX0 22 yX4_copyFrom, Cond.instanceMethod yX4_copyFrom, Cond.selects RX4 yX4_copyFrom yX4_copyFrom, Cond.code yX4_copyFrom cX4_copyFrom 3 none, Cond.fieldLink RX4 15 "NimberField$State" "productCount" "I", Cond.methodLink RX4 19 yX4_nimberIn, Cond.methodLink RX4 23 yX4_productCount, Cond.instanceMethod yX4_productCount, Cond.selects RX4 yX4_productCount yX4_productCount, Cond.code yX4_productCount cX4_productCount 1 (some .int), Cond.methodLink RX6 71 yX4_put, Cond.instanceMethod yX4_put, Cond.selects RX4 yX4_put yX4_put, Cond.code yX4_put cX4_put 3 none]
def wsX6_set : List Cond := .code yX6_set cX6_set 4 (some .int) :: ((wsX6_set_r1 ++ wsX6_set_r2) ++ wsX60 ++ wsX40 ++ wsX00 ++ (vx_atS RX6 172 "java/lang/IndexOutOfBoundsException" ["java/lang/RuntimeException", "java/lang/Exception"]).filter goodWord ++ (vx_atS RX6 177 "java/lang/IllegalArgumentException" ["java/lang/RuntimeException", "java/lang/Exception"]).filter goodWord)
def wsX6_replace_r1 : List Cond := [Cond.fieldLink RX6 46 "NimberField" "history" "LNimberField$History;", Cond.fieldLink RX6 33 "NimberField" "state" "LNimberField$State;", Cond.methodLink RX6 67 yX0_record, Cond.instanceMethod yX0_record, Cond.selects RX0 yX0_record yX0_record, Cond.initialized RX0, Cond.code yX0_record cX0_record 3 none, Cond.fieldLink RX0 11 "NimberField$History" "kept" "[LNimberField$State;", Cond.fieldLink RX0 18 "NimberField$History" "size" "I", Cond.methodLink RX0 26 Lib.Math.min.name, Cond.static Lib.Math.min.name, Cond.initialized "java/lang/Math", Cond.code Lib.Math.min.name Lib.Math.min.code 2 (some .int), Cond.methodLink RX0 22 yX4_copyFrom, Cond.instanceMethod yX4_copyFrom, Cond.selects RX4 yX4_copyFrom yX4_copyFrom, Cond.initialized RX4, Cond.code yX4_copyFrom cX4_copyFrom 3 none, Cond.fieldLink RX4 9 "NimberField$State" "nimbers" "[I", Cond.fieldLink RX4 15 "NimberField$State" "productCount" "I", Cond.methodLink RX4 19 yX4_nimberIn, Cond.instanceMethod yX4_nimberIn, Cond.selects RX4 yX4_nimberIn yX4_nimberIn, Cond.code yX4_nimberIn cX4_nimberIn 2 (some .int)]
def wsX6_replace_r2 : List Cond := [Cond.methodLink RX4 23 yX4_productCount, Cond.instanceMethod yX4_productCount, Cond.selects RX4 yX4_productCount yX4_productCount, Cond.code yX4_productCount cX4_productCount 1 (some .int), Cond.methodLink RX6 71 yX4_put, Cond.instanceMethod yX4_put, Cond.selects RX4 yX4_put yX4_put, Cond.code yX4_put cX4_put 3 none]
def wsX6_replace : List Cond := .code yX6_replace cX6_replace 3 (some .int) :: ((wsX6_replace_r1 ++ wsX6_replace_r2) ++ wsX60 ++ wsX00 ++ wsX40)
def wsX6_invert_r1 : List Cond := [Cond.classLink RX6 74 "java/lang/IllegalStateException", Cond.initialized "java/lang/IllegalStateException", Cond.fieldLink RX6 33 "NimberField" "state" "LNimberField$State;", Cond.fieldLink RX6 12 "NimberField" "field" "LNimberField$Nimbers;", Cond.methodLink RX6 54 yX6_requireRegister, Cond.static yX6_requireRegister, Cond.initialized RX6, Cond.code yX6_requireRegister cX6_requireRegister 1 none, Cond.classLink RX6 168 "java/lang/IndexOutOfBoundsException", Cond.initialized "java/lang/IndexOutOfBoundsException", Cond.methodLink RX6 63 yX4_nimberIn, Cond.instanceMethod yX4_nimberIn, Cond.selects RX4 yX4_nimberIn yX4_nimberIn, Cond.initialized RX4, Cond.code yX4_nimberIn cX4_nimberIn 2 (some .int), Cond.fieldLink RX4 9 "NimberField$State" "nimbers" "[I", Cond.methodLink RX6 81 yX2_dividedBy, Cond.instanceMethod yX2_dividedBy, Cond.selects RX2 yX2_dividedBy yX2_dividedBy, Cond.initialized RX2, Cond.code yX2_dividedBy cX2_dividedBy 6 (some .int), Cond.methodLink RX2 35 yX2_square, Cond.instanceMethod yX2_square, Cond.selects RX2 yX2_square yX2_square]
def wsX6_invert_r2 : List Cond := [Cond.code yX2_square cX2_square 4 (some .int), Cond.fieldLink RX2 15 "NimberField$Nimbers" "bitProducts" "[I", Cond.methodLink RX2 31 yX2_times, Cond.instanceMethod yX2_times, Cond.selects RX2 yX2_times yX2_times, Cond.code yX2_times cX2_times 6 (some .int), Cond.methodLink RX6 85 yX6_replace, Cond.instanceMethod yX6_replace, Cond.selects RX6 yX6_replace yX6_replace, Cond.code yX6_replace cX6_replace 3 (some .int), Cond.fieldLink RX6 46 "NimberField" "history" "LNimberField$History;", Cond.methodLink RX6 67 yX0_record, Cond.instanceMethod yX0_record, Cond.selects RX0 yX0_record yX0_record, Cond.initialized RX0, Cond.code yX0_record cX0_record 3 none, Cond.fieldLink RX0 11 "NimberField$History" "kept" "[LNimberField$State;", Cond.fieldLink RX0 18 "NimberField$History" "size" "I", Cond.methodLink RX0 26 Lib.Math.min.name, Cond.static Lib.Math.min.name, Cond.initialized "java/lang/Math", Cond.code Lib.Math.min.name Lib.Math.min.code 2 (some .int), Cond.methodLink RX0 22 yX4_copyFrom, Cond.instanceMethod yX4_copyFrom]
def wsX6_invert_r3 : List Cond := [Cond.selects RX4 yX4_copyFrom yX4_copyFrom, Cond.code yX4_copyFrom cX4_copyFrom 3 none, Cond.fieldLink RX4 15 "NimberField$State" "productCount" "I", Cond.methodLink RX4 19 yX4_nimberIn, Cond.methodLink RX4 23 yX4_productCount, Cond.instanceMethod yX4_productCount, Cond.selects RX4 yX4_productCount yX4_productCount, Cond.code yX4_productCount cX4_productCount 1 (some .int), Cond.methodLink RX6 71 yX4_put, Cond.instanceMethod yX4_put, Cond.selects RX4 yX4_put yX4_put, Cond.code yX4_put cX4_put 3 none]
def wsX6_invert : List Cond := .code yX6_invert cX6_invert 3 (some .int) :: ((wsX6_invert_r1 ++ (wsX6_invert_r2 ++ wsX6_invert_r3)) ++ wsX60 ++ wsX40 ++ wsX20 ++ wsX00 ++ (vx_atS RX6 78 "java/lang/IllegalStateException" ["java/lang/RuntimeException", "java/lang/Exception"]).filter goodWord ++ (vx_atS RX6 172 "java/lang/IndexOutOfBoundsException" ["java/lang/RuntimeException", "java/lang/Exception"]).filter goodWord)
def wsX6_takeRoot_r1 : List Cond := [Cond.fieldLink RX6 12 "NimberField" "field" "LNimberField$Nimbers;", Cond.fieldLink RX6 33 "NimberField" "state" "LNimberField$State;", Cond.methodLink RX6 54 yX6_requireRegister, Cond.static yX6_requireRegister, Cond.initialized RX6, Cond.code yX6_requireRegister cX6_requireRegister 1 none, Cond.classLink RX6 168 "java/lang/IndexOutOfBoundsException", Cond.initialized "java/lang/IndexOutOfBoundsException", Cond.methodLink RX6 63 yX4_nimberIn, Cond.instanceMethod yX4_nimberIn, Cond.selects RX4 yX4_nimberIn yX4_nimberIn, Cond.initialized RX4, Cond.code yX4_nimberIn cX4_nimberIn 2 (some .int), Cond.fieldLink RX4 9 "NimberField$State" "nimbers" "[I", Cond.methodLink RX6 88 yX2_root, Cond.instanceMethod yX2_root, Cond.selects RX2 yX2_root yX2_root, Cond.initialized RX2, Cond.code yX2_root cX2_root 4 (some .int), Cond.methodLink RX2 35 yX2_square, Cond.instanceMethod yX2_square, Cond.selects RX2 yX2_square yX2_square, Cond.code yX2_square cX2_square 4 (some .int), Cond.fieldLink RX2 15 "NimberField$Nimbers" "bitProducts" "[I"]
def wsX6_takeRoot_r2 : List Cond := [Cond.methodLink RX6 85 yX6_replace, Cond.instanceMethod yX6_replace, Cond.selects RX6 yX6_replace yX6_replace, Cond.code yX6_replace cX6_replace 3 (some .int), Cond.fieldLink RX6 46 "NimberField" "history" "LNimberField$History;", Cond.methodLink RX6 67 yX0_record, Cond.instanceMethod yX0_record, Cond.selects RX0 yX0_record yX0_record, Cond.initialized RX0, Cond.code yX0_record cX0_record 3 none, Cond.fieldLink RX0 11 "NimberField$History" "kept" "[LNimberField$State;", Cond.fieldLink RX0 18 "NimberField$History" "size" "I", Cond.methodLink RX0 26 Lib.Math.min.name, Cond.static Lib.Math.min.name, Cond.initialized "java/lang/Math", Cond.code Lib.Math.min.name Lib.Math.min.code 2 (some .int), Cond.methodLink RX0 22 yX4_copyFrom, Cond.instanceMethod yX4_copyFrom, Cond.selects RX4 yX4_copyFrom yX4_copyFrom, Cond.code yX4_copyFrom cX4_copyFrom 3 none, Cond.fieldLink RX4 15 "NimberField$State" "productCount" "I", Cond.methodLink RX4 19 yX4_nimberIn, Cond.methodLink RX4 23 yX4_productCount, Cond.instanceMethod yX4_productCount]
def wsX6_takeRoot_r3 : List Cond := [Cond.selects RX4 yX4_productCount yX4_productCount, Cond.code yX4_productCount cX4_productCount 1 (some .int), Cond.methodLink RX6 71 yX4_put, Cond.instanceMethod yX4_put, Cond.selects RX4 yX4_put yX4_put, Cond.code yX4_put cX4_put 3 none]
def wsX6_takeRoot : List Cond := .code yX6_takeRoot cX6_takeRoot 2 (some .int) :: ((wsX6_takeRoot_r1 ++ (wsX6_takeRoot_r2 ++ wsX6_takeRoot_r3)) ++ wsX60 ++ wsX40 ++ wsX20 ++ wsX00 ++ (vx_atS RX6 172 "java/lang/IndexOutOfBoundsException" ["java/lang/RuntimeException", "java/lang/Exception"]).filter goodWord)
def wsX6_multiply_r1 : List Cond := [Cond.fieldLink RX6 12 "NimberField" "field" "LNimberField$Nimbers;", Cond.fieldLink RX6 33 "NimberField" "state" "LNimberField$State;", Cond.methodLink RX6 54 yX6_requireRegister, Cond.static yX6_requireRegister, Cond.initialized RX6, Cond.code yX6_requireRegister cX6_requireRegister 1 none, Cond.classLink RX6 168 "java/lang/IndexOutOfBoundsException", Cond.initialized "java/lang/IndexOutOfBoundsException", Cond.methodLink RX6 63 yX4_nimberIn, Cond.instanceMethod yX4_nimberIn, Cond.selects RX4 yX4_nimberIn yX4_nimberIn, Cond.initialized RX4, Cond.code yX4_nimberIn cX4_nimberIn 2 (some .int), Cond.fieldLink RX4 9 "NimberField$State" "nimbers" "[I", Cond.methodLink RX6 91 yX2_times, Cond.instanceMethod yX2_times, Cond.selects RX2 yX2_times yX2_times, Cond.initialized RX2, Cond.code yX2_times cX2_times 6 (some .int), Cond.fieldLink RX2 15 "NimberField$Nimbers" "bitProducts" "[I", Cond.methodLink RX6 85 yX6_replace, Cond.instanceMethod yX6_replace, Cond.selects RX6 yX6_replace yX6_replace, Cond.code yX6_replace cX6_replace 3 (some .int)]
def wsX6_multiply_r2 : List Cond := [Cond.fieldLink RX6 46 "NimberField" "history" "LNimberField$History;", Cond.methodLink RX6 67 yX0_record, Cond.instanceMethod yX0_record, Cond.selects RX0 yX0_record yX0_record, Cond.initialized RX0, Cond.code yX0_record cX0_record 3 none, Cond.fieldLink RX0 11 "NimberField$History" "kept" "[LNimberField$State;", Cond.fieldLink RX0 18 "NimberField$History" "size" "I", Cond.methodLink RX0 26 Lib.Math.min.name, Cond.static Lib.Math.min.name, Cond.initialized "java/lang/Math", Cond.code Lib.Math.min.name Lib.Math.min.code 2 (some .int), Cond.methodLink RX0 22 yX4_copyFrom, Cond.instanceMethod yX4_copyFrom, Cond.selects RX4 yX4_copyFrom yX4_copyFrom, Cond.code yX4_copyFrom cX4_copyFrom 3 none, Cond.fieldLink RX4 15 "NimberField$State" "productCount" "I", Cond.methodLink RX4 19 yX4_nimberIn, Cond.methodLink RX4 23 yX4_productCount, Cond.instanceMethod yX4_productCount, Cond.selects RX4 yX4_productCount yX4_productCount, Cond.code yX4_productCount cX4_productCount 1 (some .int), Cond.methodLink RX6 71 yX4_put, Cond.instanceMethod yX4_put]
def wsX6_multiply_r3 : List Cond := [Cond.selects RX4 yX4_put yX4_put, Cond.code yX4_put cX4_put 3 none, Cond.methodLink RX6 94 yX4_countProduct, Cond.instanceMethod yX4_countProduct, Cond.selects RX4 yX4_countProduct yX4_countProduct, Cond.code yX4_countProduct cX4_countProduct 1 none]
def wsX6_multiply : List Cond := .code yX6_multiply cX6_multiply 4 (some .int) :: ((wsX6_multiply_r1 ++ (wsX6_multiply_r2 ++ wsX6_multiply_r3)) ++ wsX60 ++ wsX40 ++ wsX20 ++ wsX00 ++ (vx_atS RX6 172 "java/lang/IndexOutOfBoundsException" ["java/lang/RuntimeException", "java/lang/Exception"]).filter goodWord)
def wsX6_exchange_r1 : List Cond := [Cond.fieldLink RX6 33 "NimberField" "state" "LNimberField$State;", Cond.fieldLink RX6 46 "NimberField" "history" "LNimberField$History;", Cond.methodLink RX6 54 yX6_requireRegister, Cond.static yX6_requireRegister, Cond.initialized RX6, Cond.code yX6_requireRegister cX6_requireRegister 1 none, Cond.classLink RX6 168 "java/lang/IndexOutOfBoundsException", Cond.initialized "java/lang/IndexOutOfBoundsException", Cond.methodLink RX6 63 yX4_nimberIn, Cond.instanceMethod yX4_nimberIn, Cond.selects RX4 yX4_nimberIn yX4_nimberIn, Cond.initialized RX4, Cond.code yX4_nimberIn cX4_nimberIn 2 (some .int), Cond.fieldLink RX4 9 "NimberField$State" "nimbers" "[I", Cond.methodLink RX6 67 yX0_record, Cond.instanceMethod yX0_record, Cond.selects RX0 yX0_record yX0_record, Cond.initialized RX0, Cond.code yX0_record cX0_record 3 none, Cond.fieldLink RX0 11 "NimberField$History" "kept" "[LNimberField$State;", Cond.fieldLink RX0 18 "NimberField$History" "size" "I", Cond.methodLink RX0 26 Lib.Math.min.name, Cond.static Lib.Math.min.name, Cond.initialized "java/lang/Math"]
def wsX6_exchange_r2 : List Cond := [Cond.code Lib.Math.min.name Lib.Math.min.code 2 (some .int), Cond.methodLink RX0 22 yX4_copyFrom, Cond.instanceMethod yX4_copyFrom, Cond.selects RX4 yX4_copyFrom yX4_copyFrom, Cond.code yX4_copyFrom cX4_copyFrom 3 none, Cond.fieldLink RX4 15 "NimberField$State" "productCount" "I", Cond.methodLink RX4 19 yX4_nimberIn, Cond.methodLink RX4 23 yX4_productCount, Cond.instanceMethod yX4_productCount, Cond.selects RX4 yX4_productCount yX4_productCount, Cond.code yX4_productCount cX4_productCount 1 (some .int), Cond.methodLink RX6 71 yX4_put, Cond.instanceMethod yX4_put, Cond.selects RX4 yX4_put yX4_put, Cond.code yX4_put cX4_put 3 none]
def wsX6_exchange : List Cond := .code yX6_exchange cX6_exchange 5 (some .int) :: ((wsX6_exchange_r1 ++ wsX6_exchange_r2) ++ wsX60 ++ wsX40 ++ wsX00 ++ (vx_atS RX6 172 "java/lang/IndexOutOfBoundsException" ["java/lang/RuntimeException", "java/lang/Exception"]).filter goodWord)
def wsX6_type : List Cond := .code yX6_type cX6_type 2 (some .int) :: ([.classLink RX6 74 "java/lang/IllegalStateException", .initialized "java/lang/IllegalStateException", .fieldLink RX6 26 "NimberField" "program" "LNimberField$Program;", .methodLink RX6 97 yX3_isFull, .instanceMethod yX3_isFull, .selects RX3 yX3_isFull yX3_isFull, .initialized RX3, .code yX3_isFull cX3_isFull 1 (some .boolean), .fieldLink RX3 22 "NimberField$Program" "length" "I", .methodLink RX6 103 yX3_append, .instanceMethod yX3_append, .selects RX3 yX3_append yX3_append, .code yX3_append cX3_append 2 (some .int), .fieldLink RX3 9 "NimberField$Program" "text" "[C"] ++ wsX60 ++ wsX30 ++ (vx_atS RX6 78 "java/lang/IllegalStateException" ["java/lang/RuntimeException", "java/lang/Exception"]).filter goodWord)
def wsX6_clearProgram : List Cond := .code yX6_clearProgram cX6_clearProgram 1 (some .int) :: ([.fieldLink RX6 26 "NimberField" "program" "LNimberField$Program;", .methodLink RX6 107 yX3_empty, .instanceMethod yX3_empty, .selects RX3 yX3_empty yX3_empty, .initialized RX3, .code yX3_empty cX3_empty 2 (some .int), .fieldLink RX3 22 "NimberField$Program" "length" "I"] ++ wsX60 ++ wsX30)
def wsX6_requireValidProgram_r1 : List Cond := [Cond.classLink RX6 74 "java/lang/IllegalStateException", Cond.initialized "java/lang/IllegalStateException", Cond.fieldLink RX6 26 "NimberField" "program" "LNimberField$Program;", Cond.methodLink RX6 111 yX3_read, Cond.instanceMethod yX3_read, Cond.selects RX3 yX3_read yX3_read, Cond.initialized RX3, Cond.code yX3_read cX3_read 1 (some .int), Cond.fieldLink RX3 26 "NimberField$Program" "cursor" "I", Cond.fieldLink RX3 29 "NimberField$Program" "stepCount" "I", Cond.fieldLink RX3 17 "NimberField$Program" "steps" "[LNimberField$Step;", Cond.fieldLink RX3 22 "NimberField$Program" "length" "I", Cond.methodLink RX3 32 yX3_readTarget, Cond.instanceMethod yX3_readTarget, Cond.selects RX3 yX3_readTarget yX3_readTarget, Cond.code yX3_readTarget cX3_readTarget 3 (some .boolean), Cond.methodLink RX3 51 yX3_readRegister, Cond.instanceMethod yX3_readRegister, Cond.selects RX3 yX3_readRegister yX3_readRegister, Cond.code yX3_readRegister cX3_readRegister 2 (some .int), Cond.methodLink RX3 58 yX3_current, Cond.instanceMethod yX3_current, Cond.selects RX3 yX3_current yX3_current, Cond.code yX3_current cX3_current 1 (some .char)]
def wsX6_requireValidProgram_r2 : List Cond := [Cond.fieldLink RX3 9 "NimberField$Program" "text" "[C", Cond.methodLink RX3 54 yX5_setTarget, Cond.instanceMethod yX5_setTarget, Cond.selects RX5 yX5_setTarget yX5_setTarget, Cond.initialized RX5, Cond.code yX5_setTarget cX5_setTarget 2 none, Cond.fieldLink RX5 9 "NimberField$Step" "target" "I", Cond.methodLink RX3 39 yX3_skip, Cond.instanceMethod yX3_skip, Cond.selects RX3 yX3_skip yX3_skip, Cond.code yX3_skip cX3_skip 2 (some .boolean), Cond.methodLink RX3 36 yX3_readRightSide, Cond.instanceMethod yX3_readRightSide, Cond.selects RX3 yX3_readRightSide yX3_readRightSide, Cond.code yX3_readRightSide cX3_readRightSide 5 (some .boolean), Cond.methodLink RX3 62 yX3_readOperand, Cond.instanceMethod yX3_readOperand, Cond.selects RX3 yX3_readOperand yX3_readOperand, Cond.code yX3_readOperand cX3_readOperand 2 (some .int), Cond.constant RX3 72 (65536), Cond.methodLink RX3 69 yX3_readNumber, Cond.instanceMethod yX3_readNumber, Cond.selects RX3 yX3_readNumber yX3_readNumber, Cond.code yX3_readNumber cX3_readNumber 3 (some .int)]
def wsX6_requireValidProgram_r3 : List Cond := [Cond.constant RX3 77 (65535), Cond.methodLink RX3 73 yX3_digitOf, Cond.static yX3_digitOf, Cond.code yX3_digitOf cX3_digitOf 1 (some .int), Cond.methodLink RX3 65 yX5_setRightSide, Cond.instanceMethod yX5_setRightSide, Cond.selects RX5 yX5_setRightSide yX5_setRightSide, Cond.code yX5_setRightSide cX5_setRightSide 4 none, Cond.fieldLink RX5 15 "NimberField$Step" "sign" "C", Cond.fieldLink RX5 19 "NimberField$Step" "first" "I", Cond.fieldLink RX5 22 "NimberField$Step" "second" "I"]
def wsX6_requireValidProgram : List Cond := .code yX6_requireValidProgram cX6_requireValidProgram 1 none :: ((wsX6_requireValidProgram_r1 ++ (wsX6_requireValidProgram_r2 ++ wsX6_requireValidProgram_r3)) ++ wsX60 ++ wsX30 ++ wsX50 ++ (vx_atS RX6 78 "java/lang/IllegalStateException" ["java/lang/RuntimeException", "java/lang/Exception"]).filter goodWord)
def wsX6_tryProgram_r1 : List Cond := [Cond.fieldLink RX6 37 "NimberField" "trial" "LNimberField$State;", Cond.fieldLink RX6 33 "NimberField" "state" "LNimberField$State;", Cond.fieldLink RX6 26 "NimberField" "program" "LNimberField$Program;", Cond.fieldLink RX6 12 "NimberField" "field" "LNimberField$Nimbers;", Cond.methodLink RX6 122 yX4_copyFrom, Cond.instanceMethod yX4_copyFrom, Cond.selects RX4 yX4_copyFrom yX4_copyFrom, Cond.initialized RX4, Cond.code yX4_copyFrom cX4_copyFrom 3 none, Cond.fieldLink RX4 9 "NimberField$State" "nimbers" "[I", Cond.fieldLink RX4 15 "NimberField$State" "productCount" "I", Cond.methodLink RX4 19 yX4_nimberIn, Cond.instanceMethod yX4_nimberIn, Cond.selects RX4 yX4_nimberIn yX4_nimberIn, Cond.code yX4_nimberIn cX4_nimberIn 2 (some .int), Cond.methodLink RX4 23 yX4_productCount, Cond.instanceMethod yX4_productCount, Cond.selects RX4 yX4_productCount yX4_productCount, Cond.code yX4_productCount cX4_productCount 1 (some .int), Cond.methodLink RX6 180 yX3_runOn, Cond.instanceMethod yX3_runOn, Cond.selects RX3 yX3_runOn yX3_runOn, Cond.initialized RX3, Cond.code yX3_runOn cX3_runOn 4 (some .int)]
def wsX6_tryProgram_r2 : List Cond := [Cond.fieldLink RX3 29 "NimberField$Program" "stepCount" "I", Cond.fieldLink RX3 17 "NimberField$Program" "steps" "[LNimberField$Step;", Cond.methodLink RX3 43 yX5_doOn, Cond.instanceMethod yX5_doOn, Cond.selects RX5 yX5_doOn yX5_doOn, Cond.initialized RX5, Cond.code yX5_doOn cX5_doOn 4 (some .boolean), Cond.fieldLink RX5 19 "NimberField$Step" "first" "I", Cond.fieldLink RX5 22 "NimberField$Step" "second" "I", Cond.fieldLink RX5 9 "NimberField$Step" "target" "I", Cond.fieldLink RX5 15 "NimberField$Step" "sign" "C", Cond.methodLink RX5 25 yX5_valueOf, Cond.static yX5_valueOf, Cond.code yX5_valueOf cX5_valueOf 2 (some .int), Cond.constant RX5 42 (65536), Cond.methodLink RX5 43 yX4_nimberIn, Cond.methodLink RX5 29 yX5_resultOf, Cond.instanceMethod yX5_resultOf, Cond.selects RX5 yX5_resultOf yX5_resultOf, Cond.code yX5_resultOf cX5_resultOf 4 (some .int), Cond.methodLink RX5 47 yX2_dividedBy, Cond.instanceMethod yX2_dividedBy, Cond.selects RX2 yX2_dividedBy yX2_dividedBy, Cond.initialized RX2]
def wsX6_tryProgram_r3 : List Cond := [Cond.code yX2_dividedBy cX2_dividedBy 6 (some .int), Cond.methodLink RX2 35 yX2_square, Cond.instanceMethod yX2_square, Cond.selects RX2 yX2_square yX2_square, Cond.code yX2_square cX2_square 4 (some .int), Cond.fieldLink RX2 15 "NimberField$Nimbers" "bitProducts" "[I", Cond.methodLink RX2 31 yX2_times, Cond.instanceMethod yX2_times, Cond.selects RX2 yX2_times yX2_times, Cond.code yX2_times cX2_times 6 (some .int), Cond.methodLink RX5 53 yX2_root, Cond.instanceMethod yX2_root, Cond.selects RX2 yX2_root yX2_root, Cond.code yX2_root cX2_root 4 (some .int), Cond.methodLink RX5 56 yX2_times, Cond.methodLink RX5 59 yX2_raised, Cond.instanceMethod yX2_raised, Cond.selects RX2 yX2_raised yX2_raised, Cond.code yX2_raised cX2_raised 6 (some .int), Cond.methodLink RX5 33 yX4_put, Cond.instanceMethod yX4_put, Cond.selects RX4 yX4_put yX4_put, Cond.code yX4_put cX4_put 3 none, Cond.methodLink RX5 39 yX4_countProduct]
def wsX6_tryProgram_r4 : List Cond := [Cond.instanceMethod yX4_countProduct, Cond.selects RX4 yX4_countProduct yX4_countProduct, Cond.code yX4_countProduct cX4_countProduct 1 none]
def wsX6_tryProgram : List Cond := .code yX6_tryProgram cX6_tryProgram 1 (some .int) :: ((wsX6_tryProgram_r1 ++ (wsX6_tryProgram_r2 ++ (wsX6_tryProgram_r3 ++ wsX6_tryProgram_r4))) ++ wsX60 ++ wsX40 ++ wsX30 ++ wsX50 ++ wsX20)
def wsX6_carryOut_r1 : List Cond := [Cond.classLink RX6 74 "java/lang/IllegalStateException", Cond.initialized "java/lang/IllegalStateException", Cond.fieldLink RX6 46 "NimberField" "history" "LNimberField$History;", Cond.fieldLink RX6 33 "NimberField" "state" "LNimberField$State;", Cond.fieldLink RX6 37 "NimberField" "trial" "LNimberField$State;", Cond.fieldLink RX6 26 "NimberField" "program" "LNimberField$Program;", Cond.methodLink RX6 114 yX6_requireValidProgram, Cond.instanceMethod yX6_requireValidProgram, Cond.selects RX6 yX6_requireValidProgram yX6_requireValidProgram, Cond.initialized RX6, Cond.code yX6_requireValidProgram cX6_requireValidProgram 1 none, Cond.methodLink RX6 111 yX3_read, Cond.instanceMethod yX3_read, Cond.selects RX3 yX3_read yX3_read, Cond.initialized RX3, Cond.code yX3_read cX3_read 1 (some .int), Cond.fieldLink RX3 26 "NimberField$Program" "cursor" "I", Cond.fieldLink RX3 29 "NimberField$Program" "stepCount" "I", Cond.fieldLink RX3 17 "NimberField$Program" "steps" "[LNimberField$Step;", Cond.fieldLink RX3 22 "NimberField$Program" "length" "I", Cond.methodLink RX3 32 yX3_readTarget, Cond.instanceMethod yX3_readTarget, Cond.selects RX3 yX3_readTarget yX3_readTarget, Cond.code yX3_readTarget cX3_readTarget 3 (some .boolean)]
def wsX6_carryOut_r2 : List Cond := [Cond.methodLink RX3 51 yX3_readRegister, Cond.instanceMethod yX3_readRegister, Cond.selects RX3 yX3_readRegister yX3_readRegister, Cond.code yX3_readRegister cX3_readRegister 2 (some .int), Cond.methodLink RX3 58 yX3_current, Cond.instanceMethod yX3_current, Cond.selects RX3 yX3_current yX3_current, Cond.code yX3_current cX3_current 1 (some .char), Cond.fieldLink RX3 9 "NimberField$Program" "text" "[C", Cond.methodLink RX3 54 yX5_setTarget, Cond.instanceMethod yX5_setTarget, Cond.selects RX5 yX5_setTarget yX5_setTarget, Cond.initialized RX5, Cond.code yX5_setTarget cX5_setTarget 2 none, Cond.fieldLink RX5 9 "NimberField$Step" "target" "I", Cond.methodLink RX3 39 yX3_skip, Cond.instanceMethod yX3_skip, Cond.selects RX3 yX3_skip yX3_skip, Cond.code yX3_skip cX3_skip 2 (some .boolean), Cond.methodLink RX3 36 yX3_readRightSide, Cond.instanceMethod yX3_readRightSide, Cond.selects RX3 yX3_readRightSide yX3_readRightSide, Cond.code yX3_readRightSide cX3_readRightSide 5 (some .boolean), Cond.methodLink RX3 62 yX3_readOperand]
def wsX6_carryOut_r3 : List Cond := [Cond.instanceMethod yX3_readOperand, Cond.selects RX3 yX3_readOperand yX3_readOperand, Cond.code yX3_readOperand cX3_readOperand 2 (some .int), Cond.constant RX3 72 (65536), Cond.methodLink RX3 69 yX3_readNumber, Cond.instanceMethod yX3_readNumber, Cond.selects RX3 yX3_readNumber yX3_readNumber, Cond.code yX3_readNumber cX3_readNumber 3 (some .int), Cond.constant RX3 77 (65535), Cond.methodLink RX3 73 yX3_digitOf, Cond.static yX3_digitOf, Cond.code yX3_digitOf cX3_digitOf 1 (some .int), Cond.methodLink RX3 65 yX5_setRightSide, Cond.instanceMethod yX5_setRightSide, Cond.selects RX5 yX5_setRightSide yX5_setRightSide, Cond.code yX5_setRightSide cX5_setRightSide 4 none, Cond.fieldLink RX5 15 "NimberField$Step" "sign" "C", Cond.fieldLink RX5 19 "NimberField$Step" "first" "I", Cond.fieldLink RX5 22 "NimberField$Step" "second" "I", Cond.methodLink RX6 117 yX6_tryProgram, Cond.instanceMethod yX6_tryProgram, Cond.selects RX6 yX6_tryProgram yX6_tryProgram, Cond.code yX6_tryProgram cX6_tryProgram 1 (some .int), Cond.fieldLink RX6 12 "NimberField" "field" "LNimberField$Nimbers;"]
def wsX6_carryOut_r4 : List Cond := [Cond.methodLink RX6 122 yX4_copyFrom, Cond.instanceMethod yX4_copyFrom, Cond.selects RX4 yX4_copyFrom yX4_copyFrom, Cond.initialized RX4, Cond.code yX4_copyFrom cX4_copyFrom 3 none, Cond.fieldLink RX4 9 "NimberField$State" "nimbers" "[I", Cond.fieldLink RX4 15 "NimberField$State" "productCount" "I", Cond.methodLink RX4 19 yX4_nimberIn, Cond.instanceMethod yX4_nimberIn, Cond.selects RX4 yX4_nimberIn yX4_nimberIn, Cond.code yX4_nimberIn cX4_nimberIn 2 (some .int), Cond.methodLink RX4 23 yX4_productCount, Cond.instanceMethod yX4_productCount, Cond.selects RX4 yX4_productCount yX4_productCount, Cond.code yX4_productCount cX4_productCount 1 (some .int), Cond.methodLink RX6 180 yX3_runOn, Cond.instanceMethod yX3_runOn, Cond.selects RX3 yX3_runOn yX3_runOn, Cond.code yX3_runOn cX3_runOn 4 (some .int), Cond.methodLink RX3 43 yX5_doOn, Cond.instanceMethod yX5_doOn, Cond.selects RX5 yX5_doOn yX5_doOn, Cond.code yX5_doOn cX5_doOn 4 (some .boolean), Cond.methodLink RX5 25 yX5_valueOf]
def wsX6_carryOut_r5 : List Cond := [Cond.static yX5_valueOf, Cond.code yX5_valueOf cX5_valueOf 2 (some .int), Cond.constant RX5 42 (65536), Cond.methodLink RX5 43 yX4_nimberIn, Cond.methodLink RX5 29 yX5_resultOf, Cond.instanceMethod yX5_resultOf, Cond.selects RX5 yX5_resultOf yX5_resultOf, Cond.code yX5_resultOf cX5_resultOf 4 (some .int), Cond.methodLink RX5 47 yX2_dividedBy, Cond.instanceMethod yX2_dividedBy, Cond.selects RX2 yX2_dividedBy yX2_dividedBy, Cond.initialized RX2, Cond.code yX2_dividedBy cX2_dividedBy 6 (some .int), Cond.methodLink RX2 35 yX2_square, Cond.instanceMethod yX2_square, Cond.selects RX2 yX2_square yX2_square, Cond.code yX2_square cX2_square 4 (some .int), Cond.fieldLink RX2 15 "NimberField$Nimbers" "bitProducts" "[I", Cond.methodLink RX2 31 yX2_times, Cond.instanceMethod yX2_times, Cond.selects RX2 yX2_times yX2_times, Cond.code yX2_times cX2_times 6 (some .int), Cond.methodLink RX5 53 yX2_root, Cond.instanceMethod yX2_root]
def wsX6_carryOut_r6 : List Cond := [Cond.selects RX2 yX2_root yX2_root, Cond.code yX2_root cX2_root 4 (some .int), Cond.methodLink RX5 56 yX2_times, Cond.methodLink RX5 59 yX2_raised, Cond.instanceMethod yX2_raised, Cond.selects RX2 yX2_raised yX2_raised, Cond.code yX2_raised cX2_raised 6 (some .int), Cond.methodLink RX5 33 yX4_put, Cond.instanceMethod yX4_put, Cond.selects RX4 yX4_put yX4_put, Cond.code yX4_put cX4_put 3 none, Cond.methodLink RX5 39 yX4_countProduct, Cond.instanceMethod yX4_countProduct, Cond.selects RX4 yX4_countProduct yX4_countProduct, Cond.code yX4_countProduct cX4_countProduct 1 none, Cond.methodLink RX6 67 yX0_record, Cond.instanceMethod yX0_record, Cond.selects RX0 yX0_record yX0_record, Cond.initialized RX0, Cond.code yX0_record cX0_record 3 none, Cond.fieldLink RX0 11 "NimberField$History" "kept" "[LNimberField$State;", Cond.fieldLink RX0 18 "NimberField$History" "size" "I", Cond.methodLink RX0 26 Lib.Math.min.name, Cond.static Lib.Math.min.name]
def wsX6_carryOut_r7 : List Cond := [Cond.initialized "java/lang/Math", Cond.code Lib.Math.min.name Lib.Math.min.code 2 (some .int), Cond.methodLink RX0 22 yX4_copyFrom, Cond.methodLink RX6 125 yX3_lastTarget, Cond.instanceMethod yX3_lastTarget, Cond.selects RX3 yX3_lastTarget yX3_lastTarget, Cond.code yX3_lastTarget cX3_lastTarget 1 (some .int), Cond.methodLink RX3 47 yX5_target, Cond.instanceMethod yX5_target, Cond.selects RX5 yX5_target yX5_target, Cond.code yX5_target cX5_target 1 (some .int), Cond.methodLink RX6 63 yX4_nimberIn]
def wsX6_carryOut : List Cond := .code yX6_carryOut cX6_carryOut 1 (some .int) :: ((wsX6_carryOut_r1 ++ (wsX6_carryOut_r2 ++ (wsX6_carryOut_r3 ++ (wsX6_carryOut_r4 ++ (wsX6_carryOut_r5 ++ (wsX6_carryOut_r6 ++ wsX6_carryOut_r7)))))) ++ wsX60 ++ wsX30 ++ wsX50 ++ wsX40 ++ wsX20 ++ wsX00 ++ (vx_atS RX6 78 "java/lang/IllegalStateException" ["java/lang/RuntimeException", "java/lang/Exception"]).filter goodWord)
def wsX6_undo_r1 : List Cond := [Cond.classLink RX6 74 "java/lang/IllegalStateException", Cond.initialized "java/lang/IllegalStateException", Cond.fieldLink RX6 46 "NimberField" "history" "LNimberField$History;", Cond.fieldLink RX6 33 "NimberField" "state" "LNimberField$State;", Cond.methodLink RX6 128 yX0_size, Cond.instanceMethod yX0_size, Cond.selects RX0 yX0_size yX0_size, Cond.initialized RX0, Cond.code yX0_size cX0_size 1 (some .int), Cond.fieldLink RX0 18 "NimberField$History" "size" "I", Cond.methodLink RX6 133 yX0_returnTo, Cond.instanceMethod yX0_returnTo, Cond.selects RX0 yX0_returnTo yX0_returnTo, Cond.code yX0_returnTo cX0_returnTo 3 (some .int), Cond.fieldLink RX0 11 "NimberField$History" "kept" "[LNimberField$State;", Cond.methodLink RX0 22 yX4_copyFrom, Cond.instanceMethod yX4_copyFrom, Cond.selects RX4 yX4_copyFrom yX4_copyFrom, Cond.initialized RX4, Cond.code yX4_copyFrom cX4_copyFrom 3 none, Cond.fieldLink RX4 9 "NimberField$State" "nimbers" "[I", Cond.fieldLink RX4 15 "NimberField$State" "productCount" "I", Cond.methodLink RX4 19 yX4_nimberIn, Cond.instanceMethod yX4_nimberIn]
def wsX6_undo_r2 : List Cond := [Cond.selects RX4 yX4_nimberIn yX4_nimberIn, Cond.code yX4_nimberIn cX4_nimberIn 2 (some .int), Cond.methodLink RX4 23 yX4_productCount, Cond.instanceMethod yX4_productCount, Cond.selects RX4 yX4_productCount yX4_productCount, Cond.code yX4_productCount cX4_productCount 1 (some .int)]
def wsX6_undo : List Cond := .code yX6_undo cX6_undo 1 (some .int) :: ((wsX6_undo_r1 ++ wsX6_undo_r2) ++ wsX60 ++ wsX00 ++ wsX40 ++ (vx_atS RX6 78 "java/lang/IllegalStateException" ["java/lang/RuntimeException", "java/lang/Exception"]).filter goodWord)
def wsX6_takeSnapshot : List Cond := .code yX6_takeSnapshot cX6_takeSnapshot 1 (some .int) :: ([.fieldLink RX6 40 "NimberField" "snapshot" "LNimberField$State;", .fieldLink RX6 33 "NimberField" "state" "LNimberField$State;", .fieldLink RX6 50 "NimberField" "snapshotTaken" "Z", .methodLink RX6 122 yX4_copyFrom, .instanceMethod yX4_copyFrom, .selects RX4 yX4_copyFrom yX4_copyFrom, .initialized RX4, .code yX4_copyFrom cX4_copyFrom 3 none, .fieldLink RX4 9 "NimberField$State" "nimbers" "[I", .fieldLink RX4 15 "NimberField$State" "productCount" "I", .methodLink RX4 19 yX4_nimberIn, .instanceMethod yX4_nimberIn, .selects RX4 yX4_nimberIn yX4_nimberIn, .code yX4_nimberIn cX4_nimberIn 2 (some .int), .methodLink RX4 23 yX4_productCount, .instanceMethod yX4_productCount, .selects RX4 yX4_productCount yX4_productCount, .code yX4_productCount cX4_productCount 1 (some .int), .methodLink RX6 137 yX4_sum, .instanceMethod yX4_sum, .selects RX4 yX4_sum yX4_sum, .code yX4_sum cX4_sum 3 (some .int)] ++ wsX60 ++ wsX40)
def wsX6_restoreSnapshot_r1 : List Cond := [Cond.classLink RX6 74 "java/lang/IllegalStateException", Cond.initialized "java/lang/IllegalStateException", Cond.fieldLink RX6 50 "NimberField" "snapshotTaken" "Z", Cond.fieldLink RX6 46 "NimberField" "history" "LNimberField$History;", Cond.fieldLink RX6 33 "NimberField" "state" "LNimberField$State;", Cond.fieldLink RX6 40 "NimberField" "snapshot" "LNimberField$State;", Cond.methodLink RX6 67 yX0_record, Cond.instanceMethod yX0_record, Cond.selects RX0 yX0_record yX0_record, Cond.initialized RX0, Cond.code yX0_record cX0_record 3 none, Cond.fieldLink RX0 11 "NimberField$History" "kept" "[LNimberField$State;", Cond.fieldLink RX0 18 "NimberField$History" "size" "I", Cond.methodLink RX0 26 Lib.Math.min.name, Cond.static Lib.Math.min.name, Cond.initialized "java/lang/Math", Cond.code Lib.Math.min.name Lib.Math.min.code 2 (some .int), Cond.methodLink RX0 22 yX4_copyFrom, Cond.instanceMethod yX4_copyFrom, Cond.selects RX4 yX4_copyFrom yX4_copyFrom, Cond.initialized RX4, Cond.code yX4_copyFrom cX4_copyFrom 3 none, Cond.fieldLink RX4 9 "NimberField$State" "nimbers" "[I", Cond.fieldLink RX4 15 "NimberField$State" "productCount" "I"]
def wsX6_restoreSnapshot_r2 : List Cond := [Cond.methodLink RX4 19 yX4_nimberIn, Cond.instanceMethod yX4_nimberIn, Cond.selects RX4 yX4_nimberIn yX4_nimberIn, Cond.code yX4_nimberIn cX4_nimberIn 2 (some .int), Cond.methodLink RX4 23 yX4_productCount, Cond.instanceMethod yX4_productCount, Cond.selects RX4 yX4_productCount yX4_productCount, Cond.code yX4_productCount cX4_productCount 1 (some .int), Cond.methodLink RX6 122 yX4_copyFrom, Cond.methodLink RX6 137 yX4_sum, Cond.instanceMethod yX4_sum, Cond.selects RX4 yX4_sum yX4_sum, Cond.code yX4_sum cX4_sum 3 (some .int)]
def wsX6_restoreSnapshot : List Cond := .code yX6_restoreSnapshot cX6_restoreSnapshot 1 (some .int) :: ((wsX6_restoreSnapshot_r1 ++ wsX6_restoreSnapshot_r2) ++ wsX60 ++ wsX00 ++ wsX40 ++ (vx_atS RX6 78 "java/lang/IllegalStateException" ["java/lang/RuntimeException", "java/lang/Exception"]).filter goodWord)
def wsX6_nimberOf : List Cond := .code yX6_nimberOf cX6_nimberOf 2 (some .int) :: ([.fieldLink RX6 33 "NimberField" "state" "LNimberField$State;", .methodLink RX6 54 yX6_requireRegister, .static yX6_requireRegister, .initialized RX6, .code yX6_requireRegister cX6_requireRegister 1 none, .classLink RX6 168 "java/lang/IndexOutOfBoundsException", .initialized "java/lang/IndexOutOfBoundsException", .methodLink RX6 63 yX4_nimberIn, .instanceMethod yX4_nimberIn, .selects RX4 yX4_nimberIn yX4_nimberIn, .initialized RX4, .code yX4_nimberIn cX4_nimberIn 2 (some .int), .fieldLink RX4 9 "NimberField$State" "nimbers" "[I"] ++ wsX60 ++ wsX40 ++ (vx_atS RX6 172 "java/lang/IndexOutOfBoundsException" ["java/lang/RuntimeException", "java/lang/Exception"]).filter goodWord)
def wsX6_sumOfAll : List Cond := .code yX6_sumOfAll cX6_sumOfAll 1 (some .int) :: ([.fieldLink RX6 33 "NimberField" "state" "LNimberField$State;", .methodLink RX6 137 yX4_sum, .instanceMethod yX4_sum, .selects RX4 yX4_sum yX4_sum, .initialized RX4, .code yX4_sum cX4_sum 3 (some .int), .fieldLink RX4 9 "NimberField$State" "nimbers" "[I"] ++ wsX60 ++ wsX40)
def wsX6_registerToLessen : List Cond := .code yX6_registerToLessen cX6_registerToLessen 4 (some .int) :: ([.fieldLink RX6 33 "NimberField" "state" "LNimberField$State;", .methodLink RX6 137 yX4_sum, .instanceMethod yX4_sum, .selects RX4 yX4_sum yX4_sum, .initialized RX4, .code yX4_sum cX4_sum 3 (some .int), .fieldLink RX4 9 "NimberField$State" "nimbers" "[I", .methodLink RX6 63 yX4_nimberIn, .instanceMethod yX4_nimberIn, .selects RX4 yX4_nimberIn yX4_nimberIn, .code yX4_nimberIn cX4_nimberIn 2 (some .int)] ++ wsX60 ++ wsX40)
def wsX6_productByHalves : List Cond := .code yX6_productByHalves cX6_productByHalves 3 (some .int) :: ([.constant RX6 58 (65535), .methodLink RX6 59 yX6_requireRange, .static yX6_requireRange, .initialized RX6, .code yX6_requireRange cX6_requireRange 2 none, .classLink RX6 173 "java/lang/IllegalArgumentException", .initialized "java/lang/IllegalArgumentException", .static yX2_timesByHalves, .initialized RX2, .code yX2_timesByHalves cX2_timesByHalves 12 (some .int), .methodLink RX2 27 yX2_timesByHalves] ++ (vx_atS RX6 177 "java/lang/IllegalArgumentException" ["java/lang/RuntimeException", "java/lang/Exception"]).filter goodWord)
def wsX6_productByBits : List Cond := .code yX6_productByBits cX6_productByBits 3 (some .int) :: ([.constant RX6 58 (65535), .fieldLink RX6 12 "NimberField" "field" "LNimberField$Nimbers;", .methodLink RX6 59 yX6_requireRange, .static yX6_requireRange, .initialized RX6, .code yX6_requireRange cX6_requireRange 2 none, .classLink RX6 173 "java/lang/IllegalArgumentException", .initialized "java/lang/IllegalArgumentException", .methodLink RX6 91 yX2_times, .instanceMethod yX2_times, .selects RX2 yX2_times yX2_times, .initialized RX2, .code yX2_times cX2_times 6 (some .int), .fieldLink RX2 15 "NimberField$Nimbers" "bitProducts" "[I"] ++ wsX60 ++ wsX20 ++ (vx_atS RX6 177 "java/lang/IllegalArgumentException" ["java/lang/RuntimeException", "java/lang/Exception"]).filter goodWord)
def wsX6_quotient : List Cond := .code yX6_quotient cX6_quotient 3 (some .int) :: ([.constant RX6 58 (65535), .fieldLink RX6 12 "NimberField" "field" "LNimberField$Nimbers;", .methodLink RX6 59 yX6_requireRange, .static yX6_requireRange, .initialized RX6, .code yX6_requireRange cX6_requireRange 2 none, .classLink RX6 173 "java/lang/IllegalArgumentException", .initialized "java/lang/IllegalArgumentException", .methodLink RX6 81 yX2_dividedBy, .instanceMethod yX2_dividedBy, .selects RX2 yX2_dividedBy yX2_dividedBy, .initialized RX2, .code yX2_dividedBy cX2_dividedBy 6 (some .int), .methodLink RX2 35 yX2_square, .instanceMethod yX2_square, .selects RX2 yX2_square yX2_square, .code yX2_square cX2_square 4 (some .int), .fieldLink RX2 15 "NimberField$Nimbers" "bitProducts" "[I", .methodLink RX2 31 yX2_times, .instanceMethod yX2_times, .selects RX2 yX2_times yX2_times, .code yX2_times cX2_times 6 (some .int)] ++ wsX60 ++ wsX20 ++ (vx_atS RX6 177 "java/lang/IllegalArgumentException" ["java/lang/RuntimeException", "java/lang/Exception"]).filter goodWord)
def wsX6_power : List Cond := .code yX6_power cX6_power 3 (some .int) :: ([.constant RX6 58 (65535), .constant RX6 149 (1000000000), .fieldLink RX6 12 "NimberField" "field" "LNimberField$Nimbers;", .methodLink RX6 59 yX6_requireRange, .static yX6_requireRange, .initialized RX6, .code yX6_requireRange cX6_requireRange 2 none, .classLink RX6 173 "java/lang/IllegalArgumentException", .initialized "java/lang/IllegalArgumentException", .methodLink RX6 150 yX2_raised, .instanceMethod yX2_raised, .selects RX2 yX2_raised yX2_raised, .initialized RX2, .code yX2_raised cX2_raised 6 (some .int), .methodLink RX2 31 yX2_times, .instanceMethod yX2_times, .selects RX2 yX2_times yX2_times, .code yX2_times cX2_times 6 (some .int), .fieldLink RX2 15 "NimberField$Nimbers" "bitProducts" "[I", .methodLink RX2 35 yX2_square, .instanceMethod yX2_square, .selects RX2 yX2_square yX2_square, .code yX2_square cX2_square 4 (some .int)] ++ wsX60 ++ wsX20 ++ (vx_atS RX6 177 "java/lang/IllegalArgumentException" ["java/lang/RuntimeException", "java/lang/Exception"]).filter goodWord)
def wsX6_rootOf : List Cond := .code yX6_rootOf cX6_rootOf 2 (some .int) :: ([.constant RX6 58 (65535), .fieldLink RX6 12 "NimberField" "field" "LNimberField$Nimbers;", .methodLink RX6 59 yX6_requireRange, .static yX6_requireRange, .initialized RX6, .code yX6_requireRange cX6_requireRange 2 none, .classLink RX6 173 "java/lang/IllegalArgumentException", .initialized "java/lang/IllegalArgumentException", .methodLink RX6 88 yX2_root, .instanceMethod yX2_root, .selects RX2 yX2_root yX2_root, .initialized RX2, .code yX2_root cX2_root 4 (some .int), .methodLink RX2 35 yX2_square, .instanceMethod yX2_square, .selects RX2 yX2_square yX2_square, .code yX2_square cX2_square 4 (some .int), .fieldLink RX2 15 "NimberField$Nimbers" "bitProducts" "[I"] ++ wsX60 ++ wsX20 ++ (vx_atS RX6 177 "java/lang/IllegalArgumentException" ["java/lang/RuntimeException", "java/lang/Exception"]).filter goodWord)
def wsX6_fieldOf : List Cond := .code yX6_fieldOf cX6_fieldOf 3 (some .int) :: ([.constant RX6 58 (65535), .methodLink RX6 59 yX6_requireRange, .static yX6_requireRange, .initialized RX6, .code yX6_requireRange cX6_requireRange 2 none, .classLink RX6 173 "java/lang/IllegalArgumentException", .initialized "java/lang/IllegalArgumentException"] ++ (vx_atS RX6 177 "java/lang/IllegalArgumentException" ["java/lang/RuntimeException", "java/lang/Exception"]).filter goodWord)
def wsX6_orderByDivisors_r1 : List Cond := [Cond.constant RX6 58 (65535), Cond.fieldLink RX6 12 "NimberField" "field" "LNimberField$Nimbers;", Cond.methodLink RX6 59 yX6_requireRange, Cond.static yX6_requireRange, Cond.initialized RX6, Cond.code yX6_requireRange cX6_requireRange 2 none, Cond.classLink RX6 173 "java/lang/IllegalArgumentException", Cond.initialized "java/lang/IllegalArgumentException", Cond.methodLink RX6 156 yX2_orderByQuotients, Cond.instanceMethod yX2_orderByQuotients, Cond.selects RX2 yX2_orderByQuotients yX2_orderByQuotients, Cond.initialized RX2, Cond.code yX2_orderByQuotients cX2_orderByQuotients 7 (some .int), Cond.constant RX2 39 (65535), Cond.fieldLink RX2 40 "NimberField$Nimbers" "ORDER_DIVISORS" "[I", Cond.methodLink RX2 43 yX2_raised, Cond.instanceMethod yX2_raised, Cond.selects RX2 yX2_raised yX2_raised, Cond.code yX2_raised cX2_raised 6 (some .int), Cond.methodLink RX2 31 yX2_times, Cond.instanceMethod yX2_times, Cond.selects RX2 yX2_times yX2_times, Cond.code yX2_times cX2_times 6 (some .int), Cond.fieldLink RX2 15 "NimberField$Nimbers" "bitProducts" "[I"]
def wsX6_orderByDivisors_r2 : List Cond := [Cond.methodLink RX2 35 yX2_square, Cond.instanceMethod yX2_square, Cond.selects RX2 yX2_square yX2_square, Cond.code yX2_square cX2_square 4 (some .int)]
def wsX6_orderByDivisors : List Cond := .code yX6_orderByDivisors cX6_orderByDivisors 2 (some .int) :: ((wsX6_orderByDivisors_r1 ++ wsX6_orderByDivisors_r2) ++ wsX60 ++ wsX20 ++ (vx_atS RX6 177 "java/lang/IllegalArgumentException" ["java/lang/RuntimeException", "java/lang/Exception"]).filter goodWord)
def wsX6_traceOf : List Cond := .code yX6_traceOf cX6_traceOf 2 (some .int) :: ([.constant RX6 58 (65535), .fieldLink RX6 12 "NimberField" "field" "LNimberField$Nimbers;", .methodLink RX6 59 yX6_requireRange, .static yX6_requireRange, .initialized RX6, .code yX6_requireRange cX6_requireRange 2 none, .classLink RX6 173 "java/lang/IllegalArgumentException", .initialized "java/lang/IllegalArgumentException", .methodLink RX6 159 yX2_trace, .instanceMethod yX2_trace, .selects RX2 yX2_trace yX2_trace, .initialized RX2, .code yX2_trace cX2_trace 5 (some .int), .methodLink RX2 35 yX2_square, .instanceMethod yX2_square, .selects RX2 yX2_square yX2_square, .code yX2_square cX2_square 4 (some .int), .fieldLink RX2 15 "NimberField$Nimbers" "bitProducts" "[I"] ++ wsX60 ++ wsX20 ++ (vx_atS RX6 177 "java/lang/IllegalArgumentException" ["java/lang/RuntimeException", "java/lang/Exception"]).filter goodWord)
def wsX6_solve : List Cond := .code yX6_solve cX6_solve 2 (some .int) :: ([.constant RX6 58 (65535), .fieldLink RX6 12 "NimberField" "field" "LNimberField$Nimbers;", .methodLink RX6 59 yX6_requireRange, .static yX6_requireRange, .initialized RX6, .code yX6_requireRange cX6_requireRange 2 none, .classLink RX6 173 "java/lang/IllegalArgumentException", .initialized "java/lang/IllegalArgumentException", .methodLink RX6 162 yX2_leastSolution, .instanceMethod yX2_leastSolution, .selects RX2 yX2_leastSolution yX2_leastSolution, .initialized RX2, .code yX2_leastSolution cX2_leastSolution 5 (some .int), .methodLink RX2 35 yX2_square, .instanceMethod yX2_square, .selects RX2 yX2_square yX2_square, .code yX2_square cX2_square 4 (some .int), .fieldLink RX2 15 "NimberField$Nimbers" "bitProducts" "[I"] ++ wsX60 ++ wsX20 ++ (vx_atS RX6 177 "java/lang/IllegalArgumentException" ["java/lang/RuntimeException", "java/lang/Exception"]).filter goodWord)
def wsX6_products : List Cond := .code yX6_products cX6_products 1 (some .int) :: ([.fieldLink RX6 33 "NimberField" "state" "LNimberField$State;", .methodLink RX6 165 yX4_productCount, .instanceMethod yX4_productCount, .selects RX4 yX4_productCount yX4_productCount, .initialized RX4, .code yX4_productCount cX4_productCount 1 (some .int), .fieldLink RX4 15 "NimberField$State" "productCount" "I"] ++ wsX60 ++ wsX40)
def wsX6_recordedStates : List Cond := .code yX6_recordedStates cX6_recordedStates 1 (some .int) :: ([.fieldLink RX6 46 "NimberField" "history" "LNimberField$History;", .methodLink RX6 128 yX0_size, .instanceMethod yX0_size, .selects RX0 yX0_size yX0_size, .initialized RX0, .code yX0_size cX0_size 1 (some .int), .fieldLink RX0 18 "NimberField$History" "size" "I"] ++ wsX60 ++ wsX00)
def wsJ9_min_7cf53 : List Cond := .code yJ9_min_7cf53 cJ9_min_7cf53 2 (some .int) :: ([])
def wsL_cell : List Cond := .code yL_cell cL_cell 2 (some .int) :: ([.constant RL 7 (2144730569)])
def wsL_up : List Cond := .code yL_up cL_up 2 (some .int) :: ([.constant RL 8 (2147483647)])
def wsL_set_r1 : List Cond := [Cond.classLink RL 15 "java/lang/IndexOutOfBoundsException", Cond.classLink RL 18 "java/lang/IllegalArgumentException", Cond.constant RL 17 (900001), Cond.constant RL 20 (900002), Cond.methodLink RL 9 yX6_set, Cond.instanceMethod yX6_set, Cond.selects RX6 yX6_set yX6_set, Cond.initialized RX6, Cond.code yX6_set cX6_set 4 (some .int), Cond.constant RX6 58 (65535), Cond.fieldLink RX6 33 "NimberField" "state" "LNimberField$State;", Cond.fieldLink RX6 46 "NimberField" "history" "LNimberField$History;", Cond.methodLink RX6 54 yX6_requireRegister, Cond.static yX6_requireRegister, Cond.code yX6_requireRegister cX6_requireRegister 1 none, Cond.classLink RX6 168 "java/lang/IndexOutOfBoundsException", Cond.initialized "java/lang/IndexOutOfBoundsException", Cond.methodLink RX6 59 yX6_requireRange, Cond.static yX6_requireRange, Cond.code yX6_requireRange cX6_requireRange 2 none, Cond.classLink RX6 173 "java/lang/IllegalArgumentException", Cond.initialized "java/lang/IllegalArgumentException", Cond.methodLink RX6 63 yX4_nimberIn, Cond.instanceMethod yX4_nimberIn]
def wsL_set_r2 : List Cond := [Cond.selects RX4 yX4_nimberIn yX4_nimberIn, Cond.initialized RX4, Cond.code yX4_nimberIn cX4_nimberIn 2 (some .int), Cond.fieldLink RX4 9 "NimberField$State" "nimbers" "[I", Cond.methodLink RX6 67 yX0_record, Cond.instanceMethod yX0_record, Cond.selects RX0 yX0_record yX0_record, Cond.initialized RX0, Cond.code yX0_record cX0_record 3 none, Cond.fieldLink RX0 11 "NimberField$History" "kept" "[LNimberField$State;", Cond.fieldLink RX0 18 "NimberField$History" "size" "I", Cond.methodLink RX0 26 Lib.Math.min.name, Cond.static Lib.Math.min.name, Cond.initialized "java/lang/Math", Cond.code Lib.Math.min.name Lib.Math.min.code 2 (some .int), Cond.methodLink RX0 22 yX4_copyFrom, Cond.instanceMethod yX4_copyFrom, Cond.selects RX4 yX4_copyFrom yX4_copyFrom, Cond.code yX4_copyFrom cX4_copyFrom 3 none, Cond.fieldLink RX4 15 "NimberField$State" "productCount" "I", Cond.methodLink RX4 19 yX4_nimberIn, Cond.methodLink RX4 23 yX4_productCount, Cond.instanceMethod yX4_productCount, Cond.selects RX4 yX4_productCount yX4_productCount]
def wsL_set_r3 : List Cond := [Cond.code yX4_productCount cX4_productCount 1 (some .int), Cond.methodLink RX6 71 yX4_put, Cond.instanceMethod yX4_put, Cond.selects RX4 yX4_put yX4_put, Cond.code yX4_put cX4_put 3 none]
def wsL_set : List Cond := .codeWith yL_set cL_set 4 (some .int) [(0, 6, 7, 15), (0, 6, 11, 18)] :: ((wsL_set_r1 ++ (wsL_set_r2 ++ wsL_set_r3)) ++ wsX60 ++ wsX40 ++ wsX00 ++ (vx_atS RX6 172 "java/lang/IndexOutOfBoundsException" ["java/lang/RuntimeException", "java/lang/Exception"]).filter goodWord ++ (vx_atS RX6 177 "java/lang/IllegalArgumentException" ["java/lang/RuntimeException", "java/lang/Exception"]).filter goodWord)
def wsL_invert_r1 : List Cond := [Cond.classLink RL 15 "java/lang/IndexOutOfBoundsException", Cond.classLink RL 25 "java/lang/IllegalStateException", Cond.constant RL 17 (900001), Cond.constant RL 20 (900002), Cond.methodLink RL 21 yX6_invert, Cond.instanceMethod yX6_invert, Cond.selects RX6 yX6_invert yX6_invert, Cond.initialized RX6, Cond.code yX6_invert cX6_invert 3 (some .int), Cond.classLink RX6 74 "java/lang/IllegalStateException", Cond.initialized "java/lang/IllegalStateException", Cond.fieldLink RX6 33 "NimberField" "state" "LNimberField$State;", Cond.fieldLink RX6 12 "NimberField" "field" "LNimberField$Nimbers;", Cond.methodLink RX6 54 yX6_requireRegister, Cond.static yX6_requireRegister, Cond.code yX6_requireRegister cX6_requireRegister 1 none, Cond.classLink RX6 168 "java/lang/IndexOutOfBoundsException", Cond.initialized "java/lang/IndexOutOfBoundsException", Cond.methodLink RX6 63 yX4_nimberIn, Cond.instanceMethod yX4_nimberIn, Cond.selects RX4 yX4_nimberIn yX4_nimberIn, Cond.initialized RX4, Cond.code yX4_nimberIn cX4_nimberIn 2 (some .int), Cond.fieldLink RX4 9 "NimberField$State" "nimbers" "[I"]
def wsL_invert_r2 : List Cond := [Cond.methodLink RX6 81 yX2_dividedBy, Cond.instanceMethod yX2_dividedBy, Cond.selects RX2 yX2_dividedBy yX2_dividedBy, Cond.initialized RX2, Cond.code yX2_dividedBy cX2_dividedBy 6 (some .int), Cond.methodLink RX2 35 yX2_square, Cond.instanceMethod yX2_square, Cond.selects RX2 yX2_square yX2_square, Cond.code yX2_square cX2_square 4 (some .int), Cond.fieldLink RX2 15 "NimberField$Nimbers" "bitProducts" "[I", Cond.methodLink RX2 31 yX2_times, Cond.instanceMethod yX2_times, Cond.selects RX2 yX2_times yX2_times, Cond.code yX2_times cX2_times 6 (some .int), Cond.methodLink RX6 85 yX6_replace, Cond.instanceMethod yX6_replace, Cond.selects RX6 yX6_replace yX6_replace, Cond.code yX6_replace cX6_replace 3 (some .int), Cond.fieldLink RX6 46 "NimberField" "history" "LNimberField$History;", Cond.methodLink RX6 67 yX0_record, Cond.instanceMethod yX0_record, Cond.selects RX0 yX0_record yX0_record, Cond.initialized RX0, Cond.code yX0_record cX0_record 3 none]
def wsL_invert_r3 : List Cond := [Cond.fieldLink RX0 11 "NimberField$History" "kept" "[LNimberField$State;", Cond.fieldLink RX0 18 "NimberField$History" "size" "I", Cond.methodLink RX0 26 Lib.Math.min.name, Cond.static Lib.Math.min.name, Cond.initialized "java/lang/Math", Cond.code Lib.Math.min.name Lib.Math.min.code 2 (some .int), Cond.methodLink RX0 22 yX4_copyFrom, Cond.instanceMethod yX4_copyFrom, Cond.selects RX4 yX4_copyFrom yX4_copyFrom, Cond.code yX4_copyFrom cX4_copyFrom 3 none, Cond.fieldLink RX4 15 "NimberField$State" "productCount" "I", Cond.methodLink RX4 19 yX4_nimberIn, Cond.methodLink RX4 23 yX4_productCount, Cond.instanceMethod yX4_productCount, Cond.selects RX4 yX4_productCount yX4_productCount, Cond.code yX4_productCount cX4_productCount 1 (some .int), Cond.methodLink RX6 71 yX4_put, Cond.instanceMethod yX4_put, Cond.selects RX4 yX4_put yX4_put, Cond.code yX4_put cX4_put 3 none]
def wsL_invert : List Cond := .codeWith yL_invert cL_invert 3 (some .int) [(0, 5, 6, 15), (0, 5, 10, 25)] :: ((wsL_invert_r1 ++ (wsL_invert_r2 ++ wsL_invert_r3)) ++ wsX60 ++ wsX40 ++ wsX20 ++ wsX00 ++ (vx_atS RX6 78 "java/lang/IllegalStateException" ["java/lang/RuntimeException", "java/lang/Exception"]).filter goodWord ++ (vx_atS RX6 172 "java/lang/IndexOutOfBoundsException" ["java/lang/RuntimeException", "java/lang/Exception"]).filter goodWord)
def wsL_takeRoot_r1 : List Cond := [Cond.classLink RL 15 "java/lang/IndexOutOfBoundsException", Cond.constant RL 17 (900001), Cond.methodLink RL 27 yX6_takeRoot, Cond.instanceMethod yX6_takeRoot, Cond.selects RX6 yX6_takeRoot yX6_takeRoot, Cond.initialized RX6, Cond.code yX6_takeRoot cX6_takeRoot 2 (some .int), Cond.fieldLink RX6 12 "NimberField" "field" "LNimberField$Nimbers;", Cond.fieldLink RX6 33 "NimberField" "state" "LNimberField$State;", Cond.methodLink RX6 54 yX6_requireRegister, Cond.static yX6_requireRegister, Cond.code yX6_requireRegister cX6_requireRegister 1 none, Cond.classLink RX6 168 "java/lang/IndexOutOfBoundsException", Cond.initialized "java/lang/IndexOutOfBoundsException", Cond.methodLink RX6 63 yX4_nimberIn, Cond.instanceMethod yX4_nimberIn, Cond.selects RX4 yX4_nimberIn yX4_nimberIn, Cond.initialized RX4, Cond.code yX4_nimberIn cX4_nimberIn 2 (some .int), Cond.fieldLink RX4 9 "NimberField$State" "nimbers" "[I", Cond.methodLink RX6 88 yX2_root, Cond.instanceMethod yX2_root, Cond.selects RX2 yX2_root yX2_root, Cond.initialized RX2]
def wsL_takeRoot_r2 : List Cond := [Cond.code yX2_root cX2_root 4 (some .int), Cond.methodLink RX2 35 yX2_square, Cond.instanceMethod yX2_square, Cond.selects RX2 yX2_square yX2_square, Cond.code yX2_square cX2_square 4 (some .int), Cond.fieldLink RX2 15 "NimberField$Nimbers" "bitProducts" "[I", Cond.methodLink RX6 85 yX6_replace, Cond.instanceMethod yX6_replace, Cond.selects RX6 yX6_replace yX6_replace, Cond.code yX6_replace cX6_replace 3 (some .int), Cond.fieldLink RX6 46 "NimberField" "history" "LNimberField$History;", Cond.methodLink RX6 67 yX0_record, Cond.instanceMethod yX0_record, Cond.selects RX0 yX0_record yX0_record, Cond.initialized RX0, Cond.code yX0_record cX0_record 3 none, Cond.fieldLink RX0 11 "NimberField$History" "kept" "[LNimberField$State;", Cond.fieldLink RX0 18 "NimberField$History" "size" "I", Cond.methodLink RX0 26 Lib.Math.min.name, Cond.static Lib.Math.min.name, Cond.initialized "java/lang/Math", Cond.code Lib.Math.min.name Lib.Math.min.code 2 (some .int), Cond.methodLink RX0 22 yX4_copyFrom, Cond.instanceMethod yX4_copyFrom]
def wsL_takeRoot_r3 : List Cond := [Cond.selects RX4 yX4_copyFrom yX4_copyFrom, Cond.code yX4_copyFrom cX4_copyFrom 3 none, Cond.fieldLink RX4 15 "NimberField$State" "productCount" "I", Cond.methodLink RX4 19 yX4_nimberIn, Cond.methodLink RX4 23 yX4_productCount, Cond.instanceMethod yX4_productCount, Cond.selects RX4 yX4_productCount yX4_productCount, Cond.code yX4_productCount cX4_productCount 1 (some .int), Cond.methodLink RX6 71 yX4_put, Cond.instanceMethod yX4_put, Cond.selects RX4 yX4_put yX4_put, Cond.code yX4_put cX4_put 3 none]
def wsL_takeRoot : List Cond := .codeWith yL_takeRoot cL_takeRoot 3 (some .int) [(0, 5, 6, 15)] :: ((wsL_takeRoot_r1 ++ (wsL_takeRoot_r2 ++ wsL_takeRoot_r3)) ++ wsX60 ++ wsX40 ++ wsX20 ++ wsX00 ++ (vx_atS RX6 172 "java/lang/IndexOutOfBoundsException" ["java/lang/RuntimeException", "java/lang/Exception"]).filter goodWord)
def wsL_multiply_r1 : List Cond := [Cond.classLink RL 15 "java/lang/IndexOutOfBoundsException", Cond.constant RL 17 (900001), Cond.methodLink RL 30 yX6_multiply, Cond.instanceMethod yX6_multiply, Cond.selects RX6 yX6_multiply yX6_multiply, Cond.initialized RX6, Cond.code yX6_multiply cX6_multiply 4 (some .int), Cond.fieldLink RX6 12 "NimberField" "field" "LNimberField$Nimbers;", Cond.fieldLink RX6 33 "NimberField" "state" "LNimberField$State;", Cond.methodLink RX6 54 yX6_requireRegister, Cond.static yX6_requireRegister, Cond.code yX6_requireRegister cX6_requireRegister 1 none, Cond.classLink RX6 168 "java/lang/IndexOutOfBoundsException", Cond.initialized "java/lang/IndexOutOfBoundsException", Cond.methodLink RX6 63 yX4_nimberIn, Cond.instanceMethod yX4_nimberIn, Cond.selects RX4 yX4_nimberIn yX4_nimberIn, Cond.initialized RX4, Cond.code yX4_nimberIn cX4_nimberIn 2 (some .int), Cond.fieldLink RX4 9 "NimberField$State" "nimbers" "[I", Cond.methodLink RX6 91 yX2_times, Cond.instanceMethod yX2_times, Cond.selects RX2 yX2_times yX2_times, Cond.initialized RX2]
def wsL_multiply_r2 : List Cond := [Cond.code yX2_times cX2_times 6 (some .int), Cond.fieldLink RX2 15 "NimberField$Nimbers" "bitProducts" "[I", Cond.methodLink RX6 85 yX6_replace, Cond.instanceMethod yX6_replace, Cond.selects RX6 yX6_replace yX6_replace, Cond.code yX6_replace cX6_replace 3 (some .int), Cond.fieldLink RX6 46 "NimberField" "history" "LNimberField$History;", Cond.methodLink RX6 67 yX0_record, Cond.instanceMethod yX0_record, Cond.selects RX0 yX0_record yX0_record, Cond.initialized RX0, Cond.code yX0_record cX0_record 3 none, Cond.fieldLink RX0 11 "NimberField$History" "kept" "[LNimberField$State;", Cond.fieldLink RX0 18 "NimberField$History" "size" "I", Cond.methodLink RX0 26 Lib.Math.min.name, Cond.static Lib.Math.min.name, Cond.initialized "java/lang/Math", Cond.code Lib.Math.min.name Lib.Math.min.code 2 (some .int), Cond.methodLink RX0 22 yX4_copyFrom, Cond.instanceMethod yX4_copyFrom, Cond.selects RX4 yX4_copyFrom yX4_copyFrom, Cond.code yX4_copyFrom cX4_copyFrom 3 none, Cond.fieldLink RX4 15 "NimberField$State" "productCount" "I", Cond.methodLink RX4 19 yX4_nimberIn]
def wsL_multiply_r3 : List Cond := [Cond.methodLink RX4 23 yX4_productCount, Cond.instanceMethod yX4_productCount, Cond.selects RX4 yX4_productCount yX4_productCount, Cond.code yX4_productCount cX4_productCount 1 (some .int), Cond.methodLink RX6 71 yX4_put, Cond.instanceMethod yX4_put, Cond.selects RX4 yX4_put yX4_put, Cond.code yX4_put cX4_put 3 none, Cond.methodLink RX6 94 yX4_countProduct, Cond.instanceMethod yX4_countProduct, Cond.selects RX4 yX4_countProduct yX4_countProduct, Cond.code yX4_countProduct cX4_countProduct 1 none]
def wsL_multiply : List Cond := .codeWith yL_multiply cL_multiply 4 (some .int) [(0, 6, 7, 15)] :: ((wsL_multiply_r1 ++ (wsL_multiply_r2 ++ wsL_multiply_r3)) ++ wsX60 ++ wsX40 ++ wsX20 ++ wsX00 ++ (vx_atS RX6 172 "java/lang/IndexOutOfBoundsException" ["java/lang/RuntimeException", "java/lang/Exception"]).filter goodWord)
def wsL_exchange_r1 : List Cond := [Cond.classLink RL 15 "java/lang/IndexOutOfBoundsException", Cond.constant RL 17 (900001), Cond.methodLink RL 33 yX6_exchange, Cond.instanceMethod yX6_exchange, Cond.selects RX6 yX6_exchange yX6_exchange, Cond.initialized RX6, Cond.code yX6_exchange cX6_exchange 5 (some .int), Cond.fieldLink RX6 33 "NimberField" "state" "LNimberField$State;", Cond.fieldLink RX6 46 "NimberField" "history" "LNimberField$History;", Cond.methodLink RX6 54 yX6_requireRegister, Cond.static yX6_requireRegister, Cond.code yX6_requireRegister cX6_requireRegister 1 none, Cond.classLink RX6 168 "java/lang/IndexOutOfBoundsException", Cond.initialized "java/lang/IndexOutOfBoundsException", Cond.methodLink RX6 63 yX4_nimberIn, Cond.instanceMethod yX4_nimberIn, Cond.selects RX4 yX4_nimberIn yX4_nimberIn, Cond.initialized RX4, Cond.code yX4_nimberIn cX4_nimberIn 2 (some .int), Cond.fieldLink RX4 9 "NimberField$State" "nimbers" "[I", Cond.methodLink RX6 67 yX0_record, Cond.instanceMethod yX0_record, Cond.selects RX0 yX0_record yX0_record, Cond.initialized RX0]
def wsL_exchange_r2 : List Cond := [Cond.code yX0_record cX0_record 3 none, Cond.fieldLink RX0 11 "NimberField$History" "kept" "[LNimberField$State;", Cond.fieldLink RX0 18 "NimberField$History" "size" "I", Cond.methodLink RX0 26 Lib.Math.min.name, Cond.static Lib.Math.min.name, Cond.initialized "java/lang/Math", Cond.code Lib.Math.min.name Lib.Math.min.code 2 (some .int), Cond.methodLink RX0 22 yX4_copyFrom, Cond.instanceMethod yX4_copyFrom, Cond.selects RX4 yX4_copyFrom yX4_copyFrom, Cond.code yX4_copyFrom cX4_copyFrom 3 none, Cond.fieldLink RX4 15 "NimberField$State" "productCount" "I", Cond.methodLink RX4 19 yX4_nimberIn, Cond.methodLink RX4 23 yX4_productCount, Cond.instanceMethod yX4_productCount, Cond.selects RX4 yX4_productCount yX4_productCount, Cond.code yX4_productCount cX4_productCount 1 (some .int), Cond.methodLink RX6 71 yX4_put, Cond.instanceMethod yX4_put, Cond.selects RX4 yX4_put yX4_put, Cond.code yX4_put cX4_put 3 none]
def wsL_exchange : List Cond := .codeWith yL_exchange cL_exchange 4 (some .int) [(0, 6, 7, 15)] :: ((wsL_exchange_r1 ++ wsL_exchange_r2) ++ wsX60 ++ wsX40 ++ wsX00 ++ (vx_atS RX6 172 "java/lang/IndexOutOfBoundsException" ["java/lang/RuntimeException", "java/lang/Exception"]).filter goodWord)
def wsL_type : List Cond := .codeWith yL_type cL_type 3 (some .int) [(0, 6, 7, 25)] :: ([.classLink RL 25 "java/lang/IllegalStateException", .constant RL 17 (900001), .methodLink RL 36 yX6_type, .instanceMethod yX6_type, .selects RX6 yX6_type yX6_type, .initialized RX6, .code yX6_type cX6_type 2 (some .int), .classLink RX6 74 "java/lang/IllegalStateException", .initialized "java/lang/IllegalStateException", .fieldLink RX6 26 "NimberField" "program" "LNimberField$Program;", .methodLink RX6 97 yX3_isFull, .instanceMethod yX3_isFull, .selects RX3 yX3_isFull yX3_isFull, .initialized RX3, .code yX3_isFull cX3_isFull 1 (some .boolean), .fieldLink RX3 22 "NimberField$Program" "length" "I", .methodLink RX6 103 yX3_append, .instanceMethod yX3_append, .selects RX3 yX3_append yX3_append, .code yX3_append cX3_append 2 (some .int), .fieldLink RX3 9 "NimberField$Program" "text" "[C"] ++ wsX60 ++ wsX30 ++ (vx_atS RX6 78 "java/lang/IllegalStateException" ["java/lang/RuntimeException", "java/lang/Exception"]).filter goodWord)
def wsL_carryOut_r1 : List Cond := [Cond.classLink RL 25 "java/lang/IllegalStateException", Cond.constant RL 17 (900001), Cond.methodLink RL 44 yX6_carryOut, Cond.instanceMethod yX6_carryOut, Cond.selects RX6 yX6_carryOut yX6_carryOut, Cond.initialized RX6, Cond.code yX6_carryOut cX6_carryOut 1 (some .int), Cond.classLink RX6 74 "java/lang/IllegalStateException", Cond.initialized "java/lang/IllegalStateException", Cond.fieldLink RX6 46 "NimberField" "history" "LNimberField$History;", Cond.fieldLink RX6 33 "NimberField" "state" "LNimberField$State;", Cond.fieldLink RX6 37 "NimberField" "trial" "LNimberField$State;", Cond.fieldLink RX6 26 "NimberField" "program" "LNimberField$Program;", Cond.methodLink RX6 114 yX6_requireValidProgram, Cond.instanceMethod yX6_requireValidProgram, Cond.selects RX6 yX6_requireValidProgram yX6_requireValidProgram, Cond.code yX6_requireValidProgram cX6_requireValidProgram 1 none, Cond.methodLink RX6 111 yX3_read, Cond.instanceMethod yX3_read, Cond.selects RX3 yX3_read yX3_read, Cond.initialized RX3, Cond.code yX3_read cX3_read 1 (some .int), Cond.fieldLink RX3 26 "NimberField$Program" "cursor" "I", Cond.fieldLink RX3 29 "NimberField$Program" "stepCount" "I"]
def wsL_carryOut_r2 : List Cond := [Cond.fieldLink RX3 17 "NimberField$Program" "steps" "[LNimberField$Step;", Cond.fieldLink RX3 22 "NimberField$Program" "length" "I", Cond.methodLink RX3 32 yX3_readTarget, Cond.instanceMethod yX3_readTarget, Cond.selects RX3 yX3_readTarget yX3_readTarget, Cond.code yX3_readTarget cX3_readTarget 3 (some .boolean), Cond.methodLink RX3 51 yX3_readRegister, Cond.instanceMethod yX3_readRegister, Cond.selects RX3 yX3_readRegister yX3_readRegister, Cond.code yX3_readRegister cX3_readRegister 2 (some .int), Cond.methodLink RX3 58 yX3_current, Cond.instanceMethod yX3_current, Cond.selects RX3 yX3_current yX3_current, Cond.code yX3_current cX3_current 1 (some .char), Cond.fieldLink RX3 9 "NimberField$Program" "text" "[C", Cond.methodLink RX3 54 yX5_setTarget, Cond.instanceMethod yX5_setTarget, Cond.selects RX5 yX5_setTarget yX5_setTarget, Cond.initialized RX5, Cond.code yX5_setTarget cX5_setTarget 2 none, Cond.fieldLink RX5 9 "NimberField$Step" "target" "I", Cond.methodLink RX3 39 yX3_skip, Cond.instanceMethod yX3_skip, Cond.selects RX3 yX3_skip yX3_skip]
def wsL_carryOut_r3 : List Cond := [Cond.code yX3_skip cX3_skip 2 (some .boolean), Cond.methodLink RX3 36 yX3_readRightSide, Cond.instanceMethod yX3_readRightSide, Cond.selects RX3 yX3_readRightSide yX3_readRightSide, Cond.code yX3_readRightSide cX3_readRightSide 5 (some .boolean), Cond.methodLink RX3 62 yX3_readOperand, Cond.instanceMethod yX3_readOperand, Cond.selects RX3 yX3_readOperand yX3_readOperand, Cond.code yX3_readOperand cX3_readOperand 2 (some .int), Cond.constant RX3 72 (65536), Cond.methodLink RX3 69 yX3_readNumber, Cond.instanceMethod yX3_readNumber, Cond.selects RX3 yX3_readNumber yX3_readNumber, Cond.code yX3_readNumber cX3_readNumber 3 (some .int), Cond.constant RX3 77 (65535), Cond.methodLink RX3 73 yX3_digitOf, Cond.static yX3_digitOf, Cond.code yX3_digitOf cX3_digitOf 1 (some .int), Cond.methodLink RX3 65 yX5_setRightSide, Cond.instanceMethod yX5_setRightSide, Cond.selects RX5 yX5_setRightSide yX5_setRightSide, Cond.code yX5_setRightSide cX5_setRightSide 4 none, Cond.fieldLink RX5 15 "NimberField$Step" "sign" "C", Cond.fieldLink RX5 19 "NimberField$Step" "first" "I"]
def wsL_carryOut_r4 : List Cond := [Cond.fieldLink RX5 22 "NimberField$Step" "second" "I", Cond.methodLink RX6 117 yX6_tryProgram, Cond.instanceMethod yX6_tryProgram, Cond.selects RX6 yX6_tryProgram yX6_tryProgram, Cond.code yX6_tryProgram cX6_tryProgram 1 (some .int), Cond.fieldLink RX6 12 "NimberField" "field" "LNimberField$Nimbers;", Cond.methodLink RX6 122 yX4_copyFrom, Cond.instanceMethod yX4_copyFrom, Cond.selects RX4 yX4_copyFrom yX4_copyFrom, Cond.initialized RX4, Cond.code yX4_copyFrom cX4_copyFrom 3 none, Cond.fieldLink RX4 9 "NimberField$State" "nimbers" "[I", Cond.fieldLink RX4 15 "NimberField$State" "productCount" "I", Cond.methodLink RX4 19 yX4_nimberIn, Cond.instanceMethod yX4_nimberIn, Cond.selects RX4 yX4_nimberIn yX4_nimberIn, Cond.code yX4_nimberIn cX4_nimberIn 2 (some .int), Cond.methodLink RX4 23 yX4_productCount, Cond.instanceMethod yX4_productCount, Cond.selects RX4 yX4_productCount yX4_productCount, Cond.code yX4_productCount cX4_productCount 1 (some .int), Cond.methodLink RX6 180 yX3_runOn, Cond.instanceMethod yX3_runOn, Cond.selects RX3 yX3_runOn yX3_runOn]
def wsL_carryOut_r5 : List Cond := [Cond.code yX3_runOn cX3_runOn 4 (some .int), Cond.methodLink RX3 43 yX5_doOn, Cond.instanceMethod yX5_doOn, Cond.selects RX5 yX5_doOn yX5_doOn, Cond.code yX5_doOn cX5_doOn 4 (some .boolean), Cond.methodLink RX5 25 yX5_valueOf, Cond.static yX5_valueOf, Cond.code yX5_valueOf cX5_valueOf 2 (some .int), Cond.constant RX5 42 (65536), Cond.methodLink RX5 43 yX4_nimberIn, Cond.methodLink RX5 29 yX5_resultOf, Cond.instanceMethod yX5_resultOf, Cond.selects RX5 yX5_resultOf yX5_resultOf, Cond.code yX5_resultOf cX5_resultOf 4 (some .int), Cond.methodLink RX5 47 yX2_dividedBy, Cond.instanceMethod yX2_dividedBy, Cond.selects RX2 yX2_dividedBy yX2_dividedBy, Cond.initialized RX2, Cond.code yX2_dividedBy cX2_dividedBy 6 (some .int), Cond.methodLink RX2 35 yX2_square, Cond.instanceMethod yX2_square, Cond.selects RX2 yX2_square yX2_square, Cond.code yX2_square cX2_square 4 (some .int), Cond.fieldLink RX2 15 "NimberField$Nimbers" "bitProducts" "[I"]
def wsL_carryOut_r6 : List Cond := [Cond.methodLink RX2 31 yX2_times, Cond.instanceMethod yX2_times, Cond.selects RX2 yX2_times yX2_times, Cond.code yX2_times cX2_times 6 (some .int), Cond.methodLink RX5 53 yX2_root, Cond.instanceMethod yX2_root, Cond.selects RX2 yX2_root yX2_root, Cond.code yX2_root cX2_root 4 (some .int), Cond.methodLink RX5 56 yX2_times, Cond.methodLink RX5 59 yX2_raised, Cond.instanceMethod yX2_raised, Cond.selects RX2 yX2_raised yX2_raised, Cond.code yX2_raised cX2_raised 6 (some .int), Cond.methodLink RX5 33 yX4_put, Cond.instanceMethod yX4_put, Cond.selects RX4 yX4_put yX4_put, Cond.code yX4_put cX4_put 3 none, Cond.methodLink RX5 39 yX4_countProduct, Cond.instanceMethod yX4_countProduct, Cond.selects RX4 yX4_countProduct yX4_countProduct, Cond.code yX4_countProduct cX4_countProduct 1 none, Cond.methodLink RX6 67 yX0_record, Cond.instanceMethod yX0_record, Cond.selects RX0 yX0_record yX0_record]
def wsL_carryOut_r7 : List Cond := [Cond.initialized RX0, Cond.code yX0_record cX0_record 3 none, Cond.fieldLink RX0 11 "NimberField$History" "kept" "[LNimberField$State;", Cond.fieldLink RX0 18 "NimberField$History" "size" "I", Cond.methodLink RX0 26 Lib.Math.min.name, Cond.static Lib.Math.min.name, Cond.initialized "java/lang/Math", Cond.code Lib.Math.min.name Lib.Math.min.code 2 (some .int), Cond.methodLink RX0 22 yX4_copyFrom, Cond.methodLink RX6 125 yX3_lastTarget, Cond.instanceMethod yX3_lastTarget, Cond.selects RX3 yX3_lastTarget yX3_lastTarget, Cond.code yX3_lastTarget cX3_lastTarget 1 (some .int), Cond.methodLink RX3 47 yX5_target, Cond.instanceMethod yX5_target, Cond.selects RX5 yX5_target yX5_target, Cond.code yX5_target cX5_target 1 (some .int), Cond.methodLink RX6 63 yX4_nimberIn]
def wsL_carryOut : List Cond := .codeWith yL_carryOut cL_carryOut 2 (some .int) [(0, 4, 5, 25)] :: ((wsL_carryOut_r1 ++ (wsL_carryOut_r2 ++ (wsL_carryOut_r3 ++ (wsL_carryOut_r4 ++ (wsL_carryOut_r5 ++ (wsL_carryOut_r6 ++ wsL_carryOut_r7)))))) ++ wsX60 ++ wsX30 ++ wsX50 ++ wsX40 ++ wsX20 ++ wsX00 ++ (vx_atS RX6 78 "java/lang/IllegalStateException" ["java/lang/RuntimeException", "java/lang/Exception"]).filter goodWord)
def wsL_undo_r1 : List Cond := [Cond.classLink RL 25 "java/lang/IllegalStateException", Cond.constant RL 17 (900001), Cond.methodLink RL 47 yX6_undo, Cond.instanceMethod yX6_undo, Cond.selects RX6 yX6_undo yX6_undo, Cond.initialized RX6, Cond.code yX6_undo cX6_undo 1 (some .int), Cond.classLink RX6 74 "java/lang/IllegalStateException", Cond.initialized "java/lang/IllegalStateException", Cond.fieldLink RX6 46 "NimberField" "history" "LNimberField$History;", Cond.fieldLink RX6 33 "NimberField" "state" "LNimberField$State;", Cond.methodLink RX6 128 yX0_size, Cond.instanceMethod yX0_size, Cond.selects RX0 yX0_size yX0_size, Cond.initialized RX0, Cond.code yX0_size cX0_size 1 (some .int), Cond.fieldLink RX0 18 "NimberField$History" "size" "I", Cond.methodLink RX6 133 yX0_returnTo, Cond.instanceMethod yX0_returnTo, Cond.selects RX0 yX0_returnTo yX0_returnTo, Cond.code yX0_returnTo cX0_returnTo 3 (some .int), Cond.fieldLink RX0 11 "NimberField$History" "kept" "[LNimberField$State;", Cond.methodLink RX0 22 yX4_copyFrom, Cond.instanceMethod yX4_copyFrom]
def wsL_undo_r2 : List Cond := [Cond.selects RX4 yX4_copyFrom yX4_copyFrom, Cond.initialized RX4, Cond.code yX4_copyFrom cX4_copyFrom 3 none, Cond.fieldLink RX4 9 "NimberField$State" "nimbers" "[I", Cond.fieldLink RX4 15 "NimberField$State" "productCount" "I", Cond.methodLink RX4 19 yX4_nimberIn, Cond.instanceMethod yX4_nimberIn, Cond.selects RX4 yX4_nimberIn yX4_nimberIn, Cond.code yX4_nimberIn cX4_nimberIn 2 (some .int), Cond.methodLink RX4 23 yX4_productCount, Cond.instanceMethod yX4_productCount, Cond.selects RX4 yX4_productCount yX4_productCount, Cond.code yX4_productCount cX4_productCount 1 (some .int)]
def wsL_undo : List Cond := .codeWith yL_undo cL_undo 2 (some .int) [(0, 4, 5, 25)] :: ((wsL_undo_r1 ++ wsL_undo_r2) ++ wsX60 ++ wsX00 ++ wsX40 ++ (vx_atS RX6 78 "java/lang/IllegalStateException" ["java/lang/RuntimeException", "java/lang/Exception"]).filter goodWord)
def wsL_restore_r1 : List Cond := [Cond.classLink RL 25 "java/lang/IllegalStateException", Cond.constant RL 17 (900001), Cond.methodLink RL 50 yX6_restoreSnapshot, Cond.instanceMethod yX6_restoreSnapshot, Cond.selects RX6 yX6_restoreSnapshot yX6_restoreSnapshot, Cond.initialized RX6, Cond.code yX6_restoreSnapshot cX6_restoreSnapshot 1 (some .int), Cond.classLink RX6 74 "java/lang/IllegalStateException", Cond.initialized "java/lang/IllegalStateException", Cond.fieldLink RX6 50 "NimberField" "snapshotTaken" "Z", Cond.fieldLink RX6 46 "NimberField" "history" "LNimberField$History;", Cond.fieldLink RX6 33 "NimberField" "state" "LNimberField$State;", Cond.fieldLink RX6 40 "NimberField" "snapshot" "LNimberField$State;", Cond.methodLink RX6 67 yX0_record, Cond.instanceMethod yX0_record, Cond.selects RX0 yX0_record yX0_record, Cond.initialized RX0, Cond.code yX0_record cX0_record 3 none, Cond.fieldLink RX0 11 "NimberField$History" "kept" "[LNimberField$State;", Cond.fieldLink RX0 18 "NimberField$History" "size" "I", Cond.methodLink RX0 26 Lib.Math.min.name, Cond.static Lib.Math.min.name, Cond.initialized "java/lang/Math", Cond.code Lib.Math.min.name Lib.Math.min.code 2 (some .int)]
def wsL_restore_r2 : List Cond := [Cond.methodLink RX0 22 yX4_copyFrom, Cond.instanceMethod yX4_copyFrom, Cond.selects RX4 yX4_copyFrom yX4_copyFrom, Cond.initialized RX4, Cond.code yX4_copyFrom cX4_copyFrom 3 none, Cond.fieldLink RX4 9 "NimberField$State" "nimbers" "[I", Cond.fieldLink RX4 15 "NimberField$State" "productCount" "I", Cond.methodLink RX4 19 yX4_nimberIn, Cond.instanceMethod yX4_nimberIn, Cond.selects RX4 yX4_nimberIn yX4_nimberIn, Cond.code yX4_nimberIn cX4_nimberIn 2 (some .int), Cond.methodLink RX4 23 yX4_productCount, Cond.instanceMethod yX4_productCount, Cond.selects RX4 yX4_productCount yX4_productCount, Cond.code yX4_productCount cX4_productCount 1 (some .int), Cond.methodLink RX6 122 yX4_copyFrom, Cond.methodLink RX6 137 yX4_sum, Cond.instanceMethod yX4_sum, Cond.selects RX4 yX4_sum yX4_sum, Cond.code yX4_sum cX4_sum 3 (some .int)]
def wsL_restore : List Cond := .codeWith yL_restore cL_restore 2 (some .int) [(0, 4, 5, 25)] :: ((wsL_restore_r1 ++ wsL_restore_r2) ++ wsX60 ++ wsX00 ++ wsX40 ++ (vx_atS RX6 78 "java/lang/IllegalStateException" ["java/lang/RuntimeException", "java/lang/Exception"]).filter goodWord)
def wsL_nimber : List Cond := .codeWith yL_nimber cL_nimber 3 (some .int) [(0, 5, 6, 15)] :: ([.classLink RL 15 "java/lang/IndexOutOfBoundsException", .constant RL 17 (900001), .methodLink RL 53 yX6_nimberOf, .instanceMethod yX6_nimberOf, .selects RX6 yX6_nimberOf yX6_nimberOf, .initialized RX6, .code yX6_nimberOf cX6_nimberOf 2 (some .int), .fieldLink RX6 33 "NimberField" "state" "LNimberField$State;", .methodLink RX6 54 yX6_requireRegister, .static yX6_requireRegister, .code yX6_requireRegister cX6_requireRegister 1 none, .classLink RX6 168 "java/lang/IndexOutOfBoundsException", .initialized "java/lang/IndexOutOfBoundsException", .methodLink RX6 63 yX4_nimberIn, .instanceMethod yX4_nimberIn, .selects RX4 yX4_nimberIn yX4_nimberIn, .initialized RX4, .code yX4_nimberIn cX4_nimberIn 2 (some .int), .fieldLink RX4 9 "NimberField$State" "nimbers" "[I"] ++ wsX60 ++ wsX40 ++ (vx_atS RX6 172 "java/lang/IndexOutOfBoundsException" ["java/lang/RuntimeException", "java/lang/Exception"]).filter goodWord)
def wsL_halves : List Cond := .codeWith yL_halves cL_halves 4 (some .int) [(0, 6, 7, 18)] :: ([.classLink RL 18 "java/lang/IllegalArgumentException", .constant RL 17 (900001), .methodLink RL 56 yX6_productByHalves, .instanceMethod yX6_productByHalves, .selects RX6 yX6_productByHalves yX6_productByHalves, .initialized RX6, .code yX6_productByHalves cX6_productByHalves 3 (some .int), .constant RX6 58 (65535), .methodLink RX6 59 yX6_requireRange, .static yX6_requireRange, .code yX6_requireRange cX6_requireRange 2 none, .classLink RX6 173 "java/lang/IllegalArgumentException", .initialized "java/lang/IllegalArgumentException", .static yX2_timesByHalves, .initialized RX2, .code yX2_timesByHalves cX2_timesByHalves 12 (some .int), .methodLink RX2 27 yX2_timesByHalves] ++ (vx_atS RX6 177 "java/lang/IllegalArgumentException" ["java/lang/RuntimeException", "java/lang/Exception"]).filter goodWord)
def wsL_bits : List Cond := .codeWith yL_bits cL_bits 4 (some .int) [(0, 6, 7, 18)] :: ([.classLink RL 18 "java/lang/IllegalArgumentException", .constant RL 17 (900001), .methodLink RL 59 yX6_productByBits, .instanceMethod yX6_productByBits, .selects RX6 yX6_productByBits yX6_productByBits, .initialized RX6, .code yX6_productByBits cX6_productByBits 3 (some .int), .constant RX6 58 (65535), .fieldLink RX6 12 "NimberField" "field" "LNimberField$Nimbers;", .methodLink RX6 59 yX6_requireRange, .static yX6_requireRange, .code yX6_requireRange cX6_requireRange 2 none, .classLink RX6 173 "java/lang/IllegalArgumentException", .initialized "java/lang/IllegalArgumentException", .methodLink RX6 91 yX2_times, .instanceMethod yX2_times, .selects RX2 yX2_times yX2_times, .initialized RX2, .code yX2_times cX2_times 6 (some .int), .fieldLink RX2 15 "NimberField$Nimbers" "bitProducts" "[I"] ++ wsX60 ++ wsX20 ++ (vx_atS RX6 177 "java/lang/IllegalArgumentException" ["java/lang/RuntimeException", "java/lang/Exception"]).filter goodWord)
def wsL_quotient_r1 : List Cond := [Cond.classLink RL 18 "java/lang/IllegalArgumentException", Cond.constant RL 17 (900001), Cond.methodLink RL 65 yX6_quotient, Cond.instanceMethod yX6_quotient, Cond.selects RX6 yX6_quotient yX6_quotient, Cond.initialized RX6, Cond.code yX6_quotient cX6_quotient 3 (some .int), Cond.constant RX6 58 (65535), Cond.fieldLink RX6 12 "NimberField" "field" "LNimberField$Nimbers;", Cond.methodLink RX6 59 yX6_requireRange, Cond.static yX6_requireRange, Cond.code yX6_requireRange cX6_requireRange 2 none, Cond.classLink RX6 173 "java/lang/IllegalArgumentException", Cond.initialized "java/lang/IllegalArgumentException", Cond.methodLink RX6 81 yX2_dividedBy, Cond.instanceMethod yX2_dividedBy, Cond.selects RX2 yX2_dividedBy yX2_dividedBy, Cond.initialized RX2, Cond.code yX2_dividedBy cX2_dividedBy 6 (some .int), Cond.methodLink RX2 35 yX2_square, Cond.instanceMethod yX2_square, Cond.selects RX2 yX2_square yX2_square, Cond.code yX2_square cX2_square 4 (some .int), Cond.fieldLink RX2 15 "NimberField$Nimbers" "bitProducts" "[I"]
def wsL_quotient_r2 : List Cond := [Cond.methodLink RX2 31 yX2_times, Cond.instanceMethod yX2_times, Cond.selects RX2 yX2_times yX2_times, Cond.code yX2_times cX2_times 6 (some .int)]
def wsL_quotient : List Cond := .codeWith yL_quotient cL_quotient 4 (some .int) [(0, 6, 7, 18)] :: ((wsL_quotient_r1 ++ wsL_quotient_r2) ++ wsX60 ++ wsX20 ++ (vx_atS RX6 177 "java/lang/IllegalArgumentException" ["java/lang/RuntimeException", "java/lang/Exception"]).filter goodWord)
def wsL_power_r1 : List Cond := [Cond.classLink RL 18 "java/lang/IllegalArgumentException", Cond.constant RL 17 (900001), Cond.methodLink RL 68 yX6_power, Cond.instanceMethod yX6_power, Cond.selects RX6 yX6_power yX6_power, Cond.initialized RX6, Cond.code yX6_power cX6_power 3 (some .int), Cond.constant RX6 58 (65535), Cond.constant RX6 149 (1000000000), Cond.fieldLink RX6 12 "NimberField" "field" "LNimberField$Nimbers;", Cond.methodLink RX6 59 yX6_requireRange, Cond.static yX6_requireRange, Cond.code yX6_requireRange cX6_requireRange 2 none, Cond.classLink RX6 173 "java/lang/IllegalArgumentException", Cond.initialized "java/lang/IllegalArgumentException", Cond.methodLink RX6 150 yX2_raised, Cond.instanceMethod yX2_raised, Cond.selects RX2 yX2_raised yX2_raised, Cond.initialized RX2, Cond.code yX2_raised cX2_raised 6 (some .int), Cond.methodLink RX2 31 yX2_times, Cond.instanceMethod yX2_times, Cond.selects RX2 yX2_times yX2_times, Cond.code yX2_times cX2_times 6 (some .int)]
def wsL_power_r2 : List Cond := [Cond.fieldLink RX2 15 "NimberField$Nimbers" "bitProducts" "[I", Cond.methodLink RX2 35 yX2_square, Cond.instanceMethod yX2_square, Cond.selects RX2 yX2_square yX2_square, Cond.code yX2_square cX2_square 4 (some .int)]
def wsL_power : List Cond := .codeWith yL_power cL_power 4 (some .int) [(0, 6, 7, 18)] :: ((wsL_power_r1 ++ wsL_power_r2) ++ wsX60 ++ wsX20 ++ (vx_atS RX6 177 "java/lang/IllegalArgumentException" ["java/lang/RuntimeException", "java/lang/Exception"]).filter goodWord)
def wsL_root : List Cond := .codeWith yL_root cL_root 3 (some .int) [(0, 5, 6, 18)] :: ([.classLink RL 18 "java/lang/IllegalArgumentException", .constant RL 17 (900001), .methodLink RL 71 yX6_rootOf, .instanceMethod yX6_rootOf, .selects RX6 yX6_rootOf yX6_rootOf, .initialized RX6, .code yX6_rootOf cX6_rootOf 2 (some .int), .constant RX6 58 (65535), .fieldLink RX6 12 "NimberField" "field" "LNimberField$Nimbers;", .methodLink RX6 59 yX6_requireRange, .static yX6_requireRange, .code yX6_requireRange cX6_requireRange 2 none, .classLink RX6 173 "java/lang/IllegalArgumentException", .initialized "java/lang/IllegalArgumentException", .methodLink RX6 88 yX2_root, .instanceMethod yX2_root, .selects RX2 yX2_root yX2_root, .initialized RX2, .code yX2_root cX2_root 4 (some .int), .methodLink RX2 35 yX2_square, .instanceMethod yX2_square, .selects RX2 yX2_square yX2_square, .code yX2_square cX2_square 4 (some .int), .fieldLink RX2 15 "NimberField$Nimbers" "bitProducts" "[I"] ++ wsX60 ++ wsX20 ++ (vx_atS RX6 177 "java/lang/IllegalArgumentException" ["java/lang/RuntimeException", "java/lang/Exception"]).filter goodWord)
def wsL_field : List Cond := .codeWith yL_field cL_field 3 (some .int) [(0, 5, 6, 18)] :: ([.classLink RL 18 "java/lang/IllegalArgumentException", .constant RL 17 (900001), .methodLink RL 74 yX6_fieldOf, .instanceMethod yX6_fieldOf, .selects RX6 yX6_fieldOf yX6_fieldOf, .initialized RX6, .code yX6_fieldOf cX6_fieldOf 3 (some .int), .constant RX6 58 (65535), .methodLink RX6 59 yX6_requireRange, .static yX6_requireRange, .code yX6_requireRange cX6_requireRange 2 none, .classLink RX6 173 "java/lang/IllegalArgumentException", .initialized "java/lang/IllegalArgumentException"] ++ (vx_atS RX6 177 "java/lang/IllegalArgumentException" ["java/lang/RuntimeException", "java/lang/Exception"]).filter goodWord)
def wsL_order_r1 : List Cond := [Cond.classLink RL 18 "java/lang/IllegalArgumentException", Cond.constant RL 17 (900001), Cond.methodLink RL 80 yX6_orderByDivisors, Cond.instanceMethod yX6_orderByDivisors, Cond.selects RX6 yX6_orderByDivisors yX6_orderByDivisors, Cond.initialized RX6, Cond.code yX6_orderByDivisors cX6_orderByDivisors 2 (some .int), Cond.constant RX6 58 (65535), Cond.fieldLink RX6 12 "NimberField" "field" "LNimberField$Nimbers;", Cond.methodLink RX6 59 yX6_requireRange, Cond.static yX6_requireRange, Cond.code yX6_requireRange cX6_requireRange 2 none, Cond.classLink RX6 173 "java/lang/IllegalArgumentException", Cond.initialized "java/lang/IllegalArgumentException", Cond.methodLink RX6 156 yX2_orderByQuotients, Cond.instanceMethod yX2_orderByQuotients, Cond.selects RX2 yX2_orderByQuotients yX2_orderByQuotients, Cond.initialized RX2, Cond.code yX2_orderByQuotients cX2_orderByQuotients 7 (some .int), Cond.constant RX2 39 (65535), Cond.fieldLink RX2 40 "NimberField$Nimbers" "ORDER_DIVISORS" "[I", Cond.methodLink RX2 43 yX2_raised, Cond.instanceMethod yX2_raised, Cond.selects RX2 yX2_raised yX2_raised]
def wsL_order_r2 : List Cond := [Cond.code yX2_raised cX2_raised 6 (some .int), Cond.methodLink RX2 31 yX2_times, Cond.instanceMethod yX2_times, Cond.selects RX2 yX2_times yX2_times, Cond.code yX2_times cX2_times 6 (some .int), Cond.fieldLink RX2 15 "NimberField$Nimbers" "bitProducts" "[I", Cond.methodLink RX2 35 yX2_square, Cond.instanceMethod yX2_square, Cond.selects RX2 yX2_square yX2_square, Cond.code yX2_square cX2_square 4 (some .int)]
def wsL_order : List Cond := .codeWith yL_order cL_order 3 (some .int) [(0, 5, 6, 18)] :: ((wsL_order_r1 ++ wsL_order_r2) ++ wsX60 ++ wsX20 ++ (vx_atS RX6 177 "java/lang/IllegalArgumentException" ["java/lang/RuntimeException", "java/lang/Exception"]).filter goodWord)
def wsL_trace : List Cond := .codeWith yL_trace cL_trace 3 (some .int) [(0, 5, 6, 18)] :: ([.classLink RL 18 "java/lang/IllegalArgumentException", .constant RL 17 (900001), .methodLink RL 83 yX6_traceOf, .instanceMethod yX6_traceOf, .selects RX6 yX6_traceOf yX6_traceOf, .initialized RX6, .code yX6_traceOf cX6_traceOf 2 (some .int), .constant RX6 58 (65535), .fieldLink RX6 12 "NimberField" "field" "LNimberField$Nimbers;", .methodLink RX6 59 yX6_requireRange, .static yX6_requireRange, .code yX6_requireRange cX6_requireRange 2 none, .classLink RX6 173 "java/lang/IllegalArgumentException", .initialized "java/lang/IllegalArgumentException", .methodLink RX6 159 yX2_trace, .instanceMethod yX2_trace, .selects RX2 yX2_trace yX2_trace, .initialized RX2, .code yX2_trace cX2_trace 5 (some .int), .methodLink RX2 35 yX2_square, .instanceMethod yX2_square, .selects RX2 yX2_square yX2_square, .code yX2_square cX2_square 4 (some .int), .fieldLink RX2 15 "NimberField$Nimbers" "bitProducts" "[I"] ++ wsX60 ++ wsX20 ++ (vx_atS RX6 177 "java/lang/IllegalArgumentException" ["java/lang/RuntimeException", "java/lang/Exception"]).filter goodWord)
def wsL_solve : List Cond := .codeWith yL_solve cL_solve 3 (some .int) [(0, 5, 6, 18)] :: ([.classLink RL 18 "java/lang/IllegalArgumentException", .constant RL 17 (900001), .methodLink RL 86 yX6_solve, .instanceMethod yX6_solve, .selects RX6 yX6_solve yX6_solve, .initialized RX6, .code yX6_solve cX6_solve 2 (some .int), .constant RX6 58 (65535), .fieldLink RX6 12 "NimberField" "field" "LNimberField$Nimbers;", .methodLink RX6 59 yX6_requireRange, .static yX6_requireRange, .code yX6_requireRange cX6_requireRange 2 none, .classLink RX6 173 "java/lang/IllegalArgumentException", .initialized "java/lang/IllegalArgumentException", .methodLink RX6 162 yX2_leastSolution, .instanceMethod yX2_leastSolution, .selects RX2 yX2_leastSolution yX2_leastSolution, .initialized RX2, .code yX2_leastSolution cX2_leastSolution 5 (some .int), .methodLink RX2 35 yX2_square, .instanceMethod yX2_square, .selects RX2 yX2_square yX2_square, .code yX2_square cX2_square 4 (some .int), .fieldLink RX2 15 "NimberField$Nimbers" "bitProducts" "[I"] ++ wsX60 ++ wsX20 ++ (vx_atS RX6 177 "java/lang/IllegalArgumentException" ["java/lang/RuntimeException", "java/lang/Exception"]).filter goodWord)
def wsL_square : List Cond := .code yL_square cL_square 2 (some .int) :: ([.methodLink RL 89 yL_halves, .static yL_halves, .initialized RL, .codeWith yL_halves cL_halves 4 (some .int) [(0, 6, 7, 18)], .classLink RL 18 "java/lang/IllegalArgumentException", .constant RL 17 (900001), .methodLink RL 56 yX6_productByHalves, .instanceMethod yX6_productByHalves, .selects RX6 yX6_productByHalves yX6_productByHalves, .initialized RX6, .code yX6_productByHalves cX6_productByHalves 3 (some .int), .constant RX6 58 (65535), .methodLink RX6 59 yX6_requireRange, .static yX6_requireRange, .code yX6_requireRange cX6_requireRange 2 none, .classLink RX6 173 "java/lang/IllegalArgumentException", .initialized "java/lang/IllegalArgumentException", .static yX2_timesByHalves, .initialized RX2, .code yX2_timesByHalves cX2_timesByHalves 12 (some .int), .methodLink RX2 27 yX2_timesByHalves] ++ (vx_atS RX6 177 "java/lang/IllegalArgumentException" ["java/lang/RuntimeException", "java/lang/Exception"]).filter goodWord)
def wsL_written_r1 : List Cond := [Cond.methodLink RL 95 yX6_clearProgram, Cond.instanceMethod yX6_clearProgram, Cond.selects RX6 yX6_clearProgram yX6_clearProgram, Cond.initialized RX6, Cond.code yX6_clearProgram cX6_clearProgram 1 (some .int), Cond.fieldLink RX6 26 "NimberField" "program" "LNimberField$Program;", Cond.methodLink RX6 107 yX3_empty, Cond.instanceMethod yX3_empty, Cond.selects RX3 yX3_empty yX3_empty, Cond.initialized RX3, Cond.code yX3_empty cX3_empty 2 (some .int), Cond.fieldLink RX3 22 "NimberField$Program" "length" "I", Cond.methodLink RL 98 yL_type, Cond.static yL_type, Cond.initialized RL, Cond.codeWith yL_type cL_type 3 (some .int) [(0, 6, 7, 25)], Cond.classLink RL 25 "java/lang/IllegalStateException", Cond.constant RL 17 (900001), Cond.methodLink RL 36 yX6_type, Cond.instanceMethod yX6_type, Cond.selects RX6 yX6_type yX6_type, Cond.code yX6_type cX6_type 2 (some .int), Cond.classLink RX6 74 "java/lang/IllegalStateException", Cond.initialized "java/lang/IllegalStateException"]
def wsL_written_r2 : List Cond := [Cond.methodLink RX6 97 yX3_isFull, Cond.instanceMethod yX3_isFull, Cond.selects RX3 yX3_isFull yX3_isFull, Cond.code yX3_isFull cX3_isFull 1 (some .boolean), Cond.methodLink RX6 103 yX3_append, Cond.instanceMethod yX3_append, Cond.selects RX3 yX3_append yX3_append, Cond.code yX3_append cX3_append 2 (some .int), Cond.fieldLink RX3 9 "NimberField$Program" "text" "[C", Cond.methodLink RL 101 yL_carryOut, Cond.static yL_carryOut, Cond.codeWith yL_carryOut cL_carryOut 2 (some .int) [(0, 4, 5, 25)], Cond.methodLink RL 44 yX6_carryOut, Cond.instanceMethod yX6_carryOut, Cond.selects RX6 yX6_carryOut yX6_carryOut, Cond.code yX6_carryOut cX6_carryOut 1 (some .int), Cond.fieldLink RX6 46 "NimberField" "history" "LNimberField$History;", Cond.fieldLink RX6 33 "NimberField" "state" "LNimberField$State;", Cond.fieldLink RX6 37 "NimberField" "trial" "LNimberField$State;", Cond.methodLink RX6 114 yX6_requireValidProgram, Cond.instanceMethod yX6_requireValidProgram, Cond.selects RX6 yX6_requireValidProgram yX6_requireValidProgram, Cond.code yX6_requireValidProgram cX6_requireValidProgram 1 none, Cond.methodLink RX6 111 yX3_read]
def wsL_written_r3 : List Cond := [Cond.instanceMethod yX3_read, Cond.selects RX3 yX3_read yX3_read, Cond.code yX3_read cX3_read 1 (some .int), Cond.fieldLink RX3 26 "NimberField$Program" "cursor" "I", Cond.fieldLink RX3 29 "NimberField$Program" "stepCount" "I", Cond.fieldLink RX3 17 "NimberField$Program" "steps" "[LNimberField$Step;", Cond.methodLink RX3 32 yX3_readTarget, Cond.instanceMethod yX3_readTarget, Cond.selects RX3 yX3_readTarget yX3_readTarget, Cond.code yX3_readTarget cX3_readTarget 3 (some .boolean), Cond.methodLink RX3 51 yX3_readRegister, Cond.instanceMethod yX3_readRegister, Cond.selects RX3 yX3_readRegister yX3_readRegister, Cond.code yX3_readRegister cX3_readRegister 2 (some .int), Cond.methodLink RX3 58 yX3_current, Cond.instanceMethod yX3_current, Cond.selects RX3 yX3_current yX3_current, Cond.code yX3_current cX3_current 1 (some .char), Cond.methodLink RX3 54 yX5_setTarget, Cond.instanceMethod yX5_setTarget, Cond.selects RX5 yX5_setTarget yX5_setTarget, Cond.initialized RX5, Cond.code yX5_setTarget cX5_setTarget 2 none, Cond.fieldLink RX5 9 "NimberField$Step" "target" "I"]
def wsL_written_r4 : List Cond := [Cond.methodLink RX3 39 yX3_skip, Cond.instanceMethod yX3_skip, Cond.selects RX3 yX3_skip yX3_skip, Cond.code yX3_skip cX3_skip 2 (some .boolean), Cond.methodLink RX3 36 yX3_readRightSide, Cond.instanceMethod yX3_readRightSide, Cond.selects RX3 yX3_readRightSide yX3_readRightSide, Cond.code yX3_readRightSide cX3_readRightSide 5 (some .boolean), Cond.methodLink RX3 62 yX3_readOperand, Cond.instanceMethod yX3_readOperand, Cond.selects RX3 yX3_readOperand yX3_readOperand, Cond.code yX3_readOperand cX3_readOperand 2 (some .int), Cond.constant RX3 72 (65536), Cond.methodLink RX3 69 yX3_readNumber, Cond.instanceMethod yX3_readNumber, Cond.selects RX3 yX3_readNumber yX3_readNumber, Cond.code yX3_readNumber cX3_readNumber 3 (some .int), Cond.constant RX3 77 (65535), Cond.methodLink RX3 73 yX3_digitOf, Cond.static yX3_digitOf, Cond.code yX3_digitOf cX3_digitOf 1 (some .int), Cond.methodLink RX3 65 yX5_setRightSide, Cond.instanceMethod yX5_setRightSide, Cond.selects RX5 yX5_setRightSide yX5_setRightSide]
def wsL_written_r5 : List Cond := [Cond.code yX5_setRightSide cX5_setRightSide 4 none, Cond.fieldLink RX5 15 "NimberField$Step" "sign" "C", Cond.fieldLink RX5 19 "NimberField$Step" "first" "I", Cond.fieldLink RX5 22 "NimberField$Step" "second" "I", Cond.methodLink RX6 117 yX6_tryProgram, Cond.instanceMethod yX6_tryProgram, Cond.selects RX6 yX6_tryProgram yX6_tryProgram, Cond.code yX6_tryProgram cX6_tryProgram 1 (some .int), Cond.fieldLink RX6 12 "NimberField" "field" "LNimberField$Nimbers;", Cond.methodLink RX6 122 yX4_copyFrom, Cond.instanceMethod yX4_copyFrom, Cond.selects RX4 yX4_copyFrom yX4_copyFrom, Cond.initialized RX4, Cond.code yX4_copyFrom cX4_copyFrom 3 none, Cond.fieldLink RX4 9 "NimberField$State" "nimbers" "[I", Cond.fieldLink RX4 15 "NimberField$State" "productCount" "I", Cond.methodLink RX4 19 yX4_nimberIn, Cond.instanceMethod yX4_nimberIn, Cond.selects RX4 yX4_nimberIn yX4_nimberIn, Cond.code yX4_nimberIn cX4_nimberIn 2 (some .int), Cond.methodLink RX4 23 yX4_productCount, Cond.instanceMethod yX4_productCount, Cond.selects RX4 yX4_productCount yX4_productCount, Cond.code yX4_productCount cX4_productCount 1 (some .int)]
def wsL_written_r6 : List Cond := [Cond.methodLink RX6 180 yX3_runOn, Cond.instanceMethod yX3_runOn, Cond.selects RX3 yX3_runOn yX3_runOn, Cond.code yX3_runOn cX3_runOn 4 (some .int), Cond.methodLink RX3 43 yX5_doOn, Cond.instanceMethod yX5_doOn, Cond.selects RX5 yX5_doOn yX5_doOn, Cond.code yX5_doOn cX5_doOn 4 (some .boolean), Cond.methodLink RX5 25 yX5_valueOf, Cond.static yX5_valueOf, Cond.code yX5_valueOf cX5_valueOf 2 (some .int), Cond.constant RX5 42 (65536), Cond.methodLink RX5 43 yX4_nimberIn, Cond.methodLink RX5 29 yX5_resultOf, Cond.instanceMethod yX5_resultOf, Cond.selects RX5 yX5_resultOf yX5_resultOf, Cond.code yX5_resultOf cX5_resultOf 4 (some .int), Cond.methodLink RX5 47 yX2_dividedBy, Cond.instanceMethod yX2_dividedBy, Cond.selects RX2 yX2_dividedBy yX2_dividedBy, Cond.initialized RX2, Cond.code yX2_dividedBy cX2_dividedBy 6 (some .int), Cond.methodLink RX2 35 yX2_square, Cond.instanceMethod yX2_square]
def wsL_written_r7 : List Cond := [Cond.selects RX2 yX2_square yX2_square, Cond.code yX2_square cX2_square 4 (some .int), Cond.fieldLink RX2 15 "NimberField$Nimbers" "bitProducts" "[I", Cond.methodLink RX2 31 yX2_times, Cond.instanceMethod yX2_times, Cond.selects RX2 yX2_times yX2_times, Cond.code yX2_times cX2_times 6 (some .int), Cond.methodLink RX5 53 yX2_root, Cond.instanceMethod yX2_root, Cond.selects RX2 yX2_root yX2_root, Cond.code yX2_root cX2_root 4 (some .int), Cond.methodLink RX5 56 yX2_times, Cond.methodLink RX5 59 yX2_raised, Cond.instanceMethod yX2_raised, Cond.selects RX2 yX2_raised yX2_raised, Cond.code yX2_raised cX2_raised 6 (some .int), Cond.methodLink RX5 33 yX4_put, Cond.instanceMethod yX4_put, Cond.selects RX4 yX4_put yX4_put, Cond.code yX4_put cX4_put 3 none, Cond.methodLink RX5 39 yX4_countProduct, Cond.instanceMethod yX4_countProduct, Cond.selects RX4 yX4_countProduct yX4_countProduct, Cond.code yX4_countProduct cX4_countProduct 1 none]
def wsL_written_r8 : List Cond := [Cond.methodLink RX6 67 yX0_record, Cond.instanceMethod yX0_record, Cond.selects RX0 yX0_record yX0_record, Cond.initialized RX0, Cond.code yX0_record cX0_record 3 none, Cond.fieldLink RX0 11 "NimberField$History" "kept" "[LNimberField$State;", Cond.fieldLink RX0 18 "NimberField$History" "size" "I", Cond.methodLink RX0 26 Lib.Math.min.name, Cond.static Lib.Math.min.name, Cond.initialized "java/lang/Math", Cond.code Lib.Math.min.name Lib.Math.min.code 2 (some .int), Cond.methodLink RX0 22 yX4_copyFrom, Cond.methodLink RX6 125 yX3_lastTarget, Cond.instanceMethod yX3_lastTarget, Cond.selects RX3 yX3_lastTarget yX3_lastTarget, Cond.code yX3_lastTarget cX3_lastTarget 1 (some .int), Cond.methodLink RX3 47 yX5_target, Cond.instanceMethod yX5_target, Cond.selects RX5 yX5_target yX5_target, Cond.code yX5_target cX5_target 1 (some .int), Cond.methodLink RX6 63 yX4_nimberIn]
def wsL_written : List Cond := .code yL_written cL_written 6 (some .int) :: ((wsL_written_r1 ++ (wsL_written_r2 ++ (wsL_written_r3 ++ (wsL_written_r4 ++ (wsL_written_r5 ++ (wsL_written_r6 ++ (wsL_written_r7 ++ wsL_written_r8))))))) ++ wsX60 ++ wsX30 ++ wsX50 ++ wsX40 ++ wsX20 ++ wsX00 ++ (vx_atS RX6 78 "java/lang/IllegalStateException" ["java/lang/RuntimeException", "java/lang/Exception"]).filter goodWord)
def wsL_isBack : List Cond := .code yL_isBack cL_isBack 4 (some .boolean) :: ([.constant RL 17 (900001), .methodLink RL 115 yL_square, .static yL_square, .initialized RL, .code yL_square cL_square 2 (some .int), .methodLink RL 89 yL_halves, .static yL_halves, .codeWith yL_halves cL_halves 4 (some .int) [(0, 6, 7, 18)], .classLink RL 18 "java/lang/IllegalArgumentException", .methodLink RL 56 yX6_productByHalves, .instanceMethod yX6_productByHalves, .selects RX6 yX6_productByHalves yX6_productByHalves, .initialized RX6, .code yX6_productByHalves cX6_productByHalves 3 (some .int), .constant RX6 58 (65535), .methodLink RX6 59 yX6_requireRange, .static yX6_requireRange, .code yX6_requireRange cX6_requireRange 2 none, .classLink RX6 173 "java/lang/IllegalArgumentException", .initialized "java/lang/IllegalArgumentException", .static yX2_timesByHalves, .initialized RX2, .code yX2_timesByHalves cX2_timesByHalves 12 (some .int), .methodLink RX2 27 yX2_timesByHalves] ++ (vx_atS RX6 177 "java/lang/IllegalArgumentException" ["java/lang/RuntimeException", "java/lang/Exception"]).filter goodWord)
def wsL_isStep_r1 : List Cond := [Cond.constant RL 20 (900002), Cond.constant RL 130 (65535), Cond.constant RL 17 (900001), Cond.methodLink RL 104 yL_up, Cond.static yL_up, Cond.initialized RL, Cond.code yL_up cL_up 2 (some .int), Cond.constant RL 8 (2147483647), Cond.methodLink RL 107 yL_nimber, Cond.static yL_nimber, Cond.codeWith yL_nimber cL_nimber 3 (some .int) [(0, 5, 6, 15)], Cond.classLink RL 15 "java/lang/IndexOutOfBoundsException", Cond.methodLink RL 53 yX6_nimberOf, Cond.instanceMethod yX6_nimberOf, Cond.selects RX6 yX6_nimberOf yX6_nimberOf, Cond.initialized RX6, Cond.code yX6_nimberOf cX6_nimberOf 2 (some .int), Cond.fieldLink RX6 33 "NimberField" "state" "LNimberField$State;", Cond.methodLink RX6 54 yX6_requireRegister, Cond.static yX6_requireRegister, Cond.code yX6_requireRegister cX6_requireRegister 1 none, Cond.classLink RX6 168 "java/lang/IndexOutOfBoundsException", Cond.initialized "java/lang/IndexOutOfBoundsException", Cond.methodLink RX6 63 yX4_nimberIn]
def wsL_isStep_r2 : List Cond := [Cond.instanceMethod yX4_nimberIn, Cond.selects RX4 yX4_nimberIn yX4_nimberIn, Cond.initialized RX4, Cond.code yX4_nimberIn cX4_nimberIn 2 (some .int), Cond.fieldLink RX4 9 "NimberField$State" "nimbers" "[I", Cond.methodLink RL 110 yX6_sumOfAll, Cond.instanceMethod yX6_sumOfAll, Cond.selects RX6 yX6_sumOfAll yX6_sumOfAll, Cond.code yX6_sumOfAll cX6_sumOfAll 1 (some .int), Cond.methodLink RX6 137 yX4_sum, Cond.instanceMethod yX4_sum, Cond.selects RX4 yX4_sum yX4_sum, Cond.code yX4_sum cX4_sum 3 (some .int), Cond.methodLink RL 113 yL_invert, Cond.static yL_invert, Cond.codeWith yL_invert cL_invert 3 (some .int) [(0, 5, 6, 15), (0, 5, 10, 25)], Cond.classLink RL 25 "java/lang/IllegalStateException", Cond.methodLink RL 21 yX6_invert, Cond.instanceMethod yX6_invert, Cond.selects RX6 yX6_invert yX6_invert, Cond.code yX6_invert cX6_invert 3 (some .int), Cond.classLink RX6 74 "java/lang/IllegalStateException", Cond.initialized "java/lang/IllegalStateException", Cond.fieldLink RX6 12 "NimberField" "field" "LNimberField$Nimbers;"]
def wsL_isStep_r3 : List Cond := [Cond.methodLink RX6 81 yX2_dividedBy, Cond.instanceMethod yX2_dividedBy, Cond.selects RX2 yX2_dividedBy yX2_dividedBy, Cond.initialized RX2, Cond.code yX2_dividedBy cX2_dividedBy 6 (some .int), Cond.methodLink RX2 35 yX2_square, Cond.instanceMethod yX2_square, Cond.selects RX2 yX2_square yX2_square, Cond.code yX2_square cX2_square 4 (some .int), Cond.fieldLink RX2 15 "NimberField$Nimbers" "bitProducts" "[I", Cond.methodLink RX2 31 yX2_times, Cond.instanceMethod yX2_times, Cond.selects RX2 yX2_times yX2_times, Cond.code yX2_times cX2_times 6 (some .int), Cond.methodLink RX6 85 yX6_replace, Cond.instanceMethod yX6_replace, Cond.selects RX6 yX6_replace yX6_replace, Cond.code yX6_replace cX6_replace 3 (some .int), Cond.fieldLink RX6 46 "NimberField" "history" "LNimberField$History;", Cond.methodLink RX6 67 yX0_record, Cond.instanceMethod yX0_record, Cond.selects RX0 yX0_record yX0_record, Cond.initialized RX0, Cond.code yX0_record cX0_record 3 none]
def wsL_isStep_r4 : List Cond := [Cond.fieldLink RX0 11 "NimberField$History" "kept" "[LNimberField$State;", Cond.fieldLink RX0 18 "NimberField$History" "size" "I", Cond.methodLink RX0 26 Lib.Math.min.name, Cond.static Lib.Math.min.name, Cond.initialized "java/lang/Math", Cond.code Lib.Math.min.name Lib.Math.min.code 2 (some .int), Cond.methodLink RX0 22 yX4_copyFrom, Cond.instanceMethod yX4_copyFrom, Cond.selects RX4 yX4_copyFrom yX4_copyFrom, Cond.code yX4_copyFrom cX4_copyFrom 3 none, Cond.fieldLink RX4 15 "NimberField$State" "productCount" "I", Cond.methodLink RX4 19 yX4_nimberIn, Cond.methodLink RX4 23 yX4_productCount, Cond.instanceMethod yX4_productCount, Cond.selects RX4 yX4_productCount yX4_productCount, Cond.code yX4_productCount cX4_productCount 1 (some .int), Cond.methodLink RX6 71 yX4_put, Cond.instanceMethod yX4_put, Cond.selects RX4 yX4_put yX4_put, Cond.code yX4_put cX4_put 3 none, Cond.methodLink RL 115 yL_square, Cond.static yL_square, Cond.code yL_square cL_square 2 (some .int), Cond.methodLink RL 89 yL_halves]
def wsL_isStep_r5 : List Cond := [Cond.static yL_halves, Cond.codeWith yL_halves cL_halves 4 (some .int) [(0, 6, 7, 18)], Cond.classLink RL 18 "java/lang/IllegalArgumentException", Cond.methodLink RL 56 yX6_productByHalves, Cond.instanceMethod yX6_productByHalves, Cond.selects RX6 yX6_productByHalves yX6_productByHalves, Cond.code yX6_productByHalves cX6_productByHalves 3 (some .int), Cond.constant RX6 58 (65535), Cond.methodLink RX6 59 yX6_requireRange, Cond.static yX6_requireRange, Cond.code yX6_requireRange cX6_requireRange 2 none, Cond.classLink RX6 173 "java/lang/IllegalArgumentException", Cond.initialized "java/lang/IllegalArgumentException", Cond.static yX2_timesByHalves, Cond.code yX2_timesByHalves cX2_timesByHalves 12 (some .int), Cond.methodLink RX2 27 yX2_timesByHalves, Cond.methodLink RL 118 yL_takeRoot, Cond.static yL_takeRoot, Cond.codeWith yL_takeRoot cL_takeRoot 3 (some .int) [(0, 5, 6, 15)], Cond.methodLink RL 27 yX6_takeRoot, Cond.instanceMethod yX6_takeRoot, Cond.selects RX6 yX6_takeRoot yX6_takeRoot, Cond.code yX6_takeRoot cX6_takeRoot 2 (some .int), Cond.methodLink RX6 88 yX2_root]
def wsL_isStep_r6 : List Cond := [Cond.instanceMethod yX2_root, Cond.selects RX2 yX2_root yX2_root, Cond.code yX2_root cX2_root 4 (some .int), Cond.methodLink RL 120 yL_multiply, Cond.static yL_multiply, Cond.codeWith yL_multiply cL_multiply 4 (some .int) [(0, 6, 7, 15)], Cond.methodLink RL 30 yX6_multiply, Cond.instanceMethod yX6_multiply, Cond.selects RX6 yX6_multiply yX6_multiply, Cond.code yX6_multiply cX6_multiply 4 (some .int), Cond.methodLink RX6 91 yX2_times, Cond.methodLink RX6 94 yX4_countProduct, Cond.instanceMethod yX4_countProduct, Cond.selects RX4 yX4_countProduct yX4_countProduct, Cond.code yX4_countProduct cX4_countProduct 1 none, Cond.methodLink RL 122 yX6_products, Cond.instanceMethod yX6_products, Cond.selects RX6 yX6_products yX6_products, Cond.code yX6_products cX6_products 1 (some .int), Cond.methodLink RX6 165 yX4_productCount, Cond.methodLink RL 125 yL_bits, Cond.static yL_bits, Cond.codeWith yL_bits cL_bits 4 (some .int) [(0, 6, 7, 18)], Cond.methodLink RL 59 yX6_productByBits]
def wsL_isStep_r7 : List Cond := [Cond.instanceMethod yX6_productByBits, Cond.selects RX6 yX6_productByBits yX6_productByBits, Cond.code yX6_productByBits cX6_productByBits 3 (some .int), Cond.methodLink RL 128 yL_exchange, Cond.static yL_exchange, Cond.codeWith yL_exchange cL_exchange 4 (some .int) [(0, 6, 7, 15)], Cond.methodLink RL 33 yX6_exchange, Cond.instanceMethod yX6_exchange, Cond.selects RX6 yX6_exchange yX6_exchange, Cond.code yX6_exchange cX6_exchange 5 (some .int), Cond.methodLink RL 131 yL_written, Cond.static yL_written, Cond.code yL_written cL_written 6 (some .int), Cond.methodLink RL 95 yX6_clearProgram, Cond.instanceMethod yX6_clearProgram, Cond.selects RX6 yX6_clearProgram yX6_clearProgram, Cond.code yX6_clearProgram cX6_clearProgram 1 (some .int), Cond.fieldLink RX6 26 "NimberField" "program" "LNimberField$Program;", Cond.methodLink RX6 107 yX3_empty, Cond.instanceMethod yX3_empty, Cond.selects RX3 yX3_empty yX3_empty, Cond.initialized RX3, Cond.code yX3_empty cX3_empty 2 (some .int), Cond.fieldLink RX3 22 "NimberField$Program" "length" "I"]
def wsL_isStep_r8 : List Cond := [Cond.methodLink RL 98 yL_type, Cond.static yL_type, Cond.codeWith yL_type cL_type 3 (some .int) [(0, 6, 7, 25)], Cond.methodLink RL 36 yX6_type, Cond.instanceMethod yX6_type, Cond.selects RX6 yX6_type yX6_type, Cond.code yX6_type cX6_type 2 (some .int), Cond.methodLink RX6 97 yX3_isFull, Cond.instanceMethod yX3_isFull, Cond.selects RX3 yX3_isFull yX3_isFull, Cond.code yX3_isFull cX3_isFull 1 (some .boolean), Cond.methodLink RX6 103 yX3_append, Cond.instanceMethod yX3_append, Cond.selects RX3 yX3_append yX3_append, Cond.code yX3_append cX3_append 2 (some .int), Cond.fieldLink RX3 9 "NimberField$Program" "text" "[C", Cond.methodLink RL 101 yL_carryOut, Cond.static yL_carryOut, Cond.codeWith yL_carryOut cL_carryOut 2 (some .int) [(0, 4, 5, 25)], Cond.methodLink RL 44 yX6_carryOut, Cond.instanceMethod yX6_carryOut, Cond.selects RX6 yX6_carryOut yX6_carryOut, Cond.code yX6_carryOut cX6_carryOut 1 (some .int), Cond.fieldLink RX6 37 "NimberField" "trial" "LNimberField$State;"]
def wsL_isStep_r9 : List Cond := [Cond.methodLink RX6 114 yX6_requireValidProgram, Cond.instanceMethod yX6_requireValidProgram, Cond.selects RX6 yX6_requireValidProgram yX6_requireValidProgram, Cond.code yX6_requireValidProgram cX6_requireValidProgram 1 none, Cond.methodLink RX6 111 yX3_read, Cond.instanceMethod yX3_read, Cond.selects RX3 yX3_read yX3_read, Cond.code yX3_read cX3_read 1 (some .int), Cond.fieldLink RX3 26 "NimberField$Program" "cursor" "I", Cond.fieldLink RX3 29 "NimberField$Program" "stepCount" "I", Cond.fieldLink RX3 17 "NimberField$Program" "steps" "[LNimberField$Step;", Cond.methodLink RX3 32 yX3_readTarget, Cond.instanceMethod yX3_readTarget, Cond.selects RX3 yX3_readTarget yX3_readTarget, Cond.code yX3_readTarget cX3_readTarget 3 (some .boolean), Cond.methodLink RX3 51 yX3_readRegister, Cond.instanceMethod yX3_readRegister, Cond.selects RX3 yX3_readRegister yX3_readRegister, Cond.code yX3_readRegister cX3_readRegister 2 (some .int), Cond.methodLink RX3 58 yX3_current, Cond.instanceMethod yX3_current, Cond.selects RX3 yX3_current yX3_current, Cond.code yX3_current cX3_current 1 (some .char), Cond.methodLink RX3 54 yX5_setTarget]
def wsL_isStep_r10 : List Cond := [Cond.instanceMethod yX5_setTarget, Cond.selects RX5 yX5_setTarget yX5_setTarget, Cond.initialized RX5, Cond.code yX5_setTarget cX5_setTarget 2 none, Cond.fieldLink RX5 9 "NimberField$Step" "target" "I", Cond.methodLink RX3 39 yX3_skip, Cond.instanceMethod yX3_skip, Cond.selects RX3 yX3_skip yX3_skip, Cond.code yX3_skip cX3_skip 2 (some .boolean), Cond.methodLink RX3 36 yX3_readRightSide, Cond.instanceMethod yX3_readRightSide, Cond.selects RX3 yX3_readRightSide yX3_readRightSide, Cond.code yX3_readRightSide cX3_readRightSide 5 (some .boolean), Cond.methodLink RX3 62 yX3_readOperand, Cond.instanceMethod yX3_readOperand, Cond.selects RX3 yX3_readOperand yX3_readOperand, Cond.code yX3_readOperand cX3_readOperand 2 (some .int), Cond.constant RX3 72 (65536), Cond.methodLink RX3 69 yX3_readNumber, Cond.instanceMethod yX3_readNumber, Cond.selects RX3 yX3_readNumber yX3_readNumber, Cond.code yX3_readNumber cX3_readNumber 3 (some .int), Cond.constant RX3 77 (65535), Cond.methodLink RX3 73 yX3_digitOf]
def wsL_isStep_r11 : List Cond := [Cond.static yX3_digitOf, Cond.code yX3_digitOf cX3_digitOf 1 (some .int), Cond.methodLink RX3 65 yX5_setRightSide, Cond.instanceMethod yX5_setRightSide, Cond.selects RX5 yX5_setRightSide yX5_setRightSide, Cond.code yX5_setRightSide cX5_setRightSide 4 none, Cond.fieldLink RX5 15 "NimberField$Step" "sign" "C", Cond.fieldLink RX5 19 "NimberField$Step" "first" "I", Cond.fieldLink RX5 22 "NimberField$Step" "second" "I", Cond.methodLink RX6 117 yX6_tryProgram, Cond.instanceMethod yX6_tryProgram, Cond.selects RX6 yX6_tryProgram yX6_tryProgram, Cond.code yX6_tryProgram cX6_tryProgram 1 (some .int), Cond.methodLink RX6 122 yX4_copyFrom, Cond.methodLink RX6 180 yX3_runOn, Cond.instanceMethod yX3_runOn, Cond.selects RX3 yX3_runOn yX3_runOn, Cond.code yX3_runOn cX3_runOn 4 (some .int), Cond.methodLink RX3 43 yX5_doOn, Cond.instanceMethod yX5_doOn, Cond.selects RX5 yX5_doOn yX5_doOn, Cond.code yX5_doOn cX5_doOn 4 (some .boolean), Cond.methodLink RX5 25 yX5_valueOf, Cond.static yX5_valueOf]
def wsL_isStep_r12 : List Cond := [Cond.code yX5_valueOf cX5_valueOf 2 (some .int), Cond.constant RX5 42 (65536), Cond.methodLink RX5 43 yX4_nimberIn, Cond.methodLink RX5 29 yX5_resultOf, Cond.instanceMethod yX5_resultOf, Cond.selects RX5 yX5_resultOf yX5_resultOf, Cond.code yX5_resultOf cX5_resultOf 4 (some .int), Cond.methodLink RX5 47 yX2_dividedBy, Cond.methodLink RX5 53 yX2_root, Cond.methodLink RX5 56 yX2_times, Cond.methodLink RX5 59 yX2_raised, Cond.instanceMethod yX2_raised, Cond.selects RX2 yX2_raised yX2_raised, Cond.code yX2_raised cX2_raised 6 (some .int), Cond.methodLink RX5 33 yX4_put, Cond.methodLink RX5 39 yX4_countProduct, Cond.methodLink RX6 125 yX3_lastTarget, Cond.instanceMethod yX3_lastTarget, Cond.selects RX3 yX3_lastTarget yX3_lastTarget, Cond.code yX3_lastTarget cX3_lastTarget 1 (some .int), Cond.methodLink RX3 47 yX5_target, Cond.instanceMethod yX5_target, Cond.selects RX5 yX5_target yX5_target, Cond.code yX5_target cX5_target 1 (some .int)]
def wsL_isStep_r13 : List Cond := [Cond.methodLink RL 135 yL_power, Cond.static yL_power, Cond.codeWith yL_power cL_power 4 (some .int) [(0, 6, 7, 18)], Cond.methodLink RL 68 yX6_power, Cond.instanceMethod yX6_power, Cond.selects RX6 yX6_power yX6_power, Cond.code yX6_power cX6_power 3 (some .int), Cond.constant RX6 149 (1000000000), Cond.methodLink RX6 150 yX2_raised, Cond.methodLink RL 137 yL_quotient, Cond.static yL_quotient, Cond.codeWith yL_quotient cL_quotient 4 (some .int) [(0, 6, 7, 18)], Cond.methodLink RL 65 yX6_quotient, Cond.instanceMethod yX6_quotient, Cond.selects RX6 yX6_quotient yX6_quotient, Cond.code yX6_quotient cX6_quotient 3 (some .int), Cond.methodLink RL 139 yX6_takeSnapshot, Cond.instanceMethod yX6_takeSnapshot, Cond.selects RX6 yX6_takeSnapshot yX6_takeSnapshot, Cond.code yX6_takeSnapshot cX6_takeSnapshot 1 (some .int), Cond.fieldLink RX6 40 "NimberField" "snapshot" "LNimberField$State;", Cond.fieldLink RX6 50 "NimberField" "snapshotTaken" "Z", Cond.methodLink RL 142 yL_restore, Cond.static yL_restore]
def wsL_isStep_r14 : List Cond := [Cond.codeWith yL_restore cL_restore 2 (some .int) [(0, 4, 5, 25)], Cond.methodLink RL 50 yX6_restoreSnapshot, Cond.instanceMethod yX6_restoreSnapshot, Cond.selects RX6 yX6_restoreSnapshot yX6_restoreSnapshot, Cond.code yX6_restoreSnapshot cX6_restoreSnapshot 1 (some .int), Cond.methodLink RL 145 yL_isBack, Cond.static yL_isBack, Cond.code yL_isBack cL_isBack 4 (some .boolean), Cond.methodLink RL 149 yL_undo, Cond.static yL_undo, Cond.codeWith yL_undo cL_undo 2 (some .int) [(0, 4, 5, 25)], Cond.methodLink RL 47 yX6_undo, Cond.instanceMethod yX6_undo, Cond.selects RX6 yX6_undo yX6_undo, Cond.code yX6_undo cX6_undo 1 (some .int), Cond.methodLink RX6 128 yX0_size, Cond.instanceMethod yX0_size, Cond.selects RX0 yX0_size yX0_size, Cond.code yX0_size cX0_size 1 (some .int), Cond.methodLink RX6 133 yX0_returnTo, Cond.instanceMethod yX0_returnTo, Cond.selects RX0 yX0_returnTo yX0_returnTo, Cond.code yX0_returnTo cX0_returnTo 3 (some .int), Cond.methodLink RL 151 yL_set]
def wsL_isStep_r15 : List Cond := [Cond.static yL_set, Cond.codeWith yL_set cL_set 4 (some .int) [(0, 6, 7, 15), (0, 6, 11, 18)], Cond.methodLink RL 9 yX6_set, Cond.instanceMethod yX6_set, Cond.selects RX6 yX6_set yX6_set, Cond.code yX6_set cX6_set 4 (some .int)]
def wsL_isStep : List Cond := .code yL_isStep cL_isStep 12 (some .boolean) :: ((wsL_isStep_r1 ++ (wsL_isStep_r2 ++ (wsL_isStep_r3 ++ (wsL_isStep_r4 ++ (wsL_isStep_r5 ++ (wsL_isStep_r6 ++ (wsL_isStep_r7 ++ (wsL_isStep_r8 ++ (wsL_isStep_r9 ++ (wsL_isStep_r10 ++ (wsL_isStep_r11 ++ (wsL_isStep_r12 ++ (wsL_isStep_r13 ++ (wsL_isStep_r14 ++ wsL_isStep_r15)))))))))))))) ++ wsX60 ++ wsX40 ++ wsX20 ++ wsX00 ++ wsX30 ++ wsX50 ++ (vx_atS RX6 172 "java/lang/IndexOutOfBoundsException" ["java/lang/RuntimeException", "java/lang/Exception"]).filter goodWord ++ (vx_atS RX6 78 "java/lang/IllegalStateException" ["java/lang/RuntimeException", "java/lang/Exception"]).filter goodWord ++ (vx_atS RX6 177 "java/lang/IllegalArgumentException" ["java/lang/RuntimeException", "java/lang/Exception"]).filter goodWord)
def wsL_areAlike_r1 : List Cond := [Cond.methodLink RL 122 yX6_products, Cond.instanceMethod yX6_products, Cond.selects RX6 yX6_products yX6_products, Cond.initialized RX6, Cond.code yX6_products cX6_products 1 (some .int), Cond.fieldLink RX6 33 "NimberField" "state" "LNimberField$State;", Cond.methodLink RX6 165 yX4_productCount, Cond.instanceMethod yX4_productCount, Cond.selects RX4 yX4_productCount yX4_productCount, Cond.initialized RX4, Cond.code yX4_productCount cX4_productCount 1 (some .int), Cond.fieldLink RX4 15 "NimberField$State" "productCount" "I", Cond.methodLink RL 110 yX6_sumOfAll, Cond.instanceMethod yX6_sumOfAll, Cond.selects RX6 yX6_sumOfAll yX6_sumOfAll, Cond.code yX6_sumOfAll cX6_sumOfAll 1 (some .int), Cond.methodLink RX6 137 yX4_sum, Cond.instanceMethod yX4_sum, Cond.selects RX4 yX4_sum yX4_sum, Cond.code yX4_sum cX4_sum 3 (some .int), Cond.fieldLink RX4 9 "NimberField$State" "nimbers" "[I", Cond.methodLink RL 115 yL_square, Cond.static yL_square, Cond.initialized RL]
def wsL_areAlike_r2 : List Cond := [Cond.code yL_square cL_square 2 (some .int), Cond.methodLink RL 89 yL_halves, Cond.static yL_halves, Cond.codeWith yL_halves cL_halves 4 (some .int) [(0, 6, 7, 18)], Cond.classLink RL 18 "java/lang/IllegalArgumentException", Cond.constant RL 17 (900001), Cond.methodLink RL 56 yX6_productByHalves, Cond.instanceMethod yX6_productByHalves, Cond.selects RX6 yX6_productByHalves yX6_productByHalves, Cond.code yX6_productByHalves cX6_productByHalves 3 (some .int), Cond.constant RX6 58 (65535), Cond.methodLink RX6 59 yX6_requireRange, Cond.static yX6_requireRange, Cond.code yX6_requireRange cX6_requireRange 2 none, Cond.classLink RX6 173 "java/lang/IllegalArgumentException", Cond.initialized "java/lang/IllegalArgumentException", Cond.static yX2_timesByHalves, Cond.initialized RX2, Cond.code yX2_timesByHalves cX2_timesByHalves 12 (some .int), Cond.methodLink RX2 27 yX2_timesByHalves, Cond.methodLink RL 153 yX6_recordedStates, Cond.instanceMethod yX6_recordedStates, Cond.selects RX6 yX6_recordedStates yX6_recordedStates, Cond.code yX6_recordedStates cX6_recordedStates 1 (some .int)]
def wsL_areAlike_r3 : List Cond := [Cond.fieldLink RX6 46 "NimberField" "history" "LNimberField$History;", Cond.methodLink RX6 128 yX0_size, Cond.instanceMethod yX0_size, Cond.selects RX0 yX0_size yX0_size, Cond.initialized RX0, Cond.code yX0_size cX0_size 1 (some .int), Cond.fieldLink RX0 18 "NimberField$History" "size" "I", Cond.methodLink RL 156 yX6_registerToLessen, Cond.instanceMethod yX6_registerToLessen, Cond.selects RX6 yX6_registerToLessen yX6_registerToLessen, Cond.code yX6_registerToLessen cX6_registerToLessen 4 (some .int), Cond.methodLink RX6 63 yX4_nimberIn, Cond.instanceMethod yX4_nimberIn, Cond.selects RX4 yX4_nimberIn yX4_nimberIn, Cond.code yX4_nimberIn cX4_nimberIn 2 (some .int), Cond.methodLink RL 107 yL_nimber, Cond.static yL_nimber, Cond.codeWith yL_nimber cL_nimber 3 (some .int) [(0, 5, 6, 15)], Cond.classLink RL 15 "java/lang/IndexOutOfBoundsException", Cond.methodLink RL 53 yX6_nimberOf, Cond.instanceMethod yX6_nimberOf, Cond.selects RX6 yX6_nimberOf yX6_nimberOf, Cond.code yX6_nimberOf cX6_nimberOf 2 (some .int), Cond.methodLink RX6 54 yX6_requireRegister]
def wsL_areAlike_r4 : List Cond := [Cond.static yX6_requireRegister, Cond.code yX6_requireRegister cX6_requireRegister 1 none, Cond.classLink RX6 168 "java/lang/IndexOutOfBoundsException", Cond.initialized "java/lang/IndexOutOfBoundsException", Cond.methodLink RL 159 yL_solve, Cond.static yL_solve, Cond.codeWith yL_solve cL_solve 3 (some .int) [(0, 5, 6, 18)], Cond.methodLink RL 86 yX6_solve, Cond.instanceMethod yX6_solve, Cond.selects RX6 yX6_solve yX6_solve, Cond.code yX6_solve cX6_solve 2 (some .int), Cond.fieldLink RX6 12 "NimberField" "field" "LNimberField$Nimbers;", Cond.methodLink RX6 162 yX2_leastSolution, Cond.instanceMethod yX2_leastSolution, Cond.selects RX2 yX2_leastSolution yX2_leastSolution, Cond.code yX2_leastSolution cX2_leastSolution 5 (some .int), Cond.methodLink RX2 35 yX2_square, Cond.instanceMethod yX2_square, Cond.selects RX2 yX2_square yX2_square, Cond.code yX2_square cX2_square 4 (some .int), Cond.fieldLink RX2 15 "NimberField$Nimbers" "bitProducts" "[I", Cond.methodLink RL 161 yL_root, Cond.static yL_root, Cond.codeWith yL_root cL_root 3 (some .int) [(0, 5, 6, 18)]]
def wsL_areAlike_r5 : List Cond := [Cond.methodLink RL 71 yX6_rootOf, Cond.instanceMethod yX6_rootOf, Cond.selects RX6 yX6_rootOf yX6_rootOf, Cond.code yX6_rootOf cX6_rootOf 2 (some .int), Cond.methodLink RX6 88 yX2_root, Cond.instanceMethod yX2_root, Cond.selects RX2 yX2_root yX2_root, Cond.code yX2_root cX2_root 4 (some .int), Cond.methodLink RL 164 yL_field, Cond.static yL_field, Cond.codeWith yL_field cL_field 3 (some .int) [(0, 5, 6, 18)], Cond.methodLink RL 74 yX6_fieldOf, Cond.instanceMethod yX6_fieldOf, Cond.selects RX6 yX6_fieldOf yX6_fieldOf, Cond.code yX6_fieldOf cX6_fieldOf 3 (some .int), Cond.methodLink RL 167 yL_order, Cond.static yL_order, Cond.codeWith yL_order cL_order 3 (some .int) [(0, 5, 6, 18)], Cond.methodLink RL 80 yX6_orderByDivisors, Cond.instanceMethod yX6_orderByDivisors, Cond.selects RX6 yX6_orderByDivisors yX6_orderByDivisors, Cond.code yX6_orderByDivisors cX6_orderByDivisors 2 (some .int), Cond.methodLink RX6 156 yX2_orderByQuotients, Cond.instanceMethod yX2_orderByQuotients]
def wsL_areAlike_r6 : List Cond := [Cond.selects RX2 yX2_orderByQuotients yX2_orderByQuotients, Cond.code yX2_orderByQuotients cX2_orderByQuotients 7 (some .int), Cond.constant RX2 39 (65535), Cond.fieldLink RX2 40 "NimberField$Nimbers" "ORDER_DIVISORS" "[I", Cond.methodLink RX2 43 yX2_raised, Cond.instanceMethod yX2_raised, Cond.selects RX2 yX2_raised yX2_raised, Cond.code yX2_raised cX2_raised 6 (some .int), Cond.methodLink RX2 31 yX2_times, Cond.instanceMethod yX2_times, Cond.selects RX2 yX2_times yX2_times, Cond.code yX2_times cX2_times 6 (some .int), Cond.methodLink RL 170 yL_trace, Cond.static yL_trace, Cond.codeWith yL_trace cL_trace 3 (some .int) [(0, 5, 6, 18)], Cond.methodLink RL 83 yX6_traceOf, Cond.instanceMethod yX6_traceOf, Cond.selects RX6 yX6_traceOf yX6_traceOf, Cond.code yX6_traceOf cX6_traceOf 2 (some .int), Cond.methodLink RX6 159 yX2_trace, Cond.instanceMethod yX2_trace, Cond.selects RX2 yX2_trace yX2_trace, Cond.code yX2_trace cX2_trace 5 (some .int)]
def wsL_areAlike : List Cond := .code yL_areAlike cL_areAlike 7 (some .boolean) :: ((wsL_areAlike_r1 ++ (wsL_areAlike_r2 ++ (wsL_areAlike_r3 ++ (wsL_areAlike_r4 ++ (wsL_areAlike_r5 ++ wsL_areAlike_r6))))) ++ wsX60 ++ wsX40 ++ wsX00 ++ wsX20 ++ (vx_atS RX6 177 "java/lang/IllegalArgumentException" ["java/lang/RuntimeException", "java/lang/Exception"]).filter goodWord ++ (vx_atS RX6 172 "java/lang/IndexOutOfBoundsException" ["java/lang/RuntimeException", "java/lang/Exception"]).filter goodWord)
def wsL_isWell_r1 : List Cond := [Cond.constant RL 173 (65536), Cond.constant RL 130 (65535), Cond.methodLink RL 107 yL_nimber, Cond.static yL_nimber, Cond.initialized RL, Cond.codeWith yL_nimber cL_nimber 3 (some .int) [(0, 5, 6, 15)], Cond.classLink RL 15 "java/lang/IndexOutOfBoundsException", Cond.constant RL 17 (900001), Cond.methodLink RL 53 yX6_nimberOf, Cond.instanceMethod yX6_nimberOf, Cond.selects RX6 yX6_nimberOf yX6_nimberOf, Cond.initialized RX6, Cond.code yX6_nimberOf cX6_nimberOf 2 (some .int), Cond.fieldLink RX6 33 "NimberField" "state" "LNimberField$State;", Cond.methodLink RX6 54 yX6_requireRegister, Cond.static yX6_requireRegister, Cond.code yX6_requireRegister cX6_requireRegister 1 none, Cond.classLink RX6 168 "java/lang/IndexOutOfBoundsException", Cond.initialized "java/lang/IndexOutOfBoundsException", Cond.methodLink RX6 63 yX4_nimberIn, Cond.instanceMethod yX4_nimberIn, Cond.selects RX4 yX4_nimberIn yX4_nimberIn, Cond.initialized RX4, Cond.code yX4_nimberIn cX4_nimberIn 2 (some .int)]
def wsL_isWell_r2 : List Cond := [Cond.fieldLink RX4 9 "NimberField$State" "nimbers" "[I", Cond.methodLink RL 161 yL_root, Cond.static yL_root, Cond.codeWith yL_root cL_root 3 (some .int) [(0, 5, 6, 18)], Cond.classLink RL 18 "java/lang/IllegalArgumentException", Cond.methodLink RL 71 yX6_rootOf, Cond.instanceMethod yX6_rootOf, Cond.selects RX6 yX6_rootOf yX6_rootOf, Cond.code yX6_rootOf cX6_rootOf 2 (some .int), Cond.constant RX6 58 (65535), Cond.fieldLink RX6 12 "NimberField" "field" "LNimberField$Nimbers;", Cond.methodLink RX6 59 yX6_requireRange, Cond.static yX6_requireRange, Cond.code yX6_requireRange cX6_requireRange 2 none, Cond.classLink RX6 173 "java/lang/IllegalArgumentException", Cond.initialized "java/lang/IllegalArgumentException", Cond.methodLink RX6 88 yX2_root, Cond.instanceMethod yX2_root, Cond.selects RX2 yX2_root yX2_root, Cond.initialized RX2, Cond.code yX2_root cX2_root 4 (some .int), Cond.methodLink RX2 35 yX2_square, Cond.instanceMethod yX2_square, Cond.selects RX2 yX2_square yX2_square]
def wsL_isWell_r3 : List Cond := [Cond.code yX2_square cX2_square 4 (some .int), Cond.fieldLink RX2 15 "NimberField$Nimbers" "bitProducts" "[I", Cond.methodLink RL 115 yL_square, Cond.static yL_square, Cond.code yL_square cL_square 2 (some .int), Cond.methodLink RL 89 yL_halves, Cond.static yL_halves, Cond.codeWith yL_halves cL_halves 4 (some .int) [(0, 6, 7, 18)], Cond.methodLink RL 56 yX6_productByHalves, Cond.instanceMethod yX6_productByHalves, Cond.selects RX6 yX6_productByHalves yX6_productByHalves, Cond.code yX6_productByHalves cX6_productByHalves 3 (some .int), Cond.static yX2_timesByHalves, Cond.code yX2_timesByHalves cX2_timesByHalves 12 (some .int), Cond.methodLink RX2 27 yX2_timesByHalves, Cond.methodLink RL 167 yL_order, Cond.static yL_order, Cond.codeWith yL_order cL_order 3 (some .int) [(0, 5, 6, 18)], Cond.methodLink RL 80 yX6_orderByDivisors, Cond.instanceMethod yX6_orderByDivisors, Cond.selects RX6 yX6_orderByDivisors yX6_orderByDivisors, Cond.code yX6_orderByDivisors cX6_orderByDivisors 2 (some .int), Cond.methodLink RX6 156 yX2_orderByQuotients, Cond.instanceMethod yX2_orderByQuotients]
def wsL_isWell_r4 : List Cond := [Cond.selects RX2 yX2_orderByQuotients yX2_orderByQuotients, Cond.code yX2_orderByQuotients cX2_orderByQuotients 7 (some .int), Cond.constant RX2 39 (65535), Cond.fieldLink RX2 40 "NimberField$Nimbers" "ORDER_DIVISORS" "[I", Cond.methodLink RX2 43 yX2_raised, Cond.instanceMethod yX2_raised, Cond.selects RX2 yX2_raised yX2_raised, Cond.code yX2_raised cX2_raised 6 (some .int), Cond.methodLink RX2 31 yX2_times, Cond.instanceMethod yX2_times, Cond.selects RX2 yX2_times yX2_times, Cond.code yX2_times cX2_times 6 (some .int), Cond.methodLink RL 137 yL_quotient, Cond.static yL_quotient, Cond.codeWith yL_quotient cL_quotient 4 (some .int) [(0, 6, 7, 18)], Cond.methodLink RL 65 yX6_quotient, Cond.instanceMethod yX6_quotient, Cond.selects RX6 yX6_quotient yX6_quotient, Cond.code yX6_quotient cX6_quotient 3 (some .int), Cond.methodLink RX6 81 yX2_dividedBy, Cond.instanceMethod yX2_dividedBy, Cond.selects RX2 yX2_dividedBy yX2_dividedBy, Cond.code yX2_dividedBy cX2_dividedBy 6 (some .int), Cond.methodLink RL 170 yL_trace]
def wsL_isWell_r5 : List Cond := [Cond.static yL_trace, Cond.codeWith yL_trace cL_trace 3 (some .int) [(0, 5, 6, 18)], Cond.methodLink RL 83 yX6_traceOf, Cond.instanceMethod yX6_traceOf, Cond.selects RX6 yX6_traceOf yX6_traceOf, Cond.code yX6_traceOf cX6_traceOf 2 (some .int), Cond.methodLink RX6 159 yX2_trace, Cond.instanceMethod yX2_trace, Cond.selects RX2 yX2_trace yX2_trace, Cond.code yX2_trace cX2_trace 5 (some .int), Cond.methodLink RL 159 yL_solve, Cond.static yL_solve, Cond.codeWith yL_solve cL_solve 3 (some .int) [(0, 5, 6, 18)], Cond.methodLink RL 86 yX6_solve, Cond.instanceMethod yX6_solve, Cond.selects RX6 yX6_solve yX6_solve, Cond.code yX6_solve cX6_solve 2 (some .int), Cond.methodLink RX6 162 yX2_leastSolution, Cond.instanceMethod yX2_leastSolution, Cond.selects RX2 yX2_leastSolution yX2_leastSolution, Cond.code yX2_leastSolution cX2_leastSolution 5 (some .int), Cond.methodLink RL 156 yX6_registerToLessen, Cond.instanceMethod yX6_registerToLessen, Cond.selects RX6 yX6_registerToLessen yX6_registerToLessen]
def wsL_isWell_r6 : List Cond := [Cond.code yX6_registerToLessen cX6_registerToLessen 4 (some .int), Cond.methodLink RX6 137 yX4_sum, Cond.instanceMethod yX4_sum, Cond.selects RX4 yX4_sum yX4_sum, Cond.code yX4_sum cX4_sum 3 (some .int), Cond.methodLink RL 110 yX6_sumOfAll, Cond.instanceMethod yX6_sumOfAll, Cond.selects RX6 yX6_sumOfAll yX6_sumOfAll, Cond.code yX6_sumOfAll cX6_sumOfAll 1 (some .int)]
def wsL_isWell : List Cond := .code yL_isWell cL_isWell 5 (some .boolean) :: ((wsL_isWell_r1 ++ (wsL_isWell_r2 ++ (wsL_isWell_r3 ++ (wsL_isWell_r4 ++ (wsL_isWell_r5 ++ wsL_isWell_r6))))) ++ wsX60 ++ wsX40 ++ wsX20 ++ (vx_atS RX6 172 "java/lang/IndexOutOfBoundsException" ["java/lang/RuntimeException", "java/lang/Exception"]).filter goodWord ++ (vx_atS RX6 177 "java/lang/IllegalArgumentException" ["java/lang/RuntimeException", "java/lang/Exception"]).filter goodWord)
def wsL_law0_r1 : List Cond := [Cond.classLink RL 10 RX6, Cond.instantiable RX6 8, Cond.initialized RX6, Cond.methodLink RL 174 yX6_init, Cond.instanceMethod yX6_init, Cond.code yX6_init cX6_init 1 none, Cond.methodLink RX6 3 objectInit, Cond.instanceMethod objectInit, Cond.code objectInit ⟨#[0xb1]⟩ 1 none, Cond.classLink RX6 9 RX2, Cond.instantiable RX2 1, Cond.initialized RX2, Cond.fieldLink RX6 12 "NimberField" "field" "LNimberField$Nimbers;", Cond.classLink RX6 16 RX1, Cond.instantiable RX1 2, Cond.initialized RX1, Cond.fieldLink RX6 19 "NimberField" "table" "LNimberField$LeastNumberTable;", Cond.classLink RX6 23 RX3, Cond.instantiable RX3 5, Cond.initialized RX3, Cond.fieldLink RX6 26 "NimberField" "program" "LNimberField$Program;", Cond.classLink RX6 30 RX4, Cond.instantiable RX4 2, Cond.initialized RX4]
def wsL_law0_r2 : List Cond := [Cond.fieldLink RX6 33 "NimberField" "state" "LNimberField$State;", Cond.fieldLink RX6 37 "NimberField" "trial" "LNimberField$State;", Cond.fieldLink RX6 40 "NimberField" "snapshot" "LNimberField$State;", Cond.classLink RX6 43 RX0, Cond.instantiable RX0 2, Cond.initialized RX0, Cond.fieldLink RX6 46 "NimberField" "history" "LNimberField$History;", Cond.fieldLink RX6 50 "NimberField" "snapshotTaken" "Z", Cond.methodLink RX6 11 yX2_init, Cond.instanceMethod yX2_init, Cond.code yX2_init cX2_init 1 none, Cond.methodLink RX2 3 objectInit, Cond.fieldLink RX2 15 "NimberField$Nimbers" "bitProducts" "[I", Cond.methodLink RX2 9 yX2_productsOfBits, Cond.static yX2_productsOfBits, Cond.code yX2_productsOfBits cX2_productsOfBits 2 (some (.array .int)), Cond.arrayClass .int, Cond.methodLink RX2 19 yX2_addProductsBelow, Cond.static yX2_addProductsBelow, Cond.code yX2_addProductsBelow cX2_addProductsBelow 6 none, Cond.methodLink RX2 23 yX2_timesSquareOfPower, Cond.static yX2_timesSquareOfPower, Cond.code yX2_timesSquareOfPower cX2_timesSquareOfPower 5 (some .int), Cond.instanceMethod yX1_init]
def wsL_law0_r3 : List Cond := [Cond.code yX1_init cX1_init 1 none, Cond.methodLink RX1 3 objectInit, Cond.fieldLink RX1 11 "NimberField$LeastNumberTable" "cells" "[I", Cond.methodLink RX6 25 yX3_init, Cond.instanceMethod yX3_init, Cond.code yX3_init cX3_init 2 none, Cond.methodLink RX3 3 objectInit, Cond.arrayClass .char, Cond.fieldLink RX3 9 "NimberField$Program" "text" "[C", Cond.classLink RX3 15 RX5, Cond.fieldLink RX3 17 "NimberField$Program" "steps" "[LNimberField$Step;", Cond.instantiable RX5 4, Cond.initialized RX5, Cond.instanceMethod yX5_init, Cond.code yX5_init cX5_init 1 none, Cond.methodLink RX5 3 objectInit, Cond.instanceMethod yX4_init, Cond.code yX4_init cX4_init 1 none, Cond.methodLink RX4 3 objectInit, Cond.fieldLink RX4 9 "NimberField$State" "nimbers" "[I", Cond.methodLink RX6 45 yX0_init, Cond.instanceMethod yX0_init, Cond.code yX0_init cX0_init 2 none, Cond.methodLink RX0 3 objectInit]
def wsL_law0_r4 : List Cond := [Cond.classLink RX0 9 RX4, Cond.fieldLink RX0 11 "NimberField$History" "kept" "[LNimberField$State;", Cond.methodLink RL 175 yL_cell, Cond.static yL_cell, Cond.initialized RL, Cond.code yL_cell cL_cell 2 (some .int), Cond.constant RL 7 (2144730569), Cond.methodLink RL 179 yL_isStep, Cond.static yL_isStep, Cond.code yL_isStep cL_isStep 12 (some .boolean), Cond.constant RL 20 (900002), Cond.constant RL 130 (65535), Cond.constant RL 17 (900001), Cond.methodLink RL 104 yL_up, Cond.static yL_up, Cond.code yL_up cL_up 2 (some .int), Cond.constant RL 8 (2147483647), Cond.methodLink RL 107 yL_nimber, Cond.static yL_nimber, Cond.codeWith yL_nimber cL_nimber 3 (some .int) [(0, 5, 6, 15)], Cond.classLink RL 15 "java/lang/IndexOutOfBoundsException", Cond.methodLink RL 53 yX6_nimberOf, Cond.instanceMethod yX6_nimberOf, Cond.selects RX6 yX6_nimberOf yX6_nimberOf]
def wsL_law0_r5 : List Cond := [Cond.code yX6_nimberOf cX6_nimberOf 2 (some .int), Cond.methodLink RX6 54 yX6_requireRegister, Cond.static yX6_requireRegister, Cond.code yX6_requireRegister cX6_requireRegister 1 none, Cond.classLink RX6 168 "java/lang/IndexOutOfBoundsException", Cond.initialized "java/lang/IndexOutOfBoundsException", Cond.methodLink RX6 63 yX4_nimberIn, Cond.instanceMethod yX4_nimberIn, Cond.selects RX4 yX4_nimberIn yX4_nimberIn, Cond.code yX4_nimberIn cX4_nimberIn 2 (some .int), Cond.methodLink RL 110 yX6_sumOfAll, Cond.instanceMethod yX6_sumOfAll, Cond.selects RX6 yX6_sumOfAll yX6_sumOfAll, Cond.code yX6_sumOfAll cX6_sumOfAll 1 (some .int), Cond.methodLink RX6 137 yX4_sum, Cond.instanceMethod yX4_sum, Cond.selects RX4 yX4_sum yX4_sum, Cond.code yX4_sum cX4_sum 3 (some .int), Cond.methodLink RL 113 yL_invert, Cond.static yL_invert, Cond.codeWith yL_invert cL_invert 3 (some .int) [(0, 5, 6, 15), (0, 5, 10, 25)], Cond.classLink RL 25 "java/lang/IllegalStateException", Cond.methodLink RL 21 yX6_invert, Cond.instanceMethod yX6_invert]
def wsL_law0_r6 : List Cond := [Cond.selects RX6 yX6_invert yX6_invert, Cond.code yX6_invert cX6_invert 3 (some .int), Cond.classLink RX6 74 "java/lang/IllegalStateException", Cond.initialized "java/lang/IllegalStateException", Cond.methodLink RX6 81 yX2_dividedBy, Cond.instanceMethod yX2_dividedBy, Cond.selects RX2 yX2_dividedBy yX2_dividedBy, Cond.code yX2_dividedBy cX2_dividedBy 6 (some .int), Cond.methodLink RX2 35 yX2_square, Cond.instanceMethod yX2_square, Cond.selects RX2 yX2_square yX2_square, Cond.code yX2_square cX2_square 4 (some .int), Cond.methodLink RX2 31 yX2_times, Cond.instanceMethod yX2_times, Cond.selects RX2 yX2_times yX2_times, Cond.code yX2_times cX2_times 6 (some .int), Cond.methodLink RX6 85 yX6_replace, Cond.instanceMethod yX6_replace, Cond.selects RX6 yX6_replace yX6_replace, Cond.code yX6_replace cX6_replace 3 (some .int), Cond.methodLink RX6 67 yX0_record, Cond.instanceMethod yX0_record, Cond.selects RX0 yX0_record yX0_record, Cond.code yX0_record cX0_record 3 none]
def wsL_law0_r7 : List Cond := [Cond.fieldLink RX0 18 "NimberField$History" "size" "I", Cond.methodLink RX0 26 Lib.Math.min.name, Cond.static Lib.Math.min.name, Cond.initialized "java/lang/Math", Cond.code Lib.Math.min.name Lib.Math.min.code 2 (some .int), Cond.methodLink RX0 22 yX4_copyFrom, Cond.instanceMethod yX4_copyFrom, Cond.selects RX4 yX4_copyFrom yX4_copyFrom, Cond.code yX4_copyFrom cX4_copyFrom 3 none, Cond.fieldLink RX4 15 "NimberField$State" "productCount" "I", Cond.methodLink RX4 19 yX4_nimberIn, Cond.methodLink RX4 23 yX4_productCount, Cond.instanceMethod yX4_productCount, Cond.selects RX4 yX4_productCount yX4_productCount, Cond.code yX4_productCount cX4_productCount 1 (some .int), Cond.methodLink RX6 71 yX4_put, Cond.instanceMethod yX4_put, Cond.selects RX4 yX4_put yX4_put, Cond.code yX4_put cX4_put 3 none, Cond.methodLink RL 115 yL_square, Cond.static yL_square, Cond.code yL_square cL_square 2 (some .int), Cond.methodLink RL 89 yL_halves, Cond.static yL_halves]
def wsL_law0_r8 : List Cond := [Cond.codeWith yL_halves cL_halves 4 (some .int) [(0, 6, 7, 18)], Cond.classLink RL 18 "java/lang/IllegalArgumentException", Cond.methodLink RL 56 yX6_productByHalves, Cond.instanceMethod yX6_productByHalves, Cond.selects RX6 yX6_productByHalves yX6_productByHalves, Cond.code yX6_productByHalves cX6_productByHalves 3 (some .int), Cond.constant RX6 58 (65535), Cond.methodLink RX6 59 yX6_requireRange, Cond.static yX6_requireRange, Cond.code yX6_requireRange cX6_requireRange 2 none, Cond.classLink RX6 173 "java/lang/IllegalArgumentException", Cond.initialized "java/lang/IllegalArgumentException", Cond.static yX2_timesByHalves, Cond.code yX2_timesByHalves cX2_timesByHalves 12 (some .int), Cond.methodLink RX2 27 yX2_timesByHalves, Cond.methodLink RL 118 yL_takeRoot, Cond.static yL_takeRoot, Cond.codeWith yL_takeRoot cL_takeRoot 3 (some .int) [(0, 5, 6, 15)], Cond.methodLink RL 27 yX6_takeRoot, Cond.instanceMethod yX6_takeRoot, Cond.selects RX6 yX6_takeRoot yX6_takeRoot, Cond.code yX6_takeRoot cX6_takeRoot 2 (some .int), Cond.methodLink RX6 88 yX2_root, Cond.instanceMethod yX2_root]
def wsL_law0_r9 : List Cond := [Cond.selects RX2 yX2_root yX2_root, Cond.code yX2_root cX2_root 4 (some .int), Cond.methodLink RL 120 yL_multiply, Cond.static yL_multiply, Cond.codeWith yL_multiply cL_multiply 4 (some .int) [(0, 6, 7, 15)], Cond.methodLink RL 30 yX6_multiply, Cond.instanceMethod yX6_multiply, Cond.selects RX6 yX6_multiply yX6_multiply, Cond.code yX6_multiply cX6_multiply 4 (some .int), Cond.methodLink RX6 91 yX2_times, Cond.methodLink RX6 94 yX4_countProduct, Cond.instanceMethod yX4_countProduct, Cond.selects RX4 yX4_countProduct yX4_countProduct, Cond.code yX4_countProduct cX4_countProduct 1 none, Cond.methodLink RL 122 yX6_products, Cond.instanceMethod yX6_products, Cond.selects RX6 yX6_products yX6_products, Cond.code yX6_products cX6_products 1 (some .int), Cond.methodLink RX6 165 yX4_productCount, Cond.methodLink RL 125 yL_bits, Cond.static yL_bits, Cond.codeWith yL_bits cL_bits 4 (some .int) [(0, 6, 7, 18)], Cond.methodLink RL 59 yX6_productByBits, Cond.instanceMethod yX6_productByBits]
def wsL_law0_r10 : List Cond := [Cond.selects RX6 yX6_productByBits yX6_productByBits, Cond.code yX6_productByBits cX6_productByBits 3 (some .int), Cond.methodLink RL 128 yL_exchange, Cond.static yL_exchange, Cond.codeWith yL_exchange cL_exchange 4 (some .int) [(0, 6, 7, 15)], Cond.methodLink RL 33 yX6_exchange, Cond.instanceMethod yX6_exchange, Cond.selects RX6 yX6_exchange yX6_exchange, Cond.code yX6_exchange cX6_exchange 5 (some .int), Cond.methodLink RL 131 yL_written, Cond.static yL_written, Cond.code yL_written cL_written 6 (some .int), Cond.methodLink RL 95 yX6_clearProgram, Cond.instanceMethod yX6_clearProgram, Cond.selects RX6 yX6_clearProgram yX6_clearProgram, Cond.code yX6_clearProgram cX6_clearProgram 1 (some .int), Cond.methodLink RX6 107 yX3_empty, Cond.instanceMethod yX3_empty, Cond.selects RX3 yX3_empty yX3_empty, Cond.code yX3_empty cX3_empty 2 (some .int), Cond.fieldLink RX3 22 "NimberField$Program" "length" "I", Cond.methodLink RL 98 yL_type, Cond.static yL_type, Cond.codeWith yL_type cL_type 3 (some .int) [(0, 6, 7, 25)]]
def wsL_law0_r11 : List Cond := [Cond.methodLink RL 36 yX6_type, Cond.instanceMethod yX6_type, Cond.selects RX6 yX6_type yX6_type, Cond.code yX6_type cX6_type 2 (some .int), Cond.methodLink RX6 97 yX3_isFull, Cond.instanceMethod yX3_isFull, Cond.selects RX3 yX3_isFull yX3_isFull, Cond.code yX3_isFull cX3_isFull 1 (some .boolean), Cond.methodLink RX6 103 yX3_append, Cond.instanceMethod yX3_append, Cond.selects RX3 yX3_append yX3_append, Cond.code yX3_append cX3_append 2 (some .int), Cond.methodLink RL 101 yL_carryOut, Cond.static yL_carryOut, Cond.codeWith yL_carryOut cL_carryOut 2 (some .int) [(0, 4, 5, 25)], Cond.methodLink RL 44 yX6_carryOut, Cond.instanceMethod yX6_carryOut, Cond.selects RX6 yX6_carryOut yX6_carryOut, Cond.code yX6_carryOut cX6_carryOut 1 (some .int), Cond.methodLink RX6 114 yX6_requireValidProgram, Cond.instanceMethod yX6_requireValidProgram, Cond.selects RX6 yX6_requireValidProgram yX6_requireValidProgram, Cond.code yX6_requireValidProgram cX6_requireValidProgram 1 none, Cond.methodLink RX6 111 yX3_read]
def wsL_law0_r12 : List Cond := [Cond.instanceMethod yX3_read, Cond.selects RX3 yX3_read yX3_read, Cond.code yX3_read cX3_read 1 (some .int), Cond.fieldLink RX3 26 "NimberField$Program" "cursor" "I", Cond.fieldLink RX3 29 "NimberField$Program" "stepCount" "I", Cond.methodLink RX3 32 yX3_readTarget, Cond.instanceMethod yX3_readTarget, Cond.selects RX3 yX3_readTarget yX3_readTarget, Cond.code yX3_readTarget cX3_readTarget 3 (some .boolean), Cond.methodLink RX3 51 yX3_readRegister, Cond.instanceMethod yX3_readRegister, Cond.selects RX3 yX3_readRegister yX3_readRegister, Cond.code yX3_readRegister cX3_readRegister 2 (some .int), Cond.methodLink RX3 58 yX3_current, Cond.instanceMethod yX3_current, Cond.selects RX3 yX3_current yX3_current, Cond.code yX3_current cX3_current 1 (some .char), Cond.methodLink RX3 54 yX5_setTarget, Cond.instanceMethod yX5_setTarget, Cond.selects RX5 yX5_setTarget yX5_setTarget, Cond.code yX5_setTarget cX5_setTarget 2 none, Cond.fieldLink RX5 9 "NimberField$Step" "target" "I", Cond.methodLink RX3 39 yX3_skip, Cond.instanceMethod yX3_skip]
def wsL_law0_r13 : List Cond := [Cond.selects RX3 yX3_skip yX3_skip, Cond.code yX3_skip cX3_skip 2 (some .boolean), Cond.methodLink RX3 36 yX3_readRightSide, Cond.instanceMethod yX3_readRightSide, Cond.selects RX3 yX3_readRightSide yX3_readRightSide, Cond.code yX3_readRightSide cX3_readRightSide 5 (some .boolean), Cond.methodLink RX3 62 yX3_readOperand, Cond.instanceMethod yX3_readOperand, Cond.selects RX3 yX3_readOperand yX3_readOperand, Cond.code yX3_readOperand cX3_readOperand 2 (some .int), Cond.constant RX3 72 (65536), Cond.methodLink RX3 69 yX3_readNumber, Cond.instanceMethod yX3_readNumber, Cond.selects RX3 yX3_readNumber yX3_readNumber, Cond.code yX3_readNumber cX3_readNumber 3 (some .int), Cond.constant RX3 77 (65535), Cond.methodLink RX3 73 yX3_digitOf, Cond.static yX3_digitOf, Cond.code yX3_digitOf cX3_digitOf 1 (some .int), Cond.methodLink RX3 65 yX5_setRightSide, Cond.instanceMethod yX5_setRightSide, Cond.selects RX5 yX5_setRightSide yX5_setRightSide, Cond.code yX5_setRightSide cX5_setRightSide 4 none, Cond.fieldLink RX5 15 "NimberField$Step" "sign" "C"]
def wsL_law0_r14 : List Cond := [Cond.fieldLink RX5 19 "NimberField$Step" "first" "I", Cond.fieldLink RX5 22 "NimberField$Step" "second" "I", Cond.methodLink RX6 117 yX6_tryProgram, Cond.instanceMethod yX6_tryProgram, Cond.selects RX6 yX6_tryProgram yX6_tryProgram, Cond.code yX6_tryProgram cX6_tryProgram 1 (some .int), Cond.methodLink RX6 122 yX4_copyFrom, Cond.methodLink RX6 180 yX3_runOn, Cond.instanceMethod yX3_runOn, Cond.selects RX3 yX3_runOn yX3_runOn, Cond.code yX3_runOn cX3_runOn 4 (some .int), Cond.methodLink RX3 43 yX5_doOn, Cond.instanceMethod yX5_doOn, Cond.selects RX5 yX5_doOn yX5_doOn, Cond.code yX5_doOn cX5_doOn 4 (some .boolean), Cond.methodLink RX5 25 yX5_valueOf, Cond.static yX5_valueOf, Cond.code yX5_valueOf cX5_valueOf 2 (some .int), Cond.constant RX5 42 (65536), Cond.methodLink RX5 43 yX4_nimberIn, Cond.methodLink RX5 29 yX5_resultOf, Cond.instanceMethod yX5_resultOf, Cond.selects RX5 yX5_resultOf yX5_resultOf, Cond.code yX5_resultOf cX5_resultOf 4 (some .int)]
def wsL_law0_r15 : List Cond := [Cond.methodLink RX5 47 yX2_dividedBy, Cond.methodLink RX5 53 yX2_root, Cond.methodLink RX5 56 yX2_times, Cond.methodLink RX5 59 yX2_raised, Cond.instanceMethod yX2_raised, Cond.selects RX2 yX2_raised yX2_raised, Cond.code yX2_raised cX2_raised 6 (some .int), Cond.methodLink RX5 33 yX4_put, Cond.methodLink RX5 39 yX4_countProduct, Cond.methodLink RX6 125 yX3_lastTarget, Cond.instanceMethod yX3_lastTarget, Cond.selects RX3 yX3_lastTarget yX3_lastTarget, Cond.code yX3_lastTarget cX3_lastTarget 1 (some .int), Cond.methodLink RX3 47 yX5_target, Cond.instanceMethod yX5_target, Cond.selects RX5 yX5_target yX5_target, Cond.code yX5_target cX5_target 1 (some .int), Cond.methodLink RL 135 yL_power, Cond.static yL_power, Cond.codeWith yL_power cL_power 4 (some .int) [(0, 6, 7, 18)], Cond.methodLink RL 68 yX6_power, Cond.instanceMethod yX6_power, Cond.selects RX6 yX6_power yX6_power, Cond.code yX6_power cX6_power 3 (some .int)]
def wsL_law0_r16 : List Cond := [Cond.constant RX6 149 (1000000000), Cond.methodLink RX6 150 yX2_raised, Cond.methodLink RL 137 yL_quotient, Cond.static yL_quotient, Cond.codeWith yL_quotient cL_quotient 4 (some .int) [(0, 6, 7, 18)], Cond.methodLink RL 65 yX6_quotient, Cond.instanceMethod yX6_quotient, Cond.selects RX6 yX6_quotient yX6_quotient, Cond.code yX6_quotient cX6_quotient 3 (some .int), Cond.methodLink RL 139 yX6_takeSnapshot, Cond.instanceMethod yX6_takeSnapshot, Cond.selects RX6 yX6_takeSnapshot yX6_takeSnapshot, Cond.code yX6_takeSnapshot cX6_takeSnapshot 1 (some .int), Cond.methodLink RL 142 yL_restore, Cond.static yL_restore, Cond.codeWith yL_restore cL_restore 2 (some .int) [(0, 4, 5, 25)], Cond.methodLink RL 50 yX6_restoreSnapshot, Cond.instanceMethod yX6_restoreSnapshot, Cond.selects RX6 yX6_restoreSnapshot yX6_restoreSnapshot, Cond.code yX6_restoreSnapshot cX6_restoreSnapshot 1 (some .int), Cond.methodLink RL 145 yL_isBack, Cond.static yL_isBack, Cond.code yL_isBack cL_isBack 4 (some .boolean), Cond.methodLink RL 149 yL_undo]
def wsL_law0_r17 : List Cond := [Cond.static yL_undo, Cond.codeWith yL_undo cL_undo 2 (some .int) [(0, 4, 5, 25)], Cond.methodLink RL 47 yX6_undo, Cond.instanceMethod yX6_undo, Cond.selects RX6 yX6_undo yX6_undo, Cond.code yX6_undo cX6_undo 1 (some .int), Cond.methodLink RX6 128 yX0_size, Cond.instanceMethod yX0_size, Cond.selects RX0 yX0_size yX0_size, Cond.code yX0_size cX0_size 1 (some .int), Cond.methodLink RX6 133 yX0_returnTo, Cond.instanceMethod yX0_returnTo, Cond.selects RX0 yX0_returnTo yX0_returnTo, Cond.code yX0_returnTo cX0_returnTo 3 (some .int), Cond.methodLink RL 151 yL_set, Cond.static yL_set, Cond.codeWith yL_set cL_set 4 (some .int) [(0, 6, 7, 15), (0, 6, 11, 18)], Cond.methodLink RL 9 yX6_set, Cond.instanceMethod yX6_set, Cond.selects RX6 yX6_set yX6_set, Cond.code yX6_set cX6_set 4 (some .int), Cond.methodLink RL 182 yL_isWell, Cond.static yL_isWell, Cond.code yL_isWell cL_isWell 5 (some .boolean)]
def wsL_law0_r18 : List Cond := [Cond.constant RL 173 (65536), Cond.methodLink RL 161 yL_root, Cond.static yL_root, Cond.codeWith yL_root cL_root 3 (some .int) [(0, 5, 6, 18)], Cond.methodLink RL 71 yX6_rootOf, Cond.instanceMethod yX6_rootOf, Cond.selects RX6 yX6_rootOf yX6_rootOf, Cond.code yX6_rootOf cX6_rootOf 2 (some .int), Cond.methodLink RL 167 yL_order, Cond.static yL_order, Cond.codeWith yL_order cL_order 3 (some .int) [(0, 5, 6, 18)], Cond.methodLink RL 80 yX6_orderByDivisors, Cond.instanceMethod yX6_orderByDivisors, Cond.selects RX6 yX6_orderByDivisors yX6_orderByDivisors, Cond.code yX6_orderByDivisors cX6_orderByDivisors 2 (some .int), Cond.methodLink RX6 156 yX2_orderByQuotients, Cond.instanceMethod yX2_orderByQuotients, Cond.selects RX2 yX2_orderByQuotients yX2_orderByQuotients, Cond.code yX2_orderByQuotients cX2_orderByQuotients 7 (some .int), Cond.constant RX2 39 (65535), Cond.fieldLink RX2 40 "NimberField$Nimbers" "ORDER_DIVISORS" "[I", Cond.methodLink RX2 43 yX2_raised, Cond.methodLink RL 170 yL_trace, Cond.static yL_trace]
def wsL_law0_r19 : List Cond := [Cond.codeWith yL_trace cL_trace 3 (some .int) [(0, 5, 6, 18)], Cond.methodLink RL 83 yX6_traceOf, Cond.instanceMethod yX6_traceOf, Cond.selects RX6 yX6_traceOf yX6_traceOf, Cond.code yX6_traceOf cX6_traceOf 2 (some .int), Cond.methodLink RX6 159 yX2_trace, Cond.instanceMethod yX2_trace, Cond.selects RX2 yX2_trace yX2_trace, Cond.code yX2_trace cX2_trace 5 (some .int), Cond.methodLink RL 159 yL_solve, Cond.static yL_solve, Cond.codeWith yL_solve cL_solve 3 (some .int) [(0, 5, 6, 18)], Cond.methodLink RL 86 yX6_solve, Cond.instanceMethod yX6_solve, Cond.selects RX6 yX6_solve yX6_solve, Cond.code yX6_solve cX6_solve 2 (some .int), Cond.methodLink RX6 162 yX2_leastSolution, Cond.instanceMethod yX2_leastSolution, Cond.selects RX2 yX2_leastSolution yX2_leastSolution, Cond.code yX2_leastSolution cX2_leastSolution 5 (some .int), Cond.methodLink RL 156 yX6_registerToLessen, Cond.instanceMethod yX6_registerToLessen, Cond.selects RX6 yX6_registerToLessen yX6_registerToLessen, Cond.code yX6_registerToLessen cX6_registerToLessen 4 (some .int)]
def wsL_law0_r20 : List Cond := [Cond.methodLink RL 186 yL_areAlike, Cond.static yL_areAlike, Cond.code yL_areAlike cL_areAlike 7 (some .boolean), Cond.methodLink RL 153 yX6_recordedStates, Cond.instanceMethod yX6_recordedStates, Cond.selects RX6 yX6_recordedStates yX6_recordedStates, Cond.code yX6_recordedStates cX6_recordedStates 1 (some .int), Cond.methodLink RL 164 yL_field, Cond.static yL_field, Cond.codeWith yL_field cL_field 3 (some .int) [(0, 5, 6, 18)], Cond.methodLink RL 74 yX6_fieldOf, Cond.instanceMethod yX6_fieldOf, Cond.selects RX6 yX6_fieldOf yX6_fieldOf, Cond.code yX6_fieldOf cX6_fieldOf 3 (some .int)]
def wsL_law0 : List Cond := (wsL_law0_r1 ++ (wsL_law0_r2 ++ (wsL_law0_r3 ++ (wsL_law0_r4 ++ (wsL_law0_r5 ++ (wsL_law0_r6 ++ (wsL_law0_r7 ++ (wsL_law0_r8 ++ (wsL_law0_r9 ++ (wsL_law0_r10 ++ (wsL_law0_r11 ++ (wsL_law0_r12 ++ (wsL_law0_r13 ++ (wsL_law0_r14 ++ (wsL_law0_r15 ++ (wsL_law0_r16 ++ (wsL_law0_r17 ++ (wsL_law0_r18 ++ (wsL_law0_r19 ++ wsL_law0_r20))))))))))))))))))) ++ wsX60 ++ wsX20 ++ wsX10 ++ wsX30 ++ wsX40 ++ wsX00 ++ wsX50 ++ ([] : List Cond)
def wsL_law : List Cond := wsL_law0 ++ (vx_atS RX6 172 "java/lang/IndexOutOfBoundsException" ["java/lang/RuntimeException", "java/lang/Exception"]).filter goodWord ++ (vx_atS RX6 78 "java/lang/IllegalStateException" ["java/lang/RuntimeException", "java/lang/Exception"]).filter goodWord ++ (vx_atS RX6 177 "java/lang/IllegalArgumentException" ["java/lang/RuntimeException", "java/lang/Exception"]).filter goodWord
