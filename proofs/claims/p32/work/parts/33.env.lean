/-! What a throwing call rests on: statics, texts, casts; contracts of calls that throw. -/
def e_IO : String := "java/lang/IndexOutOfBoundsException"
def e_IA : String := "java/lang/IllegalArgumentException"
def e_IS : String := "java/lang/IllegalStateException"
def m_dv : Nat → Value := fun j => if j = 0 then .int 3 else if j = 1 then .int 5 else if j = 2 then .int 17 else .int 257
def e_d1 : Cond := .declares (Bundle.initS "java/lang/RuntimeException")
def e_d2 : Cond := .declares (Bundle.initS "java/lang/Exception")
def e_d3 : Cond := .declares (Bundle.initS "java/lang/Throwable")
def m_E (sa : Nat → Nat) (tO : Nat) (A : Nat → Prop) (U : State) (H : Heap) : Prop :=
  vx_Zq Bundle.tN "UNASSIGNED_STACK" Bundle.steD A U H ∧ vx_Zq Bundle.tN "SUPPRESSED_SENTINEL" Bundle.listD A U H ∧
  (va_Nw (.castable e_IO e_IO) U ∧ va_Nw (.castable e_IA e_IA) U ∧ va_Nw (.castable e_IS e_IS) U) ∧ (va_Nw e_d1 U ∧ va_Nw e_d2 U ∧ va_Nw e_d3 U) ∧
  (vk_R RX6 170 "there is no such register" (sa 0) U ∧ vk_R RX6 175 "an argument is out of range" (sa 1) U ∧ vk_R RX6 76 "0 has no inverse" (sa 2) U ∧ vk_R RX6 101 "the program has 60 characters" (sa 3) U ∧
    vk_R RX6 178 "the program is not valid" (sa 4) U ∧ vk_R RX6 120 "a step traps" (sa 5) U ∧ vk_R RX6 131 "no state is recorded" (sa 6) U ∧ vk_R RX6 140 "there is no snapshot" (sa 7) U) ∧
  (va_Nc e_IA e_IO U ∧ va_Nc e_IS e_IO U) ∧
  (va_Nw (.methodLinkNest RX6 18 yX1_init RX6) U ∧ va_Nw (.methodLinkNest RX3 21 yX5_init RX6) U ∧ va_Nw (.methodLinkNest RX6 32 yX4_init RX6) U ∧ va_Nw (.methodLinkNest RX0 17 yX4_init RX6) U ∧ va_Nw (.methodLinkNest RX6 142 yX2_timesByHalves RX6) U) ∧
  va_Z "NimberField$Nimbers" "ORDER_DIVISORS" "[I" (.ref tO) A U H ∧ va_T .int tO 4 m_dv A U H
theorem m_E.to {sa : Nat → Nat} {tO : Nat} {A B : Nat → Prop} {s U : State} {H H1 : Heap} (h : m_E sa tO A s H) (hW : s.WarmedH U.vm) (hq : ∀ a : Nat, a < H.size → ¬ A a → H1[a]? = H[a]?) (hAB : ∀ q, B q → A q) : m_E sa tO B U H1 := by
  obtain ⟨h1, h2, ⟨c1, c2, c3⟩, ⟨d1, d2, d3⟩, ⟨s0, s1, s2, s3, s4, s5, s6, s7⟩, ⟨n1, n2⟩, ⟨l0, l1, l2, l3, l4⟩, hz, ht⟩ := h
  exact ⟨((h1.kept hq).moved hW.alike).narrow hAB, ((h2.kept hq).moved hW.alike).narrow hAB, ⟨va_Nw.warmC hW c1, va_Nw.warmC hW c2, va_Nw.warmC hW c3⟩, ⟨va_Nw.warmD hW d1, va_Nw.warmD hW d2, va_Nw.warmD hW d3⟩,
    ⟨s0.warm hW, s1.warm hW, s2.warm hW, s3.warm hW, s4.warm hW, s5.warm hW, s6.warm hW, s7.warm hW⟩, ⟨n1.moved hW.alike, n2.moved hW.alike⟩, ⟨va_Nw.warmM hW l0, va_Nw.warmM hW l1, va_Nw.warmM hW l2, va_Nw.warmM hW l3, va_Nw.warmM hW l4⟩, ((hz.kept hq).moved hW.alike).narrow hAB, ((ht.kept hq).moved hW.alike).narrow hAB⟩
def m_preE (D : va_G) (cY : Nat → ClassId) (sa : Nat → Nat) (tO sz : Nat) (ws : va_W) (U : State) : Prop := m_pre D cY sz ws U ∧ m_E sa tO (va_A ws sz) U U.heap
theorem m_blindE {D : va_G} {cY : Nat → ClassId} {sa : Nat → Nat} {tO sz : Nat} {ws : va_W} {av : List Value} : FrameBlind (va_Pc av (m_preE D cY sa tO sz ws)) := fun a U g mk q => by
  obtain ⟨q0, ⟨q1, qP, qK, qD⟩, qE⟩ := q
  exact ⟨q0, ⟨q1, qP, va_K.moved (u := U) (U := U.calling g mk a) (Vm.Alike.refl U.vm) qK, qD⟩, qE.to (U := U.calling g mk a) (State.WarmedH.refl U) (fun _ _ _ => rfl) (fun _ h => h)⟩
/-- a call that always throws E; the world as w1 tells -/
def m_Mx (l : Launch) (y : MethodName) (wsy : List Cond) (fr lo : Nat) (D : va_G) (cY : Nat → ClassId) (sa : Nat → Nat) (tO : Nat) (av : List Value) (ws : va_W) (E : String) {S : Type} (w1 : S → va_W) : Prop :=
  ∀ sz : Nat, vx_Met l y wsy { frames := fr, cells := 1, slots := 6, locals := lo } (va_Pc av (m_preE D cY sa tO sz ws)) (fun _ _ _ _ => False) (vx_X (fun _ : S => True) (fun E' u t => E' = E ∧ va_P D vwCl (w1 u) t.heap) (va_A ws sz)) 1 6 (va_A ws sz)
/-- calls that need the statics, and answer -/
def m_Me (l : Launch) (y : MethodName) (wsy : List Cond) (fr lo mc ms : Nat) (D : va_G) (cY : Nat → ClassId) (sa : Nat → Nat) (tO : Nat) (av : List Value) (ws : va_W) {S : Type} (post : Int32 → S → Prop) (w1 : S → va_W) : Prop :=
  ∀ sz : Nat, Met l y wsy { frames := fr, cells := mc, slots := ms, locals := lo } (va_Pc av (m_preE D cY sa tO sz ws)) (va_Qi post (fun u t => va_P D vwCl (w1 u) t.heap) (va_A ws sz)) mc ms (va_A ws sz)
theorem m_enterX {l : Launch} {y : MethodName} {ws' wsy : List Cond} {fr lo : Nat} {D : va_G} {cY : Nat → ClassId} {sa : Nat → Nat} {tO : Nat} {av : List Value} {ws : va_W} {E : String} {S : Type} {w1 : S → va_W} {cc : ByteArray} {maxL : Nat} {ret : Option FieldType}
    (hy : plainName y.cls = true) (hw : wsy = Cond.code y cc maxL ret :: ws') (hn : (lg_sl av).length ≤ maxL)
    (body : ∀ (p : Program) (e : Env) (s : State) (m : MethodId) (below : List Frame) (meth : Method) (c : Code) (A : Nat → Prop) (ls : Array Slot), m_C p l e s m av meth c cc ret maxL y.cls wsy D cY A → (∀ x ∈ c.exceptionTable.toList, False) → m_E sa tO A s s.heap → va_P D vwCl ws s.heap → va_D A ws → lv_has ls maxL (lv_args 0 av) →
      W p l e { frames := fr, cells := 1, slots := 6, locals := lo } s m av.toArray below meth c s.heap [] 0 0 (vx_MQ below (fun _ _ _ _ => False) (vx_X (fun _ : S => True) (fun E' u t => E' = E ∧ va_P D vwCl (w1 u) t.heap) A) av.toArray s 1 6 A) (F0 m 0 ls [])) :
    m_Mx l y wsy fr lo D cY sa tO av ws E w1 := by
  intro sz
  refine vx_ofW (cc := cc) (maxL := maxL) (ret := ret) hy hw ?_
  intro p e s m args below meth c s₁ B hml hnt hv
  obtain ⟨rfl, ⟨hsz, hP, hK, hD0⟩, hE⟩ := hv
  have hts := atoms_spec (ws := wsy) B.pre
  have hl := lv_entry av (n := maxL) hn
  rw [lg_entry_eq]
  exact body p e s m below meth c (va_A ws sz) _ ⟨B.exec, B.bytes, B.returns, hml, hts, findClass_of_methodNamed B.named, B.notSynchronized, hK, fun q h => Or.inr (hsz ▸ h)⟩ hnt hE hP hD0.self hl
theorem m_enterE {l : Launch} {y : MethodName} {ws' wsy : List Cond} {fr lo mc ms : Nat} {D : va_G} {cY : Nat → ClassId} {sa : Nat → Nat} {tO : Nat} {av : List Value} {ws : va_W} {S : Type} {post : Int32 → S → Prop} {w1 : S → va_W} {cc : ByteArray} {maxL : Nat} {ret : Option FieldType}
    (hy : plainName y.cls = true) (hw : wsy = Cond.code y cc maxL ret :: ws') (hn : (lg_sl av).length ≤ maxL)
    (body : ∀ (p : Program) (e : Env) (s : State) (m : MethodId) (below : List Frame) (meth : Method) (c : Code) (A : Nat → Prop) (ls : Array Slot), m_C p l e s m av meth c cc ret maxL y.cls wsy D cY A → m_E sa tO A s s.heap → va_P D vwCl ws s.heap → va_D A ws → lv_has ls maxL (lv_args 0 av) →
      W p l e { frames := fr, cells := mc, slots := ms, locals := lo } s m av.toArray below meth c s.heap [] 0 0 (MQ below (va_Qi post (fun u t => va_P D vwCl (w1 u) t.heap) A) av.toArray s mc ms A) (F0 m 0 ls [])) :
    m_Me l y wsy fr lo mc ms D cY sa tO av ws post w1 := by
  intro sz
  refine Met.ofW (cc := cc) (maxL := maxL) (ret := ret) hy hw ?_
  intro p e s m args below meth c s₁ B hml hv
  obtain ⟨rfl, ⟨hsz, hP, hK, hD0⟩, hE⟩ := hv
  have hts := atoms_spec (ws := wsy) B.pre
  have hl := lv_entry av (n := maxL) hn
  rw [lg_entry_eq]
  exact body p e s m below meth c (va_A ws sz) _ ⟨B.exec, B.bytes, B.returns, hml, hts, findClass_of_methodNamed B.named, B.notSynchronized, hK, fun q h => Or.inr (hsz ▸ h)⟩ hE hP hD0.self hl
/-- methods with a table: an int answer, plain or with the statics -/
theorem m_enterIW {l : Launch} {y : MethodName} {ws' wsy : List Cond} {fr lo : Nat} {D : va_G} {cY : Nat → ClassId} {av : List Value} {ws : va_W} {S : Type} {post : Int32 → S → Prop} {w1 : S → va_W} {cc : ByteArray} {maxL : Nat} {ret : Option FieldType} {hh : List (Nat × Nat × Nat × Nat)}
    (hy : plainName y.cls = true) (hw : wsy = Cond.codeWith y cc maxL ret hh :: ws') (hn : (lg_sl av).length ≤ maxL)
    (body : ∀ (p : Program) (e : Env) (s : State) (m : MethodId) (below : List Frame) (meth : Method) (c : Code) (A : Nat → Prop) (ls : Array Slot), m_C p l e s m av meth c cc ret maxL y.cls wsy D cY A → va_P D vwCl ws s.heap → va_D A ws → lv_has ls maxL (lv_args 0 av) →
      W p l e { frames := fr, cells := 0, slots := 0, locals := lo } s m av.toArray below meth c s.heap [] 0 0 (MQ below (va_Qi post (fun u t => va_P D vwCl (w1 u) t.heap) A) av.toArray s 0 0 A) (F0 m 0 ls [])) :
    m_Mi l y wsy fr lo D cY av ws post w1 := by
  intro sz
  refine va_MetW (cc := cc) (maxL := maxL) (ret := ret) hy hw ?_
  intro p e s m args below meth c s₁ B hml hv
  obtain ⟨rfl, hsz, hP, hK, hD0⟩ := hv
  have hts := atoms_spec (ws := wsy) B.pre
  have hl := lv_entry av (n := maxL) hn
  rw [lg_entry_eq]
  exact body p e s m below meth c (va_A ws sz) _ ⟨B.exec, B.bytes, B.returns, hml, hts, findClass_of_methodNamed B.named, B.notSynchronized, hK, fun q h => Or.inr (hsz ▸ h)⟩ hP hD0.self hl
theorem m_enterEW {l : Launch} {y : MethodName} {ws' wsy : List Cond} {fr lo mc ms : Nat} {D : va_G} {cY : Nat → ClassId} {sa : Nat → Nat} {tO : Nat} {av : List Value} {ws : va_W} {S : Type} {post : Int32 → S → Prop} {w1 : S → va_W} {cc : ByteArray} {maxL : Nat} {ret : Option FieldType} {hh : List (Nat × Nat × Nat × Nat)}
    (hy : plainName y.cls = true) (hw : wsy = Cond.codeWith y cc maxL ret hh :: ws') (hn : (lg_sl av).length ≤ maxL)
    (body : ∀ (p : Program) (e : Env) (s : State) (m : MethodId) (below : List Frame) (meth : Method) (c : Code) (A : Nat → Prop) (ls : Array Slot), m_C p l e s m av meth c cc ret maxL y.cls wsy D cY A → c.exceptionTable.toList = tableOf hh → m_E sa tO A s s.heap → va_P D vwCl ws s.heap → va_D A ws → lv_has ls maxL (lv_args 0 av) →
      W p l e { frames := fr, cells := mc, slots := ms, locals := lo } s m av.toArray below meth c s.heap [] 0 0 (MQ below (va_Qi post (fun u t => va_P D vwCl (w1 u) t.heap) A) av.toArray s mc ms A) (F0 m 0 ls [])) :
    m_Me l y wsy fr lo mc ms D cY sa tO av ws post w1 := by
  intro sz
  refine va_MetW (cc := cc) (maxL := maxL) (ret := ret) hy hw ?_
  intro p e s m args below meth c s₁ B hml hv
  obtain ⟨rfl, ⟨hsz, hP, hK, hD0⟩, hE⟩ := hv
  have hts := atoms_spec (ws := wsy) B.pre
  have hl := lv_entry av (n := maxL) hn
  rw [lg_entry_eq]
  have htb := vx_table (x := y) (hh := hh) B (hts _ (by rw [hw]; exact List.mem_cons_self))
  exact body p e s m below meth c (va_A ws sz) _ ⟨B.exec, B.bytes, B.returns, hml, hts, findClass_of_methodNamed B.named, B.notSynchronized, hK, fun q h => Or.inr (hsz ▸ h)⟩ htb hE hP hD0.self hl
section MThrow
variable {p : Program} {l : Launch} {e : Env} {R : Room} {s : State} {m : MethodId} {av : List Value} {below : List Frame} {meth : Method} {c : Code} {H : Heap} {locs : List Loc} {cells slots : Nat} {Q : State → Prop}
variable {cc : ByteArray} {ret : Option FieldType} {nL : Nat} {own : String} {Ts : List Cond} {D : va_G} {cY : Nat → ClassId} {sa : Nat → Nat} {tO : Nat} {A : Nat → Prop} {pc : Nat} {ls : Array Slot} {rest : List Value} {ws : va_W} {lv : List (Nat × Value)}
variable {y : MethodName} {bytes : ByteArray} {maxL n index fr lo : Nat} {rety : Option FieldType} {wsy : List Cond} {As : List Value} {wc : va_W} {S S2 : Type} {w1 : S → va_W} {w2 : S2 → va_W} {b : Nat} {C E : String}
theorem m_throw {ik is ic : Nat} {text : String} {k : Nat} (hfl : l.stackTraces = false) (C0 : m_C p l e s m av meth c cc ret nL own Ts D cY A) (hnt : ∀ x ∈ c.exceptionTable.toList, False) (hE : m_E sa tO A s s.heap) (hl : lv_has ls nL lv) (hP : va_P D vwCl ws H) (hS : va_S A s.heap H locs)
    (hfit : Bundle.fit E = true) (hk : (Cond.classLink own ik E).before av.toArray s = true) (hini : (Cond.initialized E).before av.toArray s = true) (hstr : vk_R own is text (sa k) s) (hcast : va_Nw (.castable E E) s)
    (hat : ∀ w ∈ (vx_atS own ic E ["java/lang/RuntimeException", "java/lang/Exception"]).filter goodWord, w ∈ Ts) (hng : ∀ w ∈ (vx_atS own ic E ["java/lang/RuntimeException", "java/lang/Exception"]).filter (fun w => !goodWord w), w ∈ [Cond.castable E E, e_d1, e_d2, e_d3])
    (hgood : ∀ w ∈ Cond.classLink own ik E :: Cond.initialized E :: vx_atS own ic E ["java/lang/RuntimeException", "java/lang/Exception"], vx_ot w = true)
    (d0 : decode cc pc = .ok (.new ik, 3)) (d3 : decode cc (pc + 3) = .ok (.dup, 1)) (d4 : decode cc (pc + 4) = .ok (.ldc is, 2)) (d6 : decode cc (pc + 6) = .ok (.invokespecial ic, 3)) (d9 : decode cc (pc + 9) = .ok (.athrow, 1))
    (hfr : 6 ≤ R.frames) (hlo : (rest.map fun v => v.category).sum + 82 ≤ R.locals) (hcl : 1 ≤ R.cells) (hsl : 6 ≤ R.slots) (u : S) (hw : ws = w1 u) :
    W p l e R s m av.toArray below meth c H locs 0 0 (vx_MQ below (fun _ _ _ _ => False) (vx_X (fun _ : S => True) (fun E' u t => E' = E ∧ va_P D vwCl (w1 u) t.heap) A) av.toArray s 1 6 A) (F0 m pc ls rest) := by
  obtain ⟨hx, hb, hr, hml, hts, hown, hlocks, hK, hA⟩ := id C0
  obtain ⟨h1, h2, -, ⟨g1, g2, g3⟩, -⟩ := id hE
  refine vx_throwS (names := ["java/lang/RuntimeException", "java/lang/Exception"]) hx hb hfl hown hfit (by decide +kernel) hk hini hstr (vx_hat (fun w hw => hts w (hat w hw)) hng (vx_c (va_Nw.use rfl hcast) (vx_c (va_Nw.use rfl g1) (vx_c (va_Nw.use rfl g2) (vx_c (va_Nw.use rfl g3) vx_n))))) hgood h1 h2 hS (by rw [hml]; exact hl.1) d0 d3 d4 d6 d9 (fun x hx => (hnt x hx).elim)
    hfr hlo hcl hsl hlocks (fun t ha hz hq => ⟨u, trivial, ⟨rfl, ?_⟩, Nat.le_trans hS.1 hz, fun q g1 g2 => (hq q (Nat.lt_of_lt_of_le g1 hS.1)).trans (hS.2.1 q g1 g2)⟩) hS.2.2 (Nat.le_refl _) (Nat.le_refl _)
  rw [← hw]
  exact hP.kept (fun k q hk => hq q.1 (hP k q hk).lt)
theorem m_preOfE (C0 : m_C p l e s m av meth c cc ret nL own Ts D cY A) (hE : m_E sa tO A s s.heap) (hP : va_P D vwCl ws H) (hD : va_D A ws) (hS : va_S A s.heap H locs) (isC : List Nat) (hC : isC.map (fun i => ws[i]?) = wc.map some) (hn : va_nd isC = true) {vs : List Value} (U : State) (hU : U.heap = H) (hW : s.WarmedH U.vm) : va_Pc vs (m_preE D cY sa tO H.size wc) vs.toArray U := by
  have hFc := m_free hD hS C0.2.2.2.2.2.2.2.2 isC hC
  obtain ⟨h0, h1⟩ := m_preOf C0 hP hD isC hC hn (vs := vs) U hU hW
  exact ⟨h0, h1, hE.to hW (fun a g1 g2 => by rw [hU]; exact hS.2.1 a g1 g2) hFc⟩
theorem m_xonly {SX : Type} {px : SX → Prop} {BX : String → SX → State → Prop} {AX A0 : Nat → Prop} {H0 : Heap} {args : Array Value} {mc ms : Nat} {free : Addr → Prop} {Qa : State → Outcome → State → Prop} {st0 : List Value} (hr : vx_Run p l e R s m args below meth c H locs cells slots mc ms (F0 m pc ls st0) rest Qa (vx_X px BX AX) free) (hno : ∀ st o t, ¬ Qa st o t) (hS : va_S A0 H0 H locs) (hf : ∀ q, free q → A0 q) (hAX : ∀ q, q < H.size → AX q → A0 q)
    (kx : ∀ (E : String) (ce : Cell) (q9 : Addr) (u : SX) (t : State) (H1 : Heap) (locs1 : List Loc), t.heap = H1 → s.vm.Alike t.vm → px u → BX E u t → H.size ≤ H1.size → (∀ q : Nat, q < H.size → ¬ AX q → H1[q]? = H[q]?) → va_S A0 H0 H1 locs1 → H1[q9]? = some ce → ce.vm = .none → s.vm.findClass E = some ce.cls → vx_W p l e R s m args below meth c H1 locs1 (cells + mc) (slots + ms) Q (F0 m pc ls rest) q9) :
    W p l e R s m args below meth c H locs cells slots Q (F0 m pc ls st0) := by
  intro T hT X
  rcases hr T hT X with ⟨v, st₀, t, T', L, h0, X', hL, e1, e2, hq, st⟩ | ⟨q, st₀, t, T', L, E, ce, h0, X', hL, e1, e2, ⟨u, hp, hb, hF⟩, hce, hcv, hcl, st⟩
  · exact (hno _ _ _ hq).elim
  · obtain ⟨k1, k2, k3⟩ := vx_keep h0 e1 hS hAX hf hL hF
    obtain ⟨t2, a1, b1⟩ := kx E ce q u t T'.heap (locs ++ L) e1.symm (by rw [← e2]; exact X'.warmed.alike) hp hb k1 k2 k3 (by rw [e1]; exact hce) hcv hcl T' rfl X'
    exact ⟨t2, st.trans a1, b1⟩
/-- a static call that always throws, not caught here -/
theorem m_callSx (C0 : m_C p l e s m av meth c cc ret nL own Ts D cY A) (hnt : ∀ x ∈ c.exceptionTable.toList, False) (hE : m_E sa tO A s s.heap) (hl : lv_has ls nL lv) (hP : va_P D vwCl ws H) (hD : va_D A ws) (hS : va_S A s.heap H locs)
    (hM : m_Mx l y wsy fr lo D cY sa tO As wc E w2) (cw : CallB R s av.toArray own index y bytes maxL rety wsy { frames := fr, cells := 1, slots := 6, locals := lo } 1 6 n ∧ (Cond.static y).before av.toArray s = true) (hdg : decode cc pc = .ok (.invokestatic index, 3))
    (isC : List Nat) (hC : isC.map (fun i => ws[i]?) = wc.map some) (hn : va_nd isC = true)
    (hlen : As.length = n) (hroom : (rest.map fun v => v.category).sum ≤ 8) (hcells : 1 ≤ R.cells) (hslots : 6 ≤ R.slots) (hw : ∀ u, (w2 u).map Prod.fst = wc.map Prod.fst) (hww : ∀ u, ∃ v, m_set ws isC (w2 u) = w1 v) :
    W p l e R s m av.toArray below meth c H locs 0 0 (vx_MQ below (fun _ _ _ _ => False) (vx_X (fun _ : S => True) (fun E' u t => E' = E ∧ va_P D vwCl (w1 u) t.heap) A) av.toArray s 1 6 A) (F0 m pc ls (As.reverse ++ rest)) := by
  obtain ⟨hx, hb, hr, hml, hts, hown, hlocks, hK, hA⟩ := id C0
  have hFc := m_free hD hS hA isC hC
  refine m_xonly (vx_runS (As := As) (rest := rest) ⟨hx, hb, hml, hown, hts⟩ (hM H.size) cw ⟨m_blindE, fun U hU hW => m_preOfE C0 hE hP hD hS isC hC hn U hU hW⟩ rfl hlen hl.1 rfl (lv_room hroom) hdg ⟨by omega, by omega⟩) (fun _ _ _ h => h) hS hFc (fun q _ h => hFc q h) (fun E9 ce q9 u t H1 locs1 ht hvm _ hB hz1 hk1 hS1 hce hcv hcl => ?_)
  obtain ⟨rfl, hB⟩ := hB
  rw [ht] at hB
  obtain ⟨hP2, hD2⟩ := m_join hP hD isC hC hn hk1 hB (hw u)
  obtain ⟨v, hv⟩ := hww u
  exact vx_out (fun x hx => (hnt x hx).elim) hlocks hce hcv hcl (fun t2 g1 g2 => ⟨v, trivial, ⟨rfl, by rw [g1, ← hv]; exact hP2⟩, hS1.F g1⟩) hS1.2.2 (Nat.le_refl _) (Nat.le_refl _)
theorem m_callVx (C0 : m_C p l e s m av meth c cc ret nL own Ts D cY A) (hnt : ∀ x ∈ c.exceptionTable.toList, False) (hE : m_E sa tO A s s.heap) (hl : lv_has ls nL lv) (hP : va_P D vwCl ws H) (hD : va_D A ws) (hS : va_S A s.heap H locs)
    (hM : m_Mx l y wsy fr lo D cY sa tO (.ref b :: As) wc E w2) (cw : CallW R s av.toArray own C index y bytes maxL rety wsy { frames := fr, cells := 1, slots := 6, locals := lo } 1 6 n) (hdg : decode cc pc = .ok (.invokevirtual index, 3))
    (isC : List Nat) (hC : isC.map (fun i => ws[i]?) = wc.map some) (hn : va_nd isC = true) (q0 : Nat) {ci : Nat} {fs : List Value} {r : vw_C} (hrc : ws[q0]? = some (b, .inr (ci, fs))) (hci : vwCl[ci]? = some r) (hr1 : r.1 = C)
    (hlen : As.length = n) (hroom : (rest.map fun v => v.category).sum ≤ 8) (hcells : 1 ≤ R.cells) (hslots : 6 ≤ R.slots) (hw : ∀ u, (w2 u).map Prod.fst = wc.map Prod.fst) (hww : ∀ u, ∃ v, m_set ws isC (w2 u) = w1 v) :
    W p l e R s m av.toArray below meth c H locs 0 0 (vx_MQ below (fun _ _ _ _ => False) (vx_X (fun _ : S => True) (fun E' u t => E' = E ∧ va_P D vwCl (w1 u) t.heap) A) av.toArray s 1 6 A) (F0 m pc ls (As.reverse ++ .ref b :: rest)) := by
  obtain ⟨hx, hb, hr, hml, hts, hown, hlocks, hK, hA⟩ := id C0
  have hFc := m_free hD hS hA isC hC
  subst hr1
  refine m_xonly (vx_runV (As := As) (rest := rest) ⟨hx, hb, hml, hown, hts⟩ (hM H.size) cw ⟨m_blindE, va_recv hK hP hci hrc, fun U hU hW => m_preOfE C0 hE hP hD hS isC hC hn U hU hW⟩ rfl hlen hl.1 rfl (lv_room hroom) hdg ⟨by omega, by omega⟩) (fun _ _ _ h => h) hS hFc (fun q _ h => hFc q h) (fun E9 ce q9 u t H1 locs1 ht hvm _ hB hz1 hk1 hS1 hce hcv hcl => ?_)
  obtain ⟨rfl, hB⟩ := hB
  rw [ht] at hB
  obtain ⟨hP2, hD2⟩ := m_join hP hD isC hC hn hk1 hB (hw u)
  obtain ⟨v, hv⟩ := hww u
  exact vx_out (fun x hx => (hnt x hx).elim) hlocks hce hcv hcl (fun t2 g1 g2 => ⟨v, trivial, ⟨rfl, by rw [g1, ← hv]; exact hP2⟩, hS1.F g1⟩) hS1.2.2 (Nat.le_refl _) (Nat.le_refl _)
/-- a call that always throws, caught by this method's table -/
theorem m_callVc {hh : List (Nat × Nat × Nat × Nat)} (C0 : m_C p l e s m av meth c cc ret nL own Ts D cY A) (htb : c.exceptionTable.toList = tableOf hh) (hE : m_E sa tO A s s.heap) (hl : lv_has ls nL lv) (hP : va_P D vwCl ws H) (hD : va_D A ws) (hS : va_S A s.heap H locs)
    (hM : m_Mx l y wsy fr lo D cY sa tO (.ref b :: As) wc E w2) (cw : CallW R s av.toArray own C index y bytes maxL rety wsy { frames := fr, cells := 1, slots := 6, locals := lo } 1 6 n) (hdg : decode cc pc = .ok (.invokevirtual index, 3))
    (isC : List Nat) (hC : isC.map (fun i => ws[i]?) = wc.map some) (hn : va_nd isC = true) (q0 : Nat) {ci : Nat} {fs : List Value} {r : vw_C} (hrc : ws[q0]? = some (b, .inr (ci, fs))) (hci : vwCl[ci]? = some r) (hr1 : r.1 = C)
    (hlen : As.length = n) (hroom : (rest.map fun v => v.category).sum ≤ 8) (hcells : 1 ≤ R.cells) (hslots : 6 ≤ R.slots) (hw : ∀ u, (w2 u).map Prod.fst = wc.map Prod.fst)
    (pre : List ExceptionTableEntry) (x : ExceptionTableEntry) (suf : List ExceptionTableEntry) (hsplit : tableOf hh = pre ++ x :: suf)
    (hpass : ∀ z ∈ pre, covers z pc = false ∨ (z.catchType ≠ 0 ∧ ∃ nm : String, (Cond.classLink own z.catchType nm).before av.toArray s = true ∧ va_Nc E nm s)) (hcov : covers x pc = true) (hx0 : x.catchType ≠ 0)
    (hlink : (Cond.classLink own x.catchType E).before av.toArray s = true) (hcast : va_Nw (.castable E E) s)
    (kk : ∀ (q9 : Nat) (u : S2) (H1 : Heap) (locs1 : List Loc), va_P D vwCl (m_set ws isC (w2 u)) H1 → va_D A (m_set ws isC (w2 u)) → va_S A s.heap H1 locs1 → W p l e R s m av.toArray below meth c H1 locs1 1 6 Q (F0 m x.handlerPc ls [.ref q9])) :
    W p l e R s m av.toArray below meth c H locs 0 0 Q (F0 m pc ls (As.reverse ++ .ref b :: rest)) := by
  obtain ⟨hx, hb, hr, hml, hts, hown, hlocks, hK, hA⟩ := id C0
  have hFc := m_free hD hS hA isC hC
  subst hr1
  refine m_xonly (vx_runV (As := As) (rest := rest) ⟨hx, hb, hml, hown, hts⟩ (hM H.size) cw ⟨m_blindE, va_recv hK hP hci hrc, fun U hU hW => m_preOfE C0 hE hP hD hS isC hC hn U hU hW⟩ rfl hlen hl.1 rfl (lv_room hroom) hdg ⟨by omega, by omega⟩) (fun _ _ _ h => h) hS hFc (fun q _ h => hFc q h) (fun E9 ce q9 u t H1 locs1 ht hvm _ hB hz1 hk1 hS1 hce hcv hcl => ?_)
  obtain ⟨rfl, hB⟩ := hB
  rw [ht] at hB
  obtain ⟨hP2, hD2⟩ := m_join hP hD isC hC hn hk1 hB (hw u)
  exact vx_catch hown pre x suf (htb.trans hsplit) hpass hcov hx0 hlink (va_Nw.use rfl hcast) hce hcv hcl (kk q9 u H1 locs1 hP2 hD2 hS1)
theorem m_iretC {post : Int32 → S → Prop} {v : Int32} (C0 : m_C p l e s m av meth c cc (some .int) nL own Ts D cY A) (hS : va_S A s.heap H locs) (hdg : decode cc pc = .ok (.ireturn, 1)) (u : S) (hP : va_P D vwCl (w1 u) H) (hq : post v u) :
    W p l e R s m av.toArray below meth c H locs cells slots (MQ below (va_Qi post (fun u t => va_P D vwCl (w1 u) t.heap) A) av.toArray s cells slots A) (F0 m pc ls [.int v]) := by
  obtain ⟨hx, hb, hr, hml, hts, hown, hlocks, hK, hA⟩ := C0
  exact W.iret hx hb hr (fun t ht hW => ⟨⟨v, u, rfl, hq, by show va_P D vwCl (w1 u) t.heap; rw [ht]; exact hP⟩, hS.F ht⟩) hS.2.2 hdg
/-- a static call of a nest mate's private method -/
theorem m_callNi {post : Int32 → S → Prop} {host : String} (C0 : m_C p l e s m av meth c cc ret nL own Ts D cY A) (hl : lv_has ls nL lv) (hP : va_P D vwCl ws H) (hD : va_D A ws) (hS : va_S A s.heap H locs)
    (hM : m_Mi l y wsy fr lo D cY As wc post w1) (cw : va_CN R s av.toArray own index y host bytes maxL rety wsy { frames := fr, cells := 0, slots := 0, locals := lo } 0 0 n ∧ (Cond.static y).before av.toArray s = true ∧ True) (hdg : decode cc pc = .ok (.invokestatic index, 3))
    (isC : List Nat) (hC : isC.map (fun i => ws[i]?) = wc.map some) (hn : va_nd isC = true)
    (hlen : As.length = n) (hroom : (rest.map fun v => v.category).sum ≤ 8) (hcells : cells ≤ R.cells) (hslots : slots ≤ R.slots) (hw : ∀ u, (w1 u).map Prod.fst = wc.map Prod.fst)
    (kk : ∀ (r : Int32) (u : S) (H1 : Heap) (locs1 : List Loc), post r u → va_P D vwCl (m_set ws isC (w1 u)) H1 → va_D A (m_set ws isC (w1 u)) → va_S A s.heap H1 locs1 → W p l e R s m av.toArray below meth c H1 locs1 cells slots Q (F0 m (pc + 3) ls (.int r :: rest))) :
    W p l e R s m av.toArray below meth c H locs cells slots Q (F0 m pc ls (As.reverse ++ rest)) := by
  obtain ⟨hx, hb, hr, hml, hts, hown, hlocks, hK, hA⟩ := id C0
  have hFc := m_free hD hS hA isC hC
  refine va_calli (va_runSN (As := As) (rest := rest) ⟨hx, hb, hml, hown, hts⟩ (hM H.size) cw ⟨m_blind, fun U hU hW => m_preOf C0 hP hD isC hC hn U hU hW⟩ rfl hlen hl.1 rfl (lv_room hroom) hdg ⟨hcells, hslots⟩) hS (fun q _ h => hFc q h) hFc (fun r u t H1 locs1 ht hvm hw1 hB hz1 hk1 hS => ?_)
  rw [ht] at hB
  obtain ⟨hP2, hD2⟩ := m_join hP hD isC hC hn hk1 hB (hw u)
  exact kk r u H1 locs1 hw1 hP2 hD2 hS
/-- a call of a method that needs the statics, and answers -/
theorem m_callVe {post : Int32 → S → Prop} (C0 : m_C p l e s m av meth c cc ret nL own Ts D cY A) (hE : m_E sa tO A s s.heap) (hl : lv_has ls nL lv) (hP : va_P D vwCl ws H) (hD : va_D A ws) (hS : va_S A s.heap H locs)
    (hM : m_Me l y wsy fr lo 0 0 D cY sa tO (.ref b :: As) wc post w1) (cw : CallW R s av.toArray own C index y bytes maxL rety wsy { frames := fr, cells := 0, slots := 0, locals := lo } 0 0 n) (hdg : decode cc pc = .ok (.invokevirtual index, 3))
    (isC : List Nat) (hC : isC.map (fun i => ws[i]?) = wc.map some) (hn : va_nd isC = true) (q0 : Nat) {ci : Nat} {fs : List Value} {r : vw_C} (hrc : ws[q0]? = some (b, .inr (ci, fs))) (hci : vwCl[ci]? = some r) (hr1 : r.1 = C)
    (hlen : As.length = n) (hroom : (rest.map fun v => v.category).sum ≤ 8) (hcells : cells ≤ R.cells) (hslots : slots ≤ R.slots) (hw : ∀ u, (w1 u).map Prod.fst = wc.map Prod.fst)
    (kk : ∀ (r : Int32) (u : S) (H1 : Heap) (locs1 : List Loc), post r u → va_P D vwCl (m_set ws isC (w1 u)) H1 → va_D A (m_set ws isC (w1 u)) → va_S A s.heap H1 locs1 → W p l e R s m av.toArray below meth c H1 locs1 cells slots Q (F0 m (pc + 3) ls (.int r :: rest))) :
    W p l e R s m av.toArray below meth c H locs cells slots Q (F0 m pc ls (As.reverse ++ .ref b :: rest)) := by
  obtain ⟨hx, hb, hr, hml, hts, hown, hlocks, hK, hA⟩ := id C0
  have hFc := m_free hD hS hA isC hC
  subst hr1
  refine va_calli (va_runV (As := As) (rest := rest) ⟨hx, hb, hml, hown, hts⟩ (hM H.size) cw ⟨m_blindE, va_recv hK hP hci hrc, fun U hU hW => m_preOfE C0 hE hP hD hS isC hC hn U hU hW⟩ rfl hlen hl.1 rfl (lv_room hroom) hdg ⟨hcells, hslots⟩) hS (fun q _ h => hFc q h) hFc (fun r u t H1 locs1 ht hvm hw1 hB hz1 hk1 hS => ?_)
  rw [ht] at hB
  obtain ⟨hP2, hD2⟩ := m_join hP hD isC hC hn hk1 hB (hw u)
  exact kk r u H1 locs1 hw1 hP2 hD2 hS
variable {X pl cx : va_W} {x2 pl2 : S2 → va_W}
theorem m_callPv {post : S2 → Prop} (C0 : m_C p l e s m av meth c cc ret nL own Ts D cY A) (hl : lv_has ls nL lv) (hP : va_P D vwCl (X ++ pl) H) (hD : va_D A (X ++ pl)) (hS : va_S A s.heap H locs)
    (hM : m_Mv l y wsy fr lo D cY (.ref b :: As) (cx ++ pl) post (fun u => x2 u ++ pl2 u)) (cw : CallW R s av.toArray own C index y bytes maxL rety wsy { frames := fr, cells := 0, slots := 0, locals := lo } 0 0 n) (hdg : decode cc pc = .ok (.invokevirtual index, 3))
    (isC : List Nat) (hC : isC.map (fun i => X[i]?) = cx.map some) (hn : va_nd isC = true) (q0 : Nat) {ci : Nat} {fs : List Value} {r : vw_C} (hrc : (X ++ pl)[q0]? = some (b, .inr (ci, fs))) (hci : vwCl[ci]? = some r) (hr1 : r.1 = C)
    (hlen : As.length = n) (hroom : (rest.map fun v => v.category).sum ≤ 8) (hcells : cells ≤ R.cells) (hslots : slots ≤ R.slots) (hw : ∀ u, (x2 u).map Prod.fst = cx.map Prod.fst) (hw2 : ∀ u, (pl2 u).map Prod.fst = pl.map Prod.fst)
    (kk : ∀ (u : S2) (H1 : Heap) (locs1 : List Loc), post u → va_P D vwCl (m_set X isC (x2 u) ++ pl2 u) H1 → va_D A (m_set X isC (x2 u) ++ pl2 u) → va_S A s.heap H1 locs1 → W p l e R s m av.toArray below meth c H1 locs1 cells slots Q (F0 m (pc + 3) ls rest)) :
    W p l e R s m av.toArray below meth c H locs cells slots Q (F0 m pc ls (As.reverse ++ .ref b :: rest)) := by
  obtain ⟨hx, hb, hr, hml, hts, hown, hlocks, hK, hA⟩ := id C0
  have hFc := va_freeP hD hS hA isC hC
  subst hr1
  refine va_callv (va_runV (As := As) (rest := rest) ⟨hx, hb, hml, hown, hts⟩ (hM H.size) cw ⟨m_blind, va_recv hK hP hci hrc, fun U hU hW => m_preOfP C0 hP hD isC hC hn U hU hW⟩ rfl hlen hl.1 rfl (lv_room hroom) hdg ⟨hcells, hslots⟩) hS (fun q _ h => hFc q h) hFc (fun u t H1 locs1 ht hvm hw1 hB hz1 hk1 hS => ?_)
  rw [ht] at hB
  obtain ⟨hP2, hD2⟩ := m_joinP hP hD isC hC hn hk1 hB (hw u) (hw2 u)
  exact kk u H1 locs1 hw1 hP2 hD2 hS
theorem m_preOfEP (C0 : m_C p l e s m av meth c cc ret nL own Ts D cY A) (hE : m_E sa tO A s s.heap) (hP : va_P D vwCl (X ++ pl) H) (hD : va_D A (X ++ pl)) (hS : va_S A s.heap H locs) (isC : List Nat) (hC : isC.map (fun i => X[i]?) = cx.map some) (hn : va_nd isC = true) {vs : List Value} (U : State) (hU : U.heap = H) (hW : s.WarmedH U.vm) : va_Pc vs (m_preE D cY sa tO H.size (cx ++ pl)) vs.toArray U := by
  have hFc := va_freeP hD hS C0.2.2.2.2.2.2.2.2 isC hC
  obtain ⟨h0, h1⟩ := m_preOfP C0 hP hD isC hC hn (vs := vs) U hU hW
  exact ⟨h0, h1, hE.to hW (fun a g1 g2 => by rw [hU]; exact hS.2.1 a g1 g2) hFc⟩
theorem m_callPx (C0 : m_C p l e s m av meth c cc ret nL own Ts D cY A) (hnt : ∀ x ∈ c.exceptionTable.toList, False) (hE : m_E sa tO A s s.heap) (hl : lv_has ls nL lv) (hP : va_P D vwCl (X ++ pl) H) (hD : va_D A (X ++ pl)) (hS : va_S A s.heap H locs)
    (hM : m_Mx l y wsy fr lo D cY sa tO (.ref b :: As) (cx ++ pl) E (fun u => x2 u ++ pl2 u)) (cw : CallW R s av.toArray own C index y bytes maxL rety wsy { frames := fr, cells := 1, slots := 6, locals := lo } 1 6 n) (hdg : decode cc pc = .ok (.invokevirtual index, 3))
    (isC : List Nat) (hC : isC.map (fun i => X[i]?) = cx.map some) (hn : va_nd isC = true) (q0 : Nat) {ci : Nat} {fs : List Value} {r : vw_C} (hrc : (X ++ pl)[q0]? = some (b, .inr (ci, fs))) (hci : vwCl[ci]? = some r) (hr1 : r.1 = C)
    (hlen : As.length = n) (hroom : (rest.map fun v => v.category).sum ≤ 8) (hcells : 1 ≤ R.cells) (hslots : 6 ≤ R.slots) (hw : ∀ u, (x2 u).map Prod.fst = cx.map Prod.fst) (hw2 : ∀ u, (pl2 u).map Prod.fst = pl.map Prod.fst) (hww : ∀ u, ∃ v, m_set X isC (x2 u) ++ pl2 u = w1 v) :
    W p l e R s m av.toArray below meth c H locs 0 0 (vx_MQ below (fun _ _ _ _ => False) (vx_X (fun _ : S => True) (fun E' u t => E' = E ∧ va_P D vwCl (w1 u) t.heap) A) av.toArray s 1 6 A) (F0 m pc ls (As.reverse ++ .ref b :: rest)) := by
  obtain ⟨hx, hb, hr, hml, hts, hown, hlocks, hK, hA⟩ := id C0
  have hFc := va_freeP hD hS hA isC hC
  subst hr1
  refine m_xonly (vx_runV (As := As) (rest := rest) ⟨hx, hb, hml, hown, hts⟩ (hM H.size) cw ⟨m_blindE, va_recv hK hP hci hrc, fun U hU hW => m_preOfEP C0 hE hP hD hS isC hC hn U hU hW⟩ rfl hlen hl.1 rfl (lv_room hroom) hdg ⟨by omega, by omega⟩) (fun _ _ _ h => h) hS hFc (fun q _ h => hFc q h) (fun E9 ce q9 u t H1 locs1 ht hvm _ hB hz1 hk1 hS1 hce hcv hcl => ?_)
  obtain ⟨rfl, hB⟩ := hB
  rw [ht] at hB
  obtain ⟨hP2, hD2⟩ := m_joinP hP hD isC hC hn hk1 hB (hw u) (hw2 u)
  obtain ⟨v, hv⟩ := hww u
  exact vx_out (fun x hx => (hnt x hx).elim) hlocks hce hcv hcl (fun t2 g1 g2 => ⟨v, trivial, ⟨rfl, by rw [g1, ← hv]; exact hP2⟩, hS1.F g1⟩) hS1.2.2 (Nat.le_refl _) (Nat.le_refl _)
theorem m_callPc {hh : List (Nat × Nat × Nat × Nat)} (C0 : m_C p l e s m av meth c cc ret nL own Ts D cY A) (htb : c.exceptionTable.toList = tableOf hh) (hE : m_E sa tO A s s.heap) (hl : lv_has ls nL lv) (hP : va_P D vwCl (X ++ pl) H) (hD : va_D A (X ++ pl)) (hS : va_S A s.heap H locs)
    (hM : m_Mx l y wsy fr lo D cY sa tO (.ref b :: As) (cx ++ pl) E (fun u => x2 u ++ pl2 u)) (cw : CallW R s av.toArray own C index y bytes maxL rety wsy { frames := fr, cells := 1, slots := 6, locals := lo } 1 6 n) (hdg : decode cc pc = .ok (.invokevirtual index, 3))
    (isC : List Nat) (hC : isC.map (fun i => X[i]?) = cx.map some) (hn : va_nd isC = true) (q0 : Nat) {ci : Nat} {fs : List Value} {r : vw_C} (hrc : (X ++ pl)[q0]? = some (b, .inr (ci, fs))) (hci : vwCl[ci]? = some r) (hr1 : r.1 = C)
    (hlen : As.length = n) (hroom : (rest.map fun v => v.category).sum ≤ 8) (hcells : 1 ≤ R.cells) (hslots : 6 ≤ R.slots) (hw : ∀ u, (x2 u).map Prod.fst = cx.map Prod.fst) (hw2 : ∀ u, (pl2 u).map Prod.fst = pl.map Prod.fst)
    (pre : List ExceptionTableEntry) (x : ExceptionTableEntry) (suf : List ExceptionTableEntry) (hsplit : tableOf hh = pre ++ x :: suf)
    (hpass : ∀ z ∈ pre, covers z pc = false ∨ (z.catchType ≠ 0 ∧ ∃ nm : String, (Cond.classLink own z.catchType nm).before av.toArray s = true ∧ va_Nc E nm s)) (hcov : covers x pc = true) (hx0 : x.catchType ≠ 0)
    (hlink : (Cond.classLink own x.catchType E).before av.toArray s = true) (hcast : va_Nw (.castable E E) s)
    (kk : ∀ (q9 : Nat) (u : S2) (H1 : Heap) (locs1 : List Loc), va_P D vwCl (m_set X isC (x2 u) ++ pl2 u) H1 → va_D A (m_set X isC (x2 u) ++ pl2 u) → va_S A s.heap H1 locs1 → W p l e R s m av.toArray below meth c H1 locs1 1 6 Q (F0 m x.handlerPc ls [.ref q9])) :
    W p l e R s m av.toArray below meth c H locs 0 0 Q (F0 m pc ls (As.reverse ++ .ref b :: rest)) := by
  obtain ⟨hx, hb, hr, hml, hts, hown, hlocks, hK, hA⟩ := id C0
  have hFc := va_freeP hD hS hA isC hC
  subst hr1
  refine m_xonly (vx_runV (As := As) (rest := rest) ⟨hx, hb, hml, hown, hts⟩ (hM H.size) cw ⟨m_blindE, va_recv hK hP hci hrc, fun U hU hW => m_preOfEP C0 hE hP hD hS isC hC hn U hU hW⟩ rfl hlen hl.1 rfl (lv_room hroom) hdg ⟨by omega, by omega⟩) (fun _ _ _ h => h) hS hFc (fun q _ h => hFc q h) (fun E9 ce q9 u t H1 locs1 ht hvm _ hB hz1 hk1 hS1 hce hcv hcl => ?_)
  obtain ⟨rfl, hB⟩ := hB
  rw [ht] at hB
  obtain ⟨hP2, hD2⟩ := m_joinP hP hD isC hC hn hk1 hB (hw u) (hw2 u)
  exact vx_catch hown pre x suf (htb.trans hsplit) hpass hcov hx0 hlink (va_Nw.use rfl hcast) hce hcv hcl (kk q9 u H1 locs1 hP2 hD2 hS1)
end MThrow
