/-! Contracts of methods that make: constructors, and one that answers a new array. -/
def m_N (U : State) : Prop := (va_Nw (.methodLinkNest RX6 18 yX1_init RX6) U ∧ va_Nw (.methodLinkNest RX3 21 yX5_init RX6) U ∧ va_Nw (.methodLinkNest RX6 32 yX4_init RX6) U ∧ va_Nw (.methodLinkNest RX0 17 yX4_init RX6) U) ∧ va_AO RX4 U ∧ va_AO RX5 U
theorem m_N.to {s U : State} (h : m_N s) (hW : s.WarmedH U.vm) : m_N U := ⟨⟨va_Nw.warmM hW h.1.1, va_Nw.warmM hW h.1.2.1, va_Nw.warmM hW h.1.2.2.1, va_Nw.warmM hW h.1.2.2.2⟩, h.2.1.moved hW.alike, h.2.2.moved hW.alike⟩
def m_preN (D : va_G) (cY : Nat → ClassId) (sz : Nat) (ws : va_W) (U : State) : Prop := m_pre D cY sz ws U ∧ m_N U
theorem m_blindN {D : va_G} {cY : Nat → ClassId} {sz : Nat} {ws : va_W} {av : List Value} : FrameBlind (va_Pc av (m_preN D cY sz ws)) := fun a U g mk q => by
  obtain ⟨q0, ⟨q1, qP, qK, qD⟩, qN⟩ := q
  exact ⟨q0, ⟨q1, qP, va_K.moved (u := U) (U := U.calling g mk a) (Vm.Alike.refl U.vm) qK, qD⟩, qN.to (U := U.calling g mk a) (State.WarmedH.refl U)⟩
def m_Mc (l : Launch) (y : MethodName) (wsy : List Cond) (fr lo mc ms : Nat) (D : va_G) (cY : Nat → ClassId) (av : List Value) (ws : va_W) {S : Type} (post : S → Prop) (w1 : S → va_W) : Prop :=
  ∀ sz : Nat, Met l y wsy { frames := fr, cells := mc, slots := ms, locals := lo } (va_Pc av (m_preN D cY sz ws)) (va_Qv post (fun u t => va_P D vwCl (w1 u) t.heap ∧ va_D (va_A ws sz) (w1 u)) (va_A ws sz)) mc ms (va_A ws sz)
def m_Mr (l : Launch) (y : MethodName) (wsy : List Cond) (fr lo mc ms : Nat) (D : va_G) (cY : Nat → ClassId) (av : List Value) (ws : va_W) {S : Type} (post : S → Prop) (w1 : S → Nat → va_W) : Prop :=
  ∀ sz : Nat, Met l y wsy { frames := fr, cells := mc, slots := ms, locals := lo } (va_Pc av (m_preN D cY sz ws)) (va_Qr post (fun u a t => va_P D vwCl (w1 u a) t.heap ∧ va_D (va_A ws sz) (w1 u a)) (va_A ws sz)) mc ms (va_A ws sz)
theorem m_enterG {l : Launch} {y : MethodName} {ws' wsy : List Cond} {fr lo mc ms : Nat} {D : va_G} {cY : Nat → ClassId} {av : List Value} {ws : va_W} {Qc : (Nat → Prop) → Array Value → State → Outcome → State → Prop} {cc : ByteArray} {maxL sz : Nat} {ret : Option FieldType}
    (hy : plainName y.cls = true) (hw : wsy = Cond.code y cc maxL ret :: ws') (hn : (lg_sl av).length ≤ maxL)
    (body : ∀ (p : Program) (e : Env) (s : State) (m : MethodId) (below : List Frame) (meth : Method) (c : Code) (A : Nat → Prop) (ls : Array Slot), m_C p l e s m av meth c cc ret maxL y.cls wsy D cY A → meth.name = y.name → m_N s → va_P D vwCl ws s.heap → va_D A ws → lv_has ls maxL (lv_args 0 av) →
      W p l e { frames := fr, cells := mc, slots := ms, locals := lo } s m av.toArray below meth c s.heap [] 0 0 (MQ below (Qc A) av.toArray s mc ms A) (F0 m 0 ls [])) :
    Met l y wsy { frames := fr, cells := mc, slots := ms, locals := lo } (va_Pc av (m_preN D cY sz ws)) (Qc (va_A ws sz)) mc ms (va_A ws sz) := by
  refine Met.ofW (cc := cc) (maxL := maxL) (ret := ret) hy hw ?_
  intro p e s m args below meth c s₁ B hml hv
  obtain ⟨rfl, ⟨hsz, hP, hK, hD0⟩, hN⟩ := hv
  have hts := atoms_spec (ws := wsy) B.pre
  have hl := lv_entry av (n := maxL) hn
  rw [lg_entry_eq]
  exact body p e s m below meth c (va_A ws sz) _ ⟨B.exec, B.bytes, B.returns, hml, hts, findClass_of_methodNamed B.named, B.notSynchronized, hK, fun q h => Or.inr (hsz ▸ h)⟩ (name_of_methodNamed B.named B.method).1 hN hP hD0.self hl
theorem m_enterC {l : Launch} {y : MethodName} {ws' wsy : List Cond} {fr lo mc ms : Nat} {D : va_G} {cY : Nat → ClassId} {av : List Value} {ws : va_W} {S : Type} {post : S → Prop} {w1 : S → va_W} {cc : ByteArray} {maxL : Nat} {ret : Option FieldType}
    (hy : plainName y.cls = true) (hw : wsy = Cond.code y cc maxL ret :: ws') (hn : (lg_sl av).length ≤ maxL)
    (body : ∀ (p : Program) (e : Env) (s : State) (m : MethodId) (below : List Frame) (meth : Method) (c : Code) (A : Nat → Prop) (ls : Array Slot), m_C p l e s m av meth c cc ret maxL y.cls wsy D cY A → meth.name = y.name → m_N s → va_P D vwCl ws s.heap → va_D A ws → lv_has ls maxL (lv_args 0 av) →
      W p l e { frames := fr, cells := mc, slots := ms, locals := lo } s m av.toArray below meth c s.heap [] 0 0 (MQ below (va_Qv post (fun u t => va_P D vwCl (w1 u) t.heap ∧ va_D A (w1 u)) A) av.toArray s mc ms A) (F0 m 0 ls [])) :
    m_Mc l y wsy fr lo mc ms D cY av ws post w1 := fun _ => m_enterG (Qc := fun A => va_Qv post (fun u t => va_P D vwCl (w1 u) t.heap ∧ va_D A (w1 u)) A) hy hw hn body
theorem m_enterR {l : Launch} {y : MethodName} {ws' wsy : List Cond} {fr lo mc ms : Nat} {D : va_G} {cY : Nat → ClassId} {av : List Value} {ws : va_W} {S : Type} {post : S → Prop} {w1 : S → Nat → va_W} {cc : ByteArray} {maxL : Nat} {ret : Option FieldType}
    (hy : plainName y.cls = true) (hw : wsy = Cond.code y cc maxL ret :: ws') (hn : (lg_sl av).length ≤ maxL)
    (body : ∀ (p : Program) (e : Env) (s : State) (m : MethodId) (below : List Frame) (meth : Method) (c : Code) (A : Nat → Prop) (ls : Array Slot), m_C p l e s m av meth c cc ret maxL y.cls wsy D cY A → meth.name = y.name → m_N s → va_P D vwCl ws s.heap → va_D A ws → lv_has ls maxL (lv_args 0 av) →
      W p l e { frames := fr, cells := mc, slots := ms, locals := lo } s m av.toArray below meth c s.heap [] 0 0 (MQ below (va_Qr post (fun u a t => va_P D vwCl (w1 u a) t.heap ∧ va_D A (w1 u a)) A) av.toArray s mc ms A) (F0 m 0 ls [])) :
    m_Mr l y wsy fr lo mc ms D cY av ws post w1 := fun _ => m_enterG (Qc := fun A => va_Qr post (fun u a t => va_P D vwCl (w1 u a) t.heap ∧ va_D A (w1 u a)) A) hy hw hn body
section MMake
variable {p : Program} {l : Launch} {e : Env} {R : Room} {s : State} {m : MethodId} {av : List Value} {below : List Frame} {meth : Method} {c : Code} {H : Heap} {locs : List Loc} {cells slots : Nat} {Q : State → Prop}
variable {cc : ByteArray} {ret : Option FieldType} {nL : Nat} {own : String} {Ts : List Cond} {D : va_G} {cY : Nat → ClassId} {A : Nat → Prop} {pc : Nat} {ls : Array Slot} {rest : List Value} {ws : va_W} {lv : List (Nat × Value)}
variable {y : MethodName} {bytes : ByteArray} {maxL n index fr lo mc ms : Nat} {rety : Option FieldType} {wsy : List Cond} {As : List Value} {wc wr : va_W} {S : Type} {w1 : S → va_W} {b : Nat} {C : String}
theorem m_newI (C0 : m_C p l e s m av meth c cc ret nL own Ts D cY A) (harr : (Cond.arrayClass .int).before av.toArray s = true) (hP : va_P D vwCl ws H) (hD : va_D A ws) (hS : va_S A s.heap H locs) {k : Nat} (hk : k < 4000) (hcells : cells + 1 ≤ R.cells) (hslots : slots + k ≤ R.slots) (hdg : decode cc pc = .ok (.newarray .int, 2))
    (kk : ∀ (q : Nat) (H1 : Heap), va_P D vwCl (ws ++ [(q, .inl (cY 0, k, .inl (m_nf (fun _ => 0))))]) H1 → va_D A (ws ++ [(q, .inl (cY 0, k, .inl (m_nf (fun _ => 0))))]) → va_S A s.heap H1 locs → W p l e R s m av.toArray below meth c H1 locs (cells + 1) (slots + k) Q (F0 m (pc + 2) ls (.ref q :: rest))) :
    W p l e R s m av.toArray below meth c H locs cells slots Q (F0 m pc ls (.int (nI k) :: rest)) := by
  obtain ⟨hx, hb, hr, hml, hts, hown, hlocks, hK, hA⟩ := id C0
  refine va_newa (atype := .int) (ty := .int) (N' := k) (a0 := (k, .inl (m_nf (fun _ => 0)))) hx hb harr rfl hK hP hD hS hA (fun cA => rfl) ?_ (nI_clamp (by omega)) ?_ hcells hslots hdg (fun q cA H1 hK1 hP hD hS => ?_)
  · intro h
    have h0 : nI k < nI 0 := h
    have := (nI_ltI (a := k) (b := 0) (by omega) (by decide)).mp h0
    omega
  · show k * 4 ≤ _
    omega
  · have h1 := va_nm_int (hK1.2 5 (cA, .int) rfl).2
    have h2 := va_nm_int (hK.2 0 (cY 0, .int) rfl).2
    have e1 : cA = cY 0 := Option.some.inj (h1.symm.trans h2)
    subst e1
    exact kk q H1 hP hD hS
theorem m_newCh (C0 : m_C p l e s m av meth c cc ret nL own Ts D cY A) (harr : (Cond.arrayClass .char).before av.toArray s = true) (hP : va_P D vwCl ws H) (hD : va_D A ws) (hS : va_S A s.heap H locs) {k : Nat} (hk : k < 4000) (hcells : cells + 1 ≤ R.cells) (hslots : slots + k ≤ R.slots) (hdg : decode cc pc = .ok (.newarray .char, 2))
    (kk : ∀ (q : Nat) (H1 : Heap), va_P D vwCl (ws ++ [(q, .inl (cY 1, k, .inl (m_nf (fun _ => 0))))]) H1 → va_D A (ws ++ [(q, .inl (cY 1, k, .inl (m_nf (fun _ => 0))))]) → va_S A s.heap H1 locs → W p l e R s m av.toArray below meth c H1 locs (cells + 1) (slots + k) Q (F0 m (pc + 2) ls (.ref q :: rest))) :
    W p l e R s m av.toArray below meth c H locs cells slots Q (F0 m pc ls (.int (nI k) :: rest)) := by
  obtain ⟨hx, hb, hr, hml, hts, hown, hlocks, hK, hA⟩ := id C0
  refine va_newa (atype := .char) (ty := .char) (N' := k) (a0 := (k, .inl (m_nf (fun _ => 0)))) hx hb harr rfl hK hP hD hS hA (fun cA => rfl) ?_ (nI_clamp (by omega)) ?_ hcells hslots hdg (fun q cA H1 hK1 hP hD hS => ?_)
  · intro h
    have h0 : nI k < nI 0 := h
    have := (nI_ltI (a := k) (b := 0) (by omega) (by decide)).mp h0
    omega
  · show k * 2 ≤ _
    omega
  · have h1 := va_nm_char (hK1.2 5 (cA, .char) rfl).2
    have h2 := va_nm_char (hK.2 1 (cY 1, .char) rfl).2
    have e1 : cA = cY 1 := Option.some.inj (h1.symm.trans h2)
    subst e1
    exact kk q H1 hP hD hS
theorem m_newQ (t0 : Nat) {CC nm : String} (ht : (m_ty cY)[t0]? = some (cY t0, .object CC)) (hnm : "[" ++ (FieldType.object CC).toString = nm) (C0 : m_C p l e s m av meth c cc ret nL own Ts D cY A) (hcl : (Cond.classLink own index CC).before av.toArray s = true) (hov : va_AO CC s) (hP : va_P D vwCl ws H) (hD : va_D A ws) (hS : va_S A s.heap H locs) {k : Nat} (hk : k < 4000) (hcells : cells + 1 ≤ R.cells) (hslots : slots + k ≤ R.slots) (hdg : decode cc pc = .ok (.anewarray index, 3))
    (kk : ∀ (q : Nat) (H1 : Heap), va_P D vwCl (ws ++ [(q, .inl (cY t0, k, .inr (.inr (.inr (.inr (fun _ => none))))))]) H1 → va_D A (ws ++ [(q, .inl (cY t0, k, .inr (.inr (.inr (.inr (fun _ => none))))))]) → va_S A s.heap H1 locs → W p l e R s m av.toArray below meth c H1 locs (cells + 1) (slots + k) Q (F0 m (pc + 3) ls (.ref q :: rest))) :
    W p l e R s m av.toArray below meth c H locs cells slots Q (F0 m pc ls (.int (nI k) :: rest)) := by
  obtain ⟨hx, hb, hr, hml, hts, hown, hlocks, hK, hA⟩ := id C0
  refine va_newq (N' := k) hx hb hown hcl hov hK hP hD hS hA ?_ (nI_clamp (by omega)) (by omega) hcells hslots hdg (fun q cA H1 hK1 hP hD hS => ?_)
  · intro h
    have h0 : nI k < nI 0 := h
    have := (nI_ltI (a := k) (b := 0) (by omega) (by decide)).mp h0
    omega
  · have h1 := va_nmO (hK1.2 5 (cA, .object CC) rfl).2 hnm
    have h2 := va_nmO (hK.2 t0 (cY t0, .object CC) ht).2 hnm
    have e1 : cA = cY t0 := Option.some.inj (h1.symm.trans h2)
    subst e1
    exact kk q H1 hP hD hS
theorem m_preOfN (C0 : m_C p l e s m av meth c cc ret nL own Ts D cY A) (hN : m_N s) (hP : va_P D vwCl ws H) (hD : va_D A ws) (isC : List Nat) (hC : isC.map (fun i => ws[i]?) = wc.map some) (hn : va_nd isC = true) {vs : List Value} (U : State) (hU : U.heap = H) (hW : s.WarmedH U.vm) : va_Pc vs (m_preN D cY H.size wc) vs.toArray U := by
  obtain ⟨h0, h1⟩ := m_preOf C0 hP hD isC hC hn (vs := vs) U hU hW
  exact ⟨h0, h1, hN.to hW⟩
/-- a constructor's call -/
theorem m_callIc {post : S → Prop} (C0 : m_C p l e s m av meth c cc ret nL own Ts D cY A) (hN : m_N s) (hl : lv_has ls nL lv) (hP : va_P D vwCl ws H) (hD : va_D A ws) (hS : va_S A s.heap H locs)
    (hM : m_Mc l y wsy fr lo mc ms D cY (.ref b :: As) wc post w1) (cw : CallB R s av.toArray own index y bytes maxL none wsy { frames := fr, cells := mc, slots := ms, locals := lo } mc ms n ∧ y.name = "<init>" ∧ (Cond.instanceMethod y).before av.toArray s = true) (hdg : decode cc pc = .ok (.invokespecial index, 3))
    (isC isR : List Nat) (hC : isC.map (fun i => ws[i]?) = wc.map some) (hR : isR.map (fun i => ws[i]?) = wr.map some) (hn : va_nd isC = true) (hnR : va_nd isR = true) (hdis : ∀ i ∈ isR, i ∉ isC)
    (hlen : As.length = n) (hroom : (rest.map fun v => v.category).sum ≤ 8) (hcells : cells + mc ≤ R.cells) (hslots : slots + ms ≤ R.slots)
    (kk : ∀ (u : S) (H1 : Heap) (locs1 : List Loc), post u → va_P D vwCl (wr ++ w1 u) H1 → va_D A (wr ++ w1 u) → va_S A s.heap H1 locs1 → W p l e R s m av.toArray below meth c H1 locs1 (cells + mc) (slots + ms) Q (F0 m (pc + 3) ls rest)) :
    W p l e R s m av.toArray below meth c H locs cells slots Q (F0 m pc ls (As.reverse ++ .ref b :: rest)) := by
  obtain ⟨hx, hb, hr, hml, hts, hown, hlocks, hK, hA⟩ := id C0
  have hFc := m_free hD hS hA isC hC
  refine va_callv (va_runI (As := As) (rest := rest) ⟨hx, hb, hml, hown, hts⟩ (hM H.size) cw ⟨m_blindN, fun U hU hW => m_preOfN C0 hN hP hD isC hC hn U hU hW⟩ rfl hlen hl.1 rfl (lv_room hroom) hdg ⟨hcells, hslots⟩) hS (fun q _ h => hFc q h) hFc (fun u t H1 locs1 ht hvm hw1 hB hz1 hk1 hS => ?_)
  rw [ht] at hB
  obtain ⟨hP2, hD2⟩ := va_join hP hD isC isR hC hR hnR hdis hk1 hFc hB.1 hB.2
  exact kk u H1 locs1 hw1 hP2 hD2 hS
/-- a nest mate's private constructor -/
theorem m_callIn {post : S → Prop} {host : String} (C0 : m_C p l e s m av meth c cc ret nL own Ts D cY A) (hN : m_N s) (hl : lv_has ls nL lv) (hP : va_P D vwCl ws H) (hD : va_D A ws) (hS : va_S A s.heap H locs)
    (hM : m_Mc l y wsy fr lo mc ms D cY (.ref b :: As) wc post w1) (cw : va_CN R s av.toArray own index y host bytes maxL none wsy { frames := fr, cells := mc, slots := ms, locals := lo } mc ms n ∧ y.name = "<init>" ∧ (Cond.instanceMethod y).before av.toArray s = true) (hdg : decode cc pc = .ok (.invokespecial index, 3))
    (isC isR : List Nat) (hC : isC.map (fun i => ws[i]?) = wc.map some) (hR : isR.map (fun i => ws[i]?) = wr.map some) (hn : va_nd isC = true) (hnR : va_nd isR = true) (hdis : ∀ i ∈ isR, i ∉ isC)
    (hlen : As.length = n) (hroom : (rest.map fun v => v.category).sum ≤ 8) (hcells : cells + mc ≤ R.cells) (hslots : slots + ms ≤ R.slots)
    (kk : ∀ (u : S) (H1 : Heap) (locs1 : List Loc), post u → va_P D vwCl (wr ++ w1 u) H1 → va_D A (wr ++ w1 u) → va_S A s.heap H1 locs1 → W p l e R s m av.toArray below meth c H1 locs1 (cells + mc) (slots + ms) Q (F0 m (pc + 3) ls rest)) :
    W p l e R s m av.toArray below meth c H locs cells slots Q (F0 m pc ls (As.reverse ++ .ref b :: rest)) := by
  obtain ⟨hx, hb, hr, hml, hts, hown, hlocks, hK, hA⟩ := id C0
  have hFc := m_free hD hS hA isC hC
  refine va_callv (va_runIN (As := As) (rest := rest) ⟨hx, hb, hml, hown, hts⟩ (hM H.size) cw ⟨m_blindN, fun U hU hW => m_preOfN C0 hN hP hD isC hC hn U hU hW⟩ rfl hlen hl.1 rfl (lv_room hroom) hdg ⟨hcells, hslots⟩) hS (fun q _ h => hFc q h) hFc (fun u t H1 locs1 ht hvm hw1 hB hz1 hk1 hS => ?_)
  rw [ht] at hB
  obtain ⟨hP2, hD2⟩ := va_join hP hD isC isR hC hR hnR hdis hk1 hFc hB.1 hB.2
  exact kk u H1 locs1 hw1 hP2 hD2 hS
/-- a static call that answers a new array; its world was empty -/
theorem m_callSr {post : S → Prop} {w2 : S → Nat → va_W} (C0 : m_C p l e s m av meth c cc ret nL own Ts D cY A) (hN : m_N s) (hl : lv_has ls nL lv) (hP : va_P D vwCl ws H) (hD : va_D A ws) (hS : va_S A s.heap H locs)
    (hM : m_Mr l y wsy fr lo mc ms D cY As wc post w2) (cw : CallB R s av.toArray own index y bytes maxL rety wsy { frames := fr, cells := mc, slots := ms, locals := lo } mc ms n ∧ (Cond.static y).before av.toArray s = true) (hdg : decode cc pc = .ok (.invokestatic index, 3))
    (isC isR : List Nat) (hC : isC.map (fun i => ws[i]?) = wc.map some) (hR : isR.map (fun i => ws[i]?) = wr.map some) (hn : va_nd isC = true) (hnR : va_nd isR = true) (hdis : ∀ i ∈ isR, i ∉ isC)
    (hlen : As.length = n) (hroom : (rest.map fun v => v.category).sum ≤ 8) (hcells : cells + mc ≤ R.cells) (hslots : slots + ms ≤ R.slots)
    (kk : ∀ (u : S) (q : Nat) (H1 : Heap) (locs1 : List Loc), post u → va_P D vwCl (wr ++ w2 u q) H1 → va_D A (wr ++ w2 u q) → va_S A s.heap H1 locs1 → W p l e R s m av.toArray below meth c H1 locs1 (cells + mc) (slots + ms) Q (F0 m (pc + 3) ls (.ref q :: rest))) :
    W p l e R s m av.toArray below meth c H locs cells slots Q (F0 m pc ls (As.reverse ++ rest)) := by
  obtain ⟨hx, hb, hr, hml, hts, hown, hlocks, hK, hA⟩ := id C0
  have hFc := m_free hD hS hA isC hC
  refine va_callr (va_runS (As := As) (rest := rest) ⟨hx, hb, hml, hown, hts⟩ (hM H.size) cw ⟨m_blindN, fun U hU hW => m_preOfN C0 hN hP hD isC hC hn U hU hW⟩ rfl hlen hl.1 rfl (lv_room hroom) hdg ⟨hcells, hslots⟩) hS (fun q _ h => hFc q h) hFc (fun u q t H1 locs1 ht hvm hw1 hB hz1 hk1 hS => ?_)
  rw [ht] at hB
  obtain ⟨hP2, hD2⟩ := va_join hP hD isC isR hC hR hnR hdis hk1 hFc hB.1 hB.2
  exact kk u q H1 locs1 hw1 hP2 hD2 hS
theorem m_vretC {post : S → Prop} (C0 : m_C p l e s m av meth c cc none nL own Ts D cY A) (hS : va_S A s.heap H locs) (hdg : decode cc pc = .ok (.return_, 1)) (u : S) (hP : va_P D vwCl (w1 u) H) (hD : va_D A (w1 u)) (hq : post u) :
    W p l e R s m av.toArray below meth c H locs cells slots (MQ below (va_Qv post (fun u t => va_P D vwCl (w1 u) t.heap ∧ va_D A (w1 u)) A) av.toArray s cells slots A) (F0 m pc ls []) := by
  obtain ⟨hx, hb, hr, hml, hts, hown, hlocks, hK, hA⟩ := C0
  exact W.vret hx hb hr (fun t ht hW => ⟨⟨u, rfl, hq, by show va_P D vwCl (w1 u) t.heap; rw [ht]; exact hP, hD⟩, hS.F ht⟩) hS.2.2 hdg
theorem m_aret {post : S → Prop} {w2 : S → Nat → va_W} {q : Nat} {ty : FieldType} (C0 : m_C p l e s m av meth c cc (some ty) nL own Ts D cY A) (hty : ∃ t, ty = .array t) (hS : va_S A s.heap H locs) (hdg : decode cc pc = .ok (.areturn, 1)) (u : S) (hP : va_P D vwCl (w2 u q) H) (hD : va_D A (w2 u q)) (hq : post u) :
    W p l e R s m av.toArray below meth c H locs cells slots (MQ below (va_Qr post (fun u a t => va_P D vwCl (w2 u a) t.heap ∧ va_D A (w2 u a)) A) av.toArray s cells slots A) (F0 m pc ls [.ref q]) := by
  obtain ⟨hx, hb, hr, hml, hts, hown, hlocks, hK, hA⟩ := C0
  exact W.aret hx hb hr (Or.inr hty) (Or.inr ⟨q, rfl⟩) (fun t ht hW => ⟨⟨u, q, rfl, hq, by show va_P D vwCl (w2 u q) t.heap; rw [ht]; exact hP, hD⟩, hS.F ht⟩) hS.2.2 hdg
end MMake
theorem m_k4_of {a b c d : Nat} : va_up (va_up (va_up (va_up (fun _ => none) (nI 0).toNatClampNeg (some a)) (nI 1).toNatClampNeg (some b)) (nI 2).toNatClampNeg (some c)) (nI 3).toNatClampNeg (some d) = m_k4 a b c d := by
  rw [nI_clamp (by decide), nI_clamp (by decide), nI_clamp (by decide), nI_clamp (by decide)]
  funext j
  unfold m_k4 va_up
  split <;> rename_i h3
  · subst h3; rfl
  split <;> rename_i h2
  · subst h2; rfl
  split <;> rename_i h1
  · subst h1; rfl
  split <;> rename_i h0
  · subst h0; rfl
  rfl
def m_k15 (a0 a1 a2 a3 a4 a5 a6 a7 a8 a9 a10 a11 a12 a13 a14 : Nat) : Nat → Option Nat := fun j => [a0, a1, a2, a3, a4, a5, a6, a7, a8, a9, a10, a11, a12, a13, a14][j]?
theorem m_k15_up {xs : List Nat} {a n : Nat} (h : xs.length = n) (hn : n < 2 ^ 31) : va_up (fun j => xs[j]?) (nI n).toNatClampNeg (some a) = fun j => (xs ++ [a])[j]? := by
  rw [nI_clamp hn]
  funext j
  unfold va_up
  split
  · rename_i h1; subst h1; rw [← h]; simp
  · rename_i h1
    by_cases hj : j < xs.length
    · rw [List.getElem?_append_left hj]
    · show xs[j]? = _
      rw [List.getElem?_eq_none (by omega), List.getElem?_eq_none (by simp; omega)]
theorem m_k15_of {a0 a1 a2 a3 a4 a5 a6 a7 a8 a9 a10 a11 a12 a13 a14 : Nat} : va_up (va_up (va_up (va_up (va_up (va_up (va_up (va_up (va_up (va_up (va_up (va_up (va_up (va_up (va_up (fun _ => none) (nI 0).toNatClampNeg (some a0)) (nI 1).toNatClampNeg (some a1)) (nI 2).toNatClampNeg (some a2)) (nI 3).toNatClampNeg (some a3)) (nI 4).toNatClampNeg (some a4)) (nI 5).toNatClampNeg (some a5)) (nI 6).toNatClampNeg (some a6)) (nI 7).toNatClampNeg (some a7)) (nI 8).toNatClampNeg (some a8)) (nI 9).toNatClampNeg (some a9)) (nI 10).toNatClampNeg (some a10)) (nI 11).toNatClampNeg (some a11)) (nI 12).toNatClampNeg (some a12)) (nI 13).toNatClampNeg (some a13)) (nI 14).toNatClampNeg (some a14) = m_k15 a0 a1 a2 a3 a4 a5 a6 a7 a8 a9 a10 a11 a12 a13 a14 := by
  have h0 : (fun _ => none : Nat → Option Nat) = fun j => ([] : List Nat)[j]? := by funext j; rfl
  rw [h0, m_k15_up (xs := []) (n := 0) rfl (by decide), m_k15_up (xs := ([] ++ [a0])) (n := 1) rfl (by decide), m_k15_up (xs := (([] ++ [a0]) ++ [a1])) (n := 2) rfl (by decide), m_k15_up (xs := ((([] ++ [a0]) ++ [a1]) ++ [a2])) (n := 3) rfl (by decide), m_k15_up (xs := (((([] ++ [a0]) ++ [a1]) ++ [a2]) ++ [a3])) (n := 4) rfl (by decide), m_k15_up (xs := ((((([] ++ [a0]) ++ [a1]) ++ [a2]) ++ [a3]) ++ [a4])) (n := 5) rfl (by decide), m_k15_up (xs := (((((([] ++ [a0]) ++ [a1]) ++ [a2]) ++ [a3]) ++ [a4]) ++ [a5])) (n := 6) rfl (by decide), m_k15_up (xs := ((((((([] ++ [a0]) ++ [a1]) ++ [a2]) ++ [a3]) ++ [a4]) ++ [a5]) ++ [a6])) (n := 7) rfl (by decide), m_k15_up (xs := (((((((([] ++ [a0]) ++ [a1]) ++ [a2]) ++ [a3]) ++ [a4]) ++ [a5]) ++ [a6]) ++ [a7])) (n := 8) rfl (by decide), m_k15_up (xs := ((((((((([] ++ [a0]) ++ [a1]) ++ [a2]) ++ [a3]) ++ [a4]) ++ [a5]) ++ [a6]) ++ [a7]) ++ [a8])) (n := 9) rfl (by decide), m_k15_up (xs := (((((((((([] ++ [a0]) ++ [a1]) ++ [a2]) ++ [a3]) ++ [a4]) ++ [a5]) ++ [a6]) ++ [a7]) ++ [a8]) ++ [a9])) (n := 10) rfl (by decide), m_k15_up (xs := ((((((((((([] ++ [a0]) ++ [a1]) ++ [a2]) ++ [a3]) ++ [a4]) ++ [a5]) ++ [a6]) ++ [a7]) ++ [a8]) ++ [a9]) ++ [a10])) (n := 11) rfl (by decide), m_k15_up (xs := (((((((((((([] ++ [a0]) ++ [a1]) ++ [a2]) ++ [a3]) ++ [a4]) ++ [a5]) ++ [a6]) ++ [a7]) ++ [a8]) ++ [a9]) ++ [a10]) ++ [a11])) (n := 12) rfl (by decide), m_k15_up (xs := ((((((((((((([] ++ [a0]) ++ [a1]) ++ [a2]) ++ [a3]) ++ [a4]) ++ [a5]) ++ [a6]) ++ [a7]) ++ [a8]) ++ [a9]) ++ [a10]) ++ [a11]) ++ [a12])) (n := 13) rfl (by decide), m_k15_up (xs := (((((((((((((([] ++ [a0]) ++ [a1]) ++ [a2]) ++ [a3]) ++ [a4]) ++ [a5]) ++ [a6]) ++ [a7]) ++ [a8]) ++ [a9]) ++ [a10]) ++ [a11]) ++ [a12]) ++ [a13])) (n := 14) rfl (by decide)]
  rfl
theorem n_tb0_1 : n_tb0 1 (m_up (fun _ => 0) 0 1) := fun i j hi hj => by
  obtain rfl : i = 0 := by omega
  obtain rfl : j = 0 := by omega
  show 1 = nm (2 ^ 0) (2 ^ 0)
  exact (nm_one (by decide)).symm
