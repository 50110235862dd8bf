/-! Base: the world's types, joins by places, method entry, calls in short. -/
abbrev vwCl : List vw_C := [(RX0, TX0, 2), (RX1, TX1, 2), (RX2, TX2, 1), (RX3, TX3, 5), (RX4, TX4, 2), (RX5, TX5, 4), (RX6, TX6, 8)]
abbrev m_ty (cY : Nat → ClassId) : List (ClassId × FieldType) := [(cY 0, .int), (cY 1, .char), (cY 2, .int), (cY 3, .object RX4), (cY 4, .object RX5)]
/-- cells put at their places -/
def m_set (ws : va_W) : List Nat → va_W → va_W
  | i :: is, q :: qs => m_set (ws.set i q) is qs
  | _, _ => ws
theorem m_set_get : ∀ (isC : List Nat) (ws w1 : va_W), va_nd isC = true → isC.length = w1.length → (∀ i ∈ isC, i < ws.length) → ∀ (k : Nat) (q : Nat × va_E), (m_set ws isC w1)[k]? = some q → (∃ j : Nat, isC[j]? = some k ∧ w1[j]? = some q) ∨ (k ∉ isC ∧ ws[k]? = some q)
  | [], ws, w1, _, _, _, k, q, h => Or.inr ⟨List.not_mem_nil, by cases w1 <;> exact h⟩
  | i :: is, ws, [], _, hl, _, k, q, h => by cases hl
  | i :: is, ws, q0 :: qs, hn, hl, hb, k, q, h => by
    simp only [va_nd, Bool.and_eq_true, decide_eq_true_eq] at hn
    have hl' : is.length = qs.length := by simpa using hl
    rcases m_set_get is (ws.set i q0) qs hn.2 hl' (fun z hz => by rw [List.length_set]; exact hb z (List.mem_cons_of_mem _ hz)) k q h with ⟨j, h1, h2⟩ | ⟨h1, h2⟩
    · exact Or.inl ⟨j + 1, by simpa using h1, by simpa using h2⟩
    · by_cases hk : k = i
      · subst hk
        have hlt := hb k (List.mem_cons_self)
        rw [List.getElem?_set_self hlt] at h2
        exact Or.inl ⟨0, by simp, by simpa using h2⟩
      · rw [List.getElem?_set_ne (Ne.symm hk)] at h2
        exact Or.inr ⟨by simp [hk, h1], h2⟩
theorem m_at {ws wc : va_W} {is : List Nat} (hs : is.map (fun i => ws[i]?) = wc.map some) {j k : Nat} (hj : is[j]? = some k) : ∃ q, wc[j]? = some q ∧ ws[k]? = some q := by
  have h1 : (is.map (fun i => ws[i]?))[j]? = some (ws[k]?) := by rw [List.getElem?_map, hj]; rfl
  rw [hs, List.getElem?_map] at h1
  cases hw : wc[j]? with
  | none => rw [hw] at h1; cases h1
  | some q => rw [hw] at h1; exact ⟨q, rfl, (Option.some.inj h1).symm⟩
theorem m_at2 {ws wc : va_W} {is : List Nat} (hs : is.map (fun i => ws[i]?) = wc.map some) {j : Nat} {q : Nat × va_E} (hj : wc[j]? = some q) : ∃ k, is[j]? = some k ∧ ws[k]? = some q := by
  have h1 : (is.map (fun i => ws[i]?))[j]? = some (some q) := by rw [hs, List.getElem?_map, hj]; rfl
  rw [List.getElem?_map] at h1
  cases hi : is[j]? with
  | none => rw [hi] at h1; cases h1
  | some i => rw [hi] at h1; exact ⟨i, rfl, Option.some.inj h1⟩
theorem m_lens {ws wc : va_W} {is : List Nat} (hs : is.map (fun i => ws[i]?) = wc.map some) : is.length = wc.length := by
  have := congrArg List.length hs
  simpa using this
/-- behind a call: the callee's cells at their places, the others as they were -/
theorem m_join {A0 : Nat → Prop} {D : va_G} {cl : List vw_C} {ws wc w1 : va_W} {H H1 : Heap} (hP : va_P D cl ws H) (hD : va_D A0 ws) (isC : List Nat) (hC : isC.map (fun i => ws[i]?) = wc.map some) (hn : va_nd isC = true)
    (hk : ∀ q : Nat, q < H.size → ¬ va_A wc H.size q → H1[q]? = H[q]?) (hP1 : va_P D cl w1 H1) (hw : w1.map Prod.fst = wc.map Prod.fst) : va_P D cl (m_set ws isC w1) H1 ∧ va_D A0 (m_set ws isC w1) := by
  have hlen : isC.length = w1.length := by
    rw [m_lens hC]
    have := congrArg List.length hw
    simpa using this.symm
  have hb : ∀ i ∈ isC, i < ws.length := by
    intro i hi
    obtain ⟨j, hj⟩ := List.getElem?_of_mem hi
    obtain ⟨q, -, h2⟩ := m_at hC hj
    exact (List.getElem?_eq_some_iff.mp h2).1
  have hfst : ∀ (j : Nat) (q : Nat × va_E), w1[j]? = some q → ∃ q0, wc[j]? = some q0 ∧ q0.1 = q.1 := by
    intro j q hq
    have h1 : (w1.map Prod.fst)[j]? = some q.1 := by rw [List.getElem?_map, hq]; rfl
    rw [hw, List.getElem?_map] at h1
    cases hc : wc[j]? with
    | none => rw [hc] at h1; cases h1
    | some q0 => rw [hc] at h1; exact ⟨q0, rfl, Option.some.inj h1⟩
  have key := m_set_get isC ws w1 hn hlen hb
  have adr : ∀ (k : Nat) (q : Nat × va_E), (m_set ws isC w1)[k]? = some q → ∃ q0, ws[k]? = some q0 ∧ q0.1 = q.1 := by
    intro k q hq
    rcases key k q hq with ⟨j, h1, h2⟩ | ⟨-, h2⟩
    · obtain ⟨q0, h3, h4⟩ := hfst j q h2
      obtain ⟨q1, h5, h6⟩ := m_at hC h1
      rw [h3] at h5
      cases h5
      exact ⟨q0, h6, h4⟩
    · exact ⟨q, h2, rfl⟩
  refine ⟨fun k q hq => ?_, fun i j x y hi hj hxy => ?_, fun k q hq => ?_⟩
  · rcases key k q hq with ⟨j, h1, h2⟩ | ⟨h1, h2⟩
    · exact hP1 j q h2
    · refine (hP k q h2).kept (hk q.1 (hP k q h2).lt fun h => ?_)
      rcases h with ⟨j, e, h⟩ | h
      · obtain ⟨i, h3, h4⟩ := m_at2 hC h
        have := hD.1 i k (q.1, e) q h4 h2 rfl
        subst this
        exact h1 (List.mem_of_getElem? h3)
      · have := (hP k q h2).lt
        omega
  · obtain ⟨x0, h1, h2⟩ := adr i x hi
    obtain ⟨y0, h3, h4⟩ := adr j y hj
    exact hD.1 i j x0 y0 h1 h3 (h2.trans (hxy.trans h4.symm))
  · obtain ⟨q0, h1, h2⟩ := adr k q hq
    rw [← h2]
    exact hD.2 k q0 h1
/-- where a method starts -/
def m_pre (D : va_G) (cY : Nat → ClassId) (sz : Nat) (ws : va_W) (U : State) : Prop := U.heap.size = sz ∧ va_P D vwCl ws U.heap ∧ va_K D vwCl (m_ty cY) U ∧ va_D (fun _ => True) ws
theorem m_blind {D : va_G} {cY : Nat → ClassId} {sz : Nat} {ws : va_W} {av : List Value} : FrameBlind (va_Pc av (m_pre D cY sz ws)) := fun a U g mk q => by
  obtain ⟨q0, q1, qP, qK, qD⟩ := q
  exact ⟨q0, q1, qP, va_K.moved (u := U) (U := U.calling g mk a) (Vm.Alike.refl U.vm) qK, qD⟩
/-- contracts: an int or boolean or char answer; no answer. u: what is told of the world behind -/
def m_Mi (l : Launch) (y : MethodName) (wsy : List Cond) (fr lo : Nat) (D : va_G) (cY : Nat → ClassId) (av : List Value) (ws : va_W) {S : Type} (post : Int32 → S → Prop) (w1 : S → va_W) : Prop :=
  ∀ sz : Nat, Met l y wsy { frames := fr, cells := 0, slots := 0, locals := lo } (va_Pc av (m_pre D cY sz ws)) (va_Qi post (fun u t => va_P D vwCl (w1 u) t.heap) (va_A ws sz)) 0 0 (va_A ws sz)
def m_Mv (l : Launch) (y : MethodName) (wsy : List Cond) (fr lo : Nat) (D : va_G) (cY : Nat → ClassId) (av : List Value) (ws : va_W) {S : Type} (post : S → Prop) (w1 : S → va_W) : Prop :=
  ∀ sz : Nat, Met l y wsy { frames := fr, cells := 0, slots := 0, locals := lo } (va_Pc av (m_pre D cY sz ws)) (va_Qv post (fun u t => va_P D vwCl (w1 u) t.heap) (va_A ws sz)) 0 0 (va_A ws sz)
/-- what stands fixed through a body -/
def m_C (p : Program) (l : Launch) (e : Env) (s : State) (m : MethodId) (av : List Value) (meth : Method) (c : Code) (cc : ByteArray) (ret : Option FieldType) (maxL : Nat) (own : String) (Ts : List Cond) (D : va_G) (cY : Nat → ClassId) (A : Nat → Prop) : Prop :=
  p.tables.exec = Jvm.exec ∧ c.code = cc ∧ meth.sig.returnType = ret ∧ c.maxLocals = maxL ∧ (∀ w ∈ Ts, w.before av.toArray s = true) ∧ s.vm.findClass own = some m.cls ∧ meth.locks = false ∧ va_K D vwCl (m_ty cY) s ∧ ∀ q : Nat, s.heap.size ≤ q → A q
theorem m_enter {l : Launch} {y : MethodName} {ws' wsy : List Cond} {rm : Room} {D : va_G} {cY : Nat → ClassId} {av : List Value} {ws : va_W} {Qc : (Nat → Prop) → Array Value → State → Outcome → State → Prop} {cc : ByteArray} {maxL mc ms sz : Nat} {ret : Option FieldType}
    (hy : plainName y.cls = true) (hw : wsy = Cond.code y cc maxL ret :: ws') (hn : (lg_sl av).length ≤ maxL)
    (body : ∀ (p : Program) (e : Env) (s : State) (m : MethodId) (below : List Frame) (meth : Method) (c : Code) (A : Nat → Prop) (ls : Array Slot), m_C p l e s m av meth c cc ret maxL y.cls wsy D cY A → meth.name = y.name → s.heap.size = sz → va_P D vwCl ws s.heap → va_D A ws → lv_has ls maxL (lv_args 0 av) →
      W p l e rm s m av.toArray below meth c s.heap [] 0 0 (MQ below (Qc A) av.toArray s mc ms A) (F0 m 0 ls [])) :
    Met l y wsy rm (va_Pc av (m_pre D cY sz ws)) (Qc (va_A ws sz)) mc ms (va_A ws sz) := by
  refine Met.ofW (cc := cc) (maxL := maxL) (ret := ret) hy hw ?_
  intro p e s m args below meth c s₁ B hml hv
  obtain ⟨rfl, hsz, hP, hK, hD0⟩ := hv
  have hts := atoms_spec (ws := wsy) B.pre
  have hl := lv_entry av (n := maxL) hn
  rw [lg_entry_eq]
  exact body p e s m below meth c (va_A ws sz) _ ⟨B.exec, B.bytes, B.returns, hml, hts, findClass_of_methodNamed B.named, B.notSynchronized, hK, fun q h => Or.inr (hsz ▸ h)⟩ (name_of_methodNamed B.named B.method).1 hsz hP hD0.self hl
theorem m_enterI {l : Launch} {y : MethodName} {ws' wsy : List Cond} {fr lo : Nat} {D : va_G} {cY : Nat → ClassId} {av : List Value} {ws : va_W} {S : Type} {post : Int32 → S → Prop} {w1 : S → va_W} {cc : ByteArray} {maxL : Nat} {ret : Option FieldType}
    (hy : plainName y.cls = true) (hw : wsy = Cond.code y cc maxL ret :: ws') (hn : (lg_sl av).length ≤ maxL)
    (body : ∀ (p : Program) (e : Env) (s : State) (m : MethodId) (below : List Frame) (meth : Method) (c : Code) (A : Nat → Prop) (ls : Array Slot), m_C p l e s m av meth c cc ret maxL y.cls wsy D cY A → va_P D vwCl ws s.heap → va_D A ws → lv_has ls maxL (lv_args 0 av) →
      W p l e { frames := fr, cells := 0, slots := 0, locals := lo } s m av.toArray below meth c s.heap [] 0 0 (MQ below (va_Qi post (fun u t => va_P D vwCl (w1 u) t.heap) A) av.toArray s 0 0 A) (F0 m 0 ls [])) :
    m_Mi l y wsy fr lo D cY av ws post w1 := fun sz => m_enter (Qc := fun A => va_Qi post (fun u t => va_P D vwCl (w1 u) t.heap) A) hy hw hn (fun p e s m below meth c A ls C0 _ _ hP hD hl => body p e s m below meth c A ls C0 hP hD hl)
theorem m_enterV {l : Launch} {y : MethodName} {ws' wsy : List Cond} {fr lo : Nat} {D : va_G} {cY : Nat → ClassId} {av : List Value} {ws : va_W} {S : Type} {post : S → Prop} {w1 : S → va_W} {cc : ByteArray} {maxL : Nat} {ret : Option FieldType}
    (hy : plainName y.cls = true) (hw : wsy = Cond.code y cc maxL ret :: ws') (hn : (lg_sl av).length ≤ maxL)
    (body : ∀ (p : Program) (e : Env) (s : State) (m : MethodId) (below : List Frame) (meth : Method) (c : Code) (A : Nat → Prop) (ls : Array Slot), m_C p l e s m av meth c cc ret maxL y.cls wsy D cY A → va_P D vwCl ws s.heap → va_D A ws → lv_has ls maxL (lv_args 0 av) →
      W p l e { frames := fr, cells := 0, slots := 0, locals := lo } s m av.toArray below meth c s.heap [] 0 0 (MQ below (va_Qv post (fun u t => va_P D vwCl (w1 u) t.heap) A) av.toArray s 0 0 A) (F0 m 0 ls [])) :
    m_Mv l y wsy fr lo D cY av ws post w1 := fun sz => m_enter (Qc := fun A => va_Qv post (fun u t => va_P D vwCl (w1 u) t.heap) A) hy hw hn (fun p e s m below meth c A ls C0 _ _ hP hD hl => body p e s m below meth c A ls C0 hP hD hl)
section MCalls
variable {p : Program} {l : Launch} {e : Env} {R : Room} {s : State} {m : MethodId} {av : List Value} {below : List Frame} {meth : Method} {c : Code} {H : Heap} {locs : List Loc} {cells slots : Nat} {Q : State → Prop}
variable {cc : ByteArray} {ret : Option FieldType} {nL : Nat} {own : String} {Ts : List Cond} {D : va_G} {cY : Nat → ClassId} {A : Nat → Prop} {pc : Nat} {ls : Array Slot} {rest : List Value} {ws : va_W} {lv : List (Nat × Value)}
variable {y : MethodName} {bytes : ByteArray} {maxL n index fr lo : Nat} {rety : Option FieldType} {wsy : List Cond} {As : List Value} {wc : va_W} {S : Type} {w1 : S → va_W} {b : Nat} {C : String}
theorem m_free {A0 : Nat → Prop} {H0 : Heap} (hD : va_D A0 ws) (hS : va_S A0 H0 H locs) (hA : ∀ q, H0.size ≤ q → A0 q) (isC : List Nat) (hC : isC.map (fun i => ws[i]?) = wc.map some) : ∀ q, va_A wc H.size q → A0 q := va_free hD hS hA isC hC
theorem m_preOf (C0 : m_C p l e s m av meth c cc ret nL own Ts D cY A) (hP : va_P D vwCl ws H) (hD : va_D A ws) (isC : List Nat) (hC : isC.map (fun i => ws[i]?) = wc.map some) (hn : va_nd isC = true) {vs : List Value} (U : State) (hU : U.heap = H) (hW : s.WarmedH U.vm) : va_Pc vs (m_pre D cY H.size wc) vs.toArray U := by
  obtain ⟨hx, hb, hr, hml, hts, hown, hlocks, hK, hA⟩ := C0
  have hPc : va_P D vwCl wc H := by
    intro k q hk
    obtain ⟨i, -, h2⟩ := m_at2 hC hk
    exact hP i q h2
  exact ⟨rfl, by rw [hU], by rw [hU]; exact hPc, va_K.moved hW.alike hK, (hD.sub isC hn hC).weaken (fun _ _ _ _ => trivial)⟩
/-- a call of a method of an object, with an int answer -/
theorem m_callVi {post : Int32 → S → Prop} (C0 : m_C p l e s m av meth c cc ret nL own Ts D cY A) (hl : lv_has ls nL lv) (hP : va_P D vwCl ws H) (hD : va_D A ws) (hS : va_S A s.heap H locs)
    (hM : m_Mi l y wsy fr lo D cY (.ref b :: As) wc post w1) (cw : CallW R s av.toArray own C index y bytes maxL rety wsy { frames := fr, cells := 0, slots := 0, locals := lo } 0 0 n) (hdg : decode cc pc = .ok (.invokevirtual index, 3))
    (isC : List Nat) (hC : isC.map (fun i => ws[i]?) = wc.map some) (hn : va_nd isC = true) (q0 : Nat) {ci : Nat} {fs : List Value} {r : vw_C} (hrc : ws[q0]? = some (b, .inr (ci, fs))) (hci : vwCl[ci]? = some r) (hr1 : r.1 = C)
    (hlen : As.length = n) (hroom : (rest.map fun v => v.category).sum ≤ 8) (hcells : cells ≤ R.cells) (hslots : slots ≤ R.slots) (hw : ∀ u, (w1 u).map Prod.fst = wc.map Prod.fst)
    (kk : ∀ (r : Int32) (u : S) (H1 : Heap) (locs1 : List Loc), post r u → va_P D vwCl (m_set ws isC (w1 u)) H1 → va_D A (m_set ws isC (w1 u)) → va_S A s.heap H1 locs1 → W p l e R s m av.toArray below meth c H1 locs1 cells slots Q (F0 m (pc + 3) ls (.int r :: rest))) :
    W p l e R s m av.toArray below meth c H locs cells slots Q (F0 m pc ls (As.reverse ++ .ref b :: rest)) := by
  obtain ⟨hx, hb, hr, hml, hts, hown, hlocks, hK, hA⟩ := id C0
  have hFc := m_free hD hS hA isC hC
  subst hr1
  refine va_calli (va_runV (As := As) (rest := rest) ⟨hx, hb, hml, hown, hts⟩ (hM H.size) cw ⟨m_blind, va_recv hK hP hci hrc, fun U hU hW => m_preOf C0 hP hD isC hC hn U hU hW⟩ rfl hlen hl.1 rfl (lv_room hroom) hdg ⟨hcells, hslots⟩) hS (fun q _ h => hFc q h) hFc (fun r u t H1 locs1 ht hvm hw1 hB hz1 hk1 hS => ?_)
  rw [ht] at hB
  obtain ⟨hP2, hD2⟩ := m_join hP hD isC hC hn hk1 hB (hw u)
  exact kk r u H1 locs1 hw1 hP2 hD2 hS
theorem m_callVv {post : S → Prop} (C0 : m_C p l e s m av meth c cc ret nL own Ts D cY A) (hl : lv_has ls nL lv) (hP : va_P D vwCl ws H) (hD : va_D A ws) (hS : va_S A s.heap H locs)
    (hM : m_Mv l y wsy fr lo D cY (.ref b :: As) wc post w1) (cw : CallW R s av.toArray own C index y bytes maxL rety wsy { frames := fr, cells := 0, slots := 0, locals := lo } 0 0 n) (hdg : decode cc pc = .ok (.invokevirtual index, 3))
    (isC : List Nat) (hC : isC.map (fun i => ws[i]?) = wc.map some) (hn : va_nd isC = true) (q0 : Nat) {ci : Nat} {fs : List Value} {r : vw_C} (hrc : ws[q0]? = some (b, .inr (ci, fs))) (hci : vwCl[ci]? = some r) (hr1 : r.1 = C)
    (hlen : As.length = n) (hroom : (rest.map fun v => v.category).sum ≤ 8) (hcells : cells ≤ R.cells) (hslots : slots ≤ R.slots) (hw : ∀ u, (w1 u).map Prod.fst = wc.map Prod.fst)
    (kk : ∀ (u : S) (H1 : Heap) (locs1 : List Loc), post u → va_P D vwCl (m_set ws isC (w1 u)) H1 → va_D A (m_set ws isC (w1 u)) → va_S A s.heap H1 locs1 → W p l e R s m av.toArray below meth c H1 locs1 cells slots Q (F0 m (pc + 3) ls rest)) :
    W p l e R s m av.toArray below meth c H locs cells slots Q (F0 m pc ls (As.reverse ++ .ref b :: rest)) := by
  obtain ⟨hx, hb, hr, hml, hts, hown, hlocks, hK, hA⟩ := id C0
  have hFc := m_free hD hS hA isC hC
  subst hr1
  refine va_callv (va_runV (As := As) (rest := rest) ⟨hx, hb, hml, hown, hts⟩ (hM H.size) cw ⟨m_blind, va_recv hK hP hci hrc, fun U hU hW => m_preOf C0 hP hD isC hC hn U hU hW⟩ rfl hlen hl.1 rfl (lv_room hroom) hdg ⟨hcells, hslots⟩) hS (fun q _ h => hFc q h) hFc (fun u t H1 locs1 ht hvm hw1 hB hz1 hk1 hS => ?_)
  rw [ht] at hB
  obtain ⟨hP2, hD2⟩ := m_join hP hD isC hC hn hk1 hB (hw u)
  exact kk u H1 locs1 hw1 hP2 hD2 hS
/-- a static call -/
theorem m_callSi {post : Int32 → S → Prop} (C0 : m_C p l e s m av meth c cc ret nL own Ts D cY A) (hl : lv_has ls nL lv) (hP : va_P D vwCl ws H) (hD : va_D A ws) (hS : va_S A s.heap H locs)
    (hM : m_Mi l y wsy fr lo D cY As wc post w1) (cw : CallB R s av.toArray own index y bytes maxL rety wsy { frames := fr, cells := 0, slots := 0, locals := lo } 0 0 n ∧ (Cond.static y).before av.toArray s = true) (hdg : decode cc pc = .ok (.invokestatic index, 3))
    (isC : List Nat) (hC : isC.map (fun i => ws[i]?) = wc.map some) (hn : va_nd isC = true)
    (hlen : As.length = n) (hroom : (rest.map fun v => v.category).sum ≤ 8) (hcells : cells ≤ R.cells) (hslots : slots ≤ R.slots) (hw : ∀ u, (w1 u).map Prod.fst = wc.map Prod.fst)
    (kk : ∀ (r : Int32) (u : S) (H1 : Heap) (locs1 : List Loc), post r u → va_P D vwCl (m_set ws isC (w1 u)) H1 → va_D A (m_set ws isC (w1 u)) → va_S A s.heap H1 locs1 → W p l e R s m av.toArray below meth c H1 locs1 cells slots Q (F0 m (pc + 3) ls (.int r :: rest))) :
    W p l e R s m av.toArray below meth c H locs cells slots Q (F0 m pc ls (As.reverse ++ rest)) := by
  obtain ⟨hx, hb, hr, hml, hts, hown, hlocks, hK, hA⟩ := id C0
  have hFc := m_free hD hS hA isC hC
  refine va_calli (va_runS (As := As) (rest := rest) ⟨hx, hb, hml, hown, hts⟩ (hM H.size) cw ⟨m_blind, fun U hU hW => m_preOf C0 hP hD isC hC hn U hU hW⟩ rfl hlen hl.1 rfl (lv_room hroom) hdg ⟨hcells, hslots⟩) hS (fun q _ h => hFc q h) hFc (fun r u t H1 locs1 ht hvm hw1 hB hz1 hk1 hS => ?_)
  rw [ht] at hB
  obtain ⟨hP2, hD2⟩ := m_join hP hD isC hC hn hk1 hB (hw u)
  exact kk r u H1 locs1 hw1 hP2 hD2 hS
theorem m_callSv {post : S → Prop} (C0 : m_C p l e s m av meth c cc ret nL own Ts D cY A) (hl : lv_has ls nL lv) (hP : va_P D vwCl ws H) (hD : va_D A ws) (hS : va_S A s.heap H locs)
    (hM : m_Mv l y wsy fr lo D cY As wc post w1) (cw : CallB R s av.toArray own index y bytes maxL rety wsy { frames := fr, cells := 0, slots := 0, locals := lo } 0 0 n ∧ (Cond.static y).before av.toArray s = true) (hdg : decode cc pc = .ok (.invokestatic index, 3))
    (isC : List Nat) (hC : isC.map (fun i => ws[i]?) = wc.map some) (hn : va_nd isC = true)
    (hlen : As.length = n) (hroom : (rest.map fun v => v.category).sum ≤ 8) (hcells : cells ≤ R.cells) (hslots : slots ≤ R.slots) (hw : ∀ u, (w1 u).map Prod.fst = wc.map Prod.fst)
    (kk : ∀ (u : S) (H1 : Heap) (locs1 : List Loc), post u → va_P D vwCl (m_set ws isC (w1 u)) H1 → va_D A (m_set ws isC (w1 u)) → va_S A s.heap H1 locs1 → W p l e R s m av.toArray below meth c H1 locs1 cells slots Q (F0 m (pc + 3) ls rest)) :
    W p l e R s m av.toArray below meth c H locs cells slots Q (F0 m pc ls (As.reverse ++ rest)) := by
  obtain ⟨hx, hb, hr, hml, hts, hown, hlocks, hK, hA⟩ := id C0
  have hFc := m_free hD hS hA isC hC
  refine va_callv (va_runS (As := As) (rest := rest) ⟨hx, hb, hml, hown, hts⟩ (hM H.size) cw ⟨m_blind, fun U hU hW => m_preOf C0 hP hD isC hC hn U hU hW⟩ rfl hlen hl.1 rfl (lv_room hroom) hdg ⟨hcells, hslots⟩) hS (fun q _ h => hFc q h) hFc (fun u t H1 locs1 ht hvm hw1 hB hz1 hk1 hS => ?_)
  rw [ht] at hB
  obtain ⟨hP2, hD2⟩ := m_join hP hD isC hC hn hk1 hB (hw u)
  exact kk u H1 locs1 hw1 hP2 hD2 hS
/-- ends -/
theorem m_iret {post : Int32 → S → Prop} {v : Int32} (C0 : m_C p l e s m av meth c cc (some .int) nL own Ts D cY A) (hS : va_S A s.heap H locs) (hdg : decode cc pc = .ok (.ireturn, 1)) (u : S) (hP : va_P D vwCl (w1 u) H) (hq : post v u) :
    W p l e R s m av.toArray below meth c H locs 0 0 (MQ below (va_Qi post (fun u t => va_P D vwCl (w1 u) t.heap) A) av.toArray s 0 0 A) (F0 m pc ls [.int v]) := by
  obtain ⟨hx, hb, hr, hml, hts, hown, hlocks, hK, hA⟩ := C0
  exact W.iret hx hb hr (fun t ht hW => ⟨⟨v, u, rfl, hq, by show va_P D vwCl (w1 u) t.heap; rw [ht]; exact hP⟩, hS.F ht⟩) hS.2.2 hdg
theorem m_zret {post : Int32 → S → Prop} {v : Int32} {ty : FieldType} (C0 : m_C p l e s m av meth c cc (some ty) nL own Ts D cY A) (hnr : narrow ty (.int v) = .int v) (hS : va_S A s.heap H locs) (hdg : decode cc pc = .ok (.ireturn, 1)) (u : S) (hP : va_P D vwCl (w1 u) H) (hq : post v u) :
    W p l e R s m av.toArray below meth c H locs 0 0 (MQ below (va_Qi post (fun u t => va_P D vwCl (w1 u) t.heap) A) av.toArray s 0 0 A) (F0 m pc ls [.int v]) := by
  obtain ⟨hx, hb, hr, hml, hts, hown, hlocks, hK, hA⟩ := C0
  exact W.zret hx hb hr hnr (fun t ht hW => ⟨⟨v, u, rfl, hq, by show va_P D vwCl (w1 u) t.heap; rw [ht]; exact hP⟩, hS.F ht⟩) hS.2.2 hdg
theorem m_vret {post : S → Prop} (C0 : m_C p l e s m av meth c cc none nL own Ts D cY A) (hS : va_S A s.heap H locs) (hdg : decode cc pc = .ok (.return_, 1)) (u : S) (hP : va_P D vwCl (w1 u) H) (hq : post u) :
    W p l e R s m av.toArray below meth c H locs 0 0 (MQ below (va_Qv post (fun u t => va_P D vwCl (w1 u) t.heap) A) av.toArray s 0 0 A) (F0 m pc ls []) := by
  obtain ⟨hx, hb, hr, hml, hts, hown, hlocks, hK, hA⟩ := C0
  exact W.vret hx hb hr (fun t ht hW => ⟨⟨u, rfl, hq, by show va_P D vwCl (w1 u) t.heap; rw [ht]; exact hP⟩, hS.F ht⟩) hS.2.2 hdg
end MCalls
