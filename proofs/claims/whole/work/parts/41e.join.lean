/-! A call whose cells come back behind the rest. -/
theorem m_Dfst {A : Nat → Prop} {wc w1 : va_W} (hD : va_D A wc) (hw : w1.map Prod.fst = wc.map Prod.fst) : va_D A w1 := by
  refine ⟨fun i j x y hi hj hxy => ?_, fun k q hq => ?_⟩
  · obtain ⟨x0, h1, h2⟩ := m_fst hw hi
    obtain ⟨y0, h3, h4⟩ := m_fst hw hj
    exact hD.1 i j x0 y0 h1 h3 (h2.trans (hxy.trans h4.symm))
  · obtain ⟨q0, h1, h2⟩ := m_fst hw hq
    rw [← h2]
    exact hD.2 k q0 h1
theorem m_callVj {p : Program} {l : Launch} {e : Env} {R : Room} {s : State} {m : MethodId} {av : List Value} {below : List Frame} {meth : Method} {c : Code} {H : Heap} {locs : List Loc} {cells slots : Nat} {Q : State → Prop} {cc : ByteArray} {ret : Option FieldType} {nL : Nat} {own : String} {Ts : List Cond} {D : va_G} {cY : Nat → ClassId} {A : Nat → Prop} {pc : Nat} {ls : Array Slot} {rest : List Value} {ws : va_W} {lv : List (Nat × Value)} {y : MethodName} {bytes : ByteArray} {maxL n index fr lo : Nat} {rety : Option FieldType} {wsy : List Cond} {As : List Value} {wc wr : va_W} {S : Type} {w1 : S → va_W} {b : Nat} {C : String}
    {post : Int32 → S → Prop} (C0 : m_C p l e s m av meth c cc ret nL own Ts D cY A) (hl : lv_has ls nL lv) (hP : va_P D vwCl ws H) (hD : va_D A ws) (hS : va_S A s.heap H locs)
    (hM : m_Mi l y wsy fr lo D cY (.ref b :: As) wc post w1) (cw : CallW R s av.toArray own C index y bytes maxL rety wsy { frames := fr, cells := 0, slots := 0, locals := lo } 0 0 n) (hdg : decode cc pc = .ok (.invokevirtual index, 3))
    (isC isR : List Nat) (hC : isC.map (fun i => ws[i]?) = wc.map some) (hR : isR.map (fun i => ws[i]?) = wr.map some) (hn : va_nd isC = true) (hnR : va_nd isR = true) (hdis : ∀ i ∈ isR, i ∉ isC) (q0 : Nat) {ci : Nat} {fs : List Value} {r : vw_C} (hrc : ws[q0]? = some (b, .inr (ci, fs))) (hci : vwCl[ci]? = some r) (hr1 : r.1 = C)
    (hlen : As.length = n) (hroom : (rest.map fun v => v.category).sum ≤ 8) (hcells : cells ≤ R.cells) (hslots : slots ≤ R.slots) (hw : ∀ u, (w1 u).map Prod.fst = wc.map Prod.fst)
    (kk : ∀ (r : Int32) (u : S) (H1 : Heap) (locs1 : List Loc), post r u → va_P D vwCl (wr ++ w1 u) H1 → va_D A (wr ++ w1 u) → va_S A s.heap H1 locs1 → W p l e R s m av.toArray below meth c H1 locs1 cells slots Q (F0 m (pc + 3) ls (.int r :: rest))) :
    W p l e R s m av.toArray below meth c H locs cells slots Q (F0 m pc ls (As.reverse ++ .ref b :: rest)) := by
  obtain ⟨hx, hb, hr, hml, hts, hown, hlocks, hK, hA⟩ := id C0
  have hFc := m_free hD hS hA isC hC
  have hDc : va_D (fun _ => True) wc := (hD.sub isC hn hC).weaken (fun _ _ _ _ => trivial)
  subst hr1
  refine va_calli (va_runV (As := As) (rest := rest) ⟨hx, hb, hml, hown, hts⟩ (hM H.size) cw ⟨m_blind, va_recv hK hP hci hrc, fun U hU hW => m_preOf C0 hP hD isC hC hn U hU hW⟩ rfl hlen hl.1 rfl (lv_room hroom) hdg ⟨hcells, hslots⟩) hS (fun q _ h => hFc q h) hFc (fun r u t H1 locs1 ht hvm hw1 hB hz1 hk1 hS => ?_)
  rw [ht] at hB
  obtain ⟨hP2, hD2⟩ := va_join hP hD isC isR hC hR hnR hdis hk1 hFc hB (m_Dfst hDc.self (hw u))
  exact kk r u H1 locs1 hw1 hP2 hD2 hS
