/-! Worlds with the steps as a pool at their end. -/
theorem m_upself (f : Nat → Int32) (k : Nat) : upd f k (f k) = f := by
  funext j
  simp only [upd]
  split
  · rename_i h; rw [h]
  · rfl
def m_sa (sa : Nat → Nat) : Nat → Option Nat := fun k => some (sa k)
def m_pool (sa : Nat → Nat) (t g f e : Nat → Int32) : va_W := (List.range 15).map (fun k => (sa k, .inr (5, [.int (t k), .int (g k), .int (f k), .int (e k)])))
theorem m_pool_at {sa : Nat → Nat} {t g f e : Nat → Int32} {k : Nat} (h : k < 15) : (m_pool sa t g f e)[k]? = some (sa k, .inr (5, [.int (t k), .int (g k), .int (f k), .int (e k)])) := by
  simp [m_pool, h]
theorem m_pl_at {X : va_W} {n : Nat} {sa : Nat → Nat} {t g f e : Nat → Int32} {k : Nat} (hX : X.length = n) (h : k < 15) : (X ++ m_pool sa t g f e)[n + k]? = some (sa k, .inr (5, [.int (t k), .int (g k), .int (f k), .int (e k)])) := by
  rw [List.getElem?_append_right (by omega), show n + k - X.length = k by omega]
  exact m_pool_at h
theorem m_pl_set {X : va_W} {n : Nat} {sa : Nat → Nat} {t g f e : Nat → Int32} {k : Nat} {a b c d : Int32} (hX : X.length = n) : (X ++ m_pool sa t g f e).set (n + k) (sa k, .inr (5, [.int a, .int b, .int c, .int d])) = X ++ m_pool sa (upd t k a) (upd g k b) (upd f k c) (upd e k d) := by
  rw [List.set_append_right _ _ (by omega), show n + k - X.length = k by omega]
  congr 1
  apply List.ext_getElem?
  intro j
  rw [List.getElem?_set]
  by_cases hj : k = j
  · subst hj
    by_cases hk : k < 15
    · simp [m_pool, hk, upd]
    · simp [m_pool, hk]
  · rw [if_neg hj]
    by_cases hk : j < 15
    · simp [m_pool, hk, upd, Ne.symm hj]
    · simp [m_pool, hk]
theorem m_pool_fst {sa : Nat → Nat} {t g f e t' g' f' e' : Nat → Int32} : (m_pool sa t' g' f' e').map Prod.fst = (m_pool sa t g f e).map Prod.fst := by
  simp [m_pool]
theorem m_set_len : ∀ (isC : List Nat) (ws w1 : va_W), (m_set ws isC w1).length = ws.length
  | [], _, w1 => by cases w1 <;> rfl
  | _ :: _, _, [] => rfl
  | i :: is, ws, q :: qs => by
    show (m_set (ws.set i q) is qs).length = _
    rw [m_set_len is (ws.set i q) qs, List.length_set]
theorem m_ap {α : Type} {a b : List α} {k : Nat} {q : α} (h : (a ++ b)[k]? = some q) : (k < a.length ∧ a[k]? = some q) ∨ (a.length ≤ k ∧ b[k - a.length]? = some q) := by
  by_cases hl : k < a.length
  · rw [List.getElem?_append_left hl] at h
    exact Or.inl ⟨hl, h⟩
  · rw [List.getElem?_append_right (by omega)] at h
    exact Or.inr ⟨by omega, h⟩
theorem m_fst {w1 wc : va_W} (hw : w1.map Prod.fst = wc.map Prod.fst) {j : Nat} {q : Nat × va_E} (hq : w1[j]? = some q) : ∃ q0, wc[j]? = some q0 ∧ q0.1 = q.1 := by
  have h1 : (w1.map Prod.fst)[j]? = some q.1 := by rw [List.getElem?_map, hq]; rfl
  rw [hw, List.getElem?_map] at h1
  cases hc : wc[j]? with
  | none => rw [hc] at h1; cases h1
  | some q0 => rw [hc] at h1; exact ⟨q0, rfl, Option.some.inj h1⟩
theorem m_joinP {A0 : Nat → Prop} {D : va_G} {cl : List vw_C} {X cx x1 pl pl1 : va_W} {H H1 : Heap} (hP : va_P D cl (X ++ pl) H) (hD : va_D A0 (X ++ pl)) (isC : List Nat) (hC : isC.map (fun i => X[i]?) = cx.map some) (hn : va_nd isC = true)
    (hk : ∀ q : Nat, q < H.size → ¬ va_A (cx ++ pl) H.size q → H1[q]? = H[q]?) (hP1 : va_P D cl (x1 ++ pl1) H1) (hw : x1.map Prod.fst = cx.map Prod.fst) (hw2 : pl1.map Prod.fst = pl.map Prod.fst) : va_P D cl (m_set X isC x1 ++ pl1) H1 ∧ va_D A0 (m_set X isC x1 ++ pl1) := by
  have hlen : isC.length = x1.length := by
    rw [m_lens hC]
    have := congrArg List.length hw
    simpa using this.symm
  have hb : ∀ i ∈ isC, i < X.length := by
    intro i hi
    obtain ⟨j, hj⟩ := List.getElem?_of_mem hi
    obtain ⟨q, -, h2⟩ := m_at hC hj
    exact (List.getElem?_eq_some_iff.mp h2).1
  have key := m_set_get isC X x1 hn hlen hb
  have xl : x1.length = cx.length := by
    have := congrArg List.length hw
    simpa using this
  have adr : ∀ (k : Nat) (q : Nat × va_E), (m_set X isC x1 ++ pl1)[k]? = some q → ∃ q0, (X ++ pl)[k]? = some q0 ∧ q0.1 = q.1 := by
    intro k q hq
    rcases m_ap hq with ⟨h1, h2⟩ | ⟨h1, h2⟩
    · rw [m_set_len] at h1
      rw [List.getElem?_append_left h1]
      rcases key k q h2 with ⟨j, g1, g2⟩ | ⟨-, g2⟩
      · obtain ⟨q0, g3, g4⟩ := m_fst hw g2
        obtain ⟨q1, g5, g6⟩ := m_at hC g1
        rw [g3] at g5
        cases g5
        exact ⟨q0, g6, g4⟩
      · exact ⟨q, g2, rfl⟩
    · rw [m_set_len] at h1 h2
      rw [List.getElem?_append_right h1]
      exact m_fst hw2 h2
  refine ⟨fun k q hq => ?_, fun i j x y hi hj hxy => ?_, fun k q hq => ?_⟩
  · rcases m_ap hq with ⟨h1, h2⟩ | ⟨h1, h2⟩
    · rw [m_set_len] at h1
      rcases key k q h2 with ⟨j, g1, g2⟩ | ⟨g1, g2⟩
      · refine hP1 j q ?_
        rw [List.getElem?_append_left (List.getElem?_eq_some_iff.mp g2).1]
        exact g2
      · have hXk : (X ++ pl)[k]? = some q := by rw [List.getElem?_append_left h1]; exact g2
        refine (hP k q hXk).kept (hk q.1 (hP k q hXk).lt fun h => ?_)
        rcases h with ⟨j, e, h⟩ | h
        · rcases m_ap h with ⟨-, h4⟩ | ⟨h3, h4⟩
          · obtain ⟨i, g3, g4⟩ := m_at2 hC h4
            have hi := hb i (List.mem_of_getElem? g3)
            have := hD.1 i k (q.1, e) q (by rw [List.getElem?_append_left hi]; exact g4) hXk rfl
            subst this
            exact g1 (List.mem_of_getElem? g3)
          · have := hD.1 (X.length + (j - cx.length)) k (q.1, e) q (by rw [List.getElem?_append_right (by omega), show X.length + (j - cx.length) - X.length = j - cx.length by omega]; exact h4) hXk rfl
            omega
        · have := (hP k q hXk).lt
          omega
    · rw [m_set_len] at h1 h2
      refine hP1 (x1.length + (k - X.length)) q ?_
      rw [List.getElem?_append_right (by omega), show x1.length + (k - X.length) - x1.length = k - X.length by omega]
      exact h2
  · obtain ⟨x0, h1, h2⟩ := adr i x hi
    obtain ⟨y0, h3, h4⟩ := adr j y hj
    exact hD.1 i j x0 y0 h1 h3 (h2.trans (hxy.trans h4.symm))
  · obtain ⟨q0, h1, h2⟩ := adr k q hq
    rw [← h2]
    exact hD.2 k q0 h1
section MPool
variable {p : Program} {l : Launch} {e : Env} {R : Room} {s : State} {m : MethodId} {av : List Value} {below : List Frame} {meth : Method} {c : Code} {H : Heap} {locs : List Loc} {cells slots : Nat} {Q : State → Prop}
variable {cc : ByteArray} {ret : Option FieldType} {nL : Nat} {own : String} {Ts : List Cond} {D : va_G} {cY : Nat → ClassId} {A : Nat → Prop} {pc : Nat} {ls : Array Slot} {rest : List Value} {X pl : va_W} {lv : List (Nat × Value)}
variable {y : MethodName} {bytes : ByteArray} {maxL n index fr lo : Nat} {rety : Option FieldType} {wsy : List Cond} {As : List Value} {cx : va_W} {S : Type} {x1 pl1 : S → va_W} {b : Nat} {C : String}
theorem m_preOfP (C0 : m_C p l e s m av meth c cc ret nL own Ts D cY A) (hP : va_P D vwCl (X ++ pl) H) (hD : va_D A (X ++ pl)) (isC : List Nat) (hC : isC.map (fun i => X[i]?) = cx.map some) (hn : va_nd isC = true) {vs : List Value} (U : State) (hU : U.heap = H) (hW : s.WarmedH U.vm) : va_Pc vs (m_pre D cY H.size (cx ++ pl)) vs.toArray U := by
  obtain ⟨hx, hb, hr, hml, hts, hown, hlocks, hK, hA⟩ := C0
  exact ⟨rfl, by rw [hU], by rw [hU]; exact hP.part isC hC, va_K.moved hW.alike hK, (hD.part isC hn hC).weaken (fun _ _ _ _ => trivial)⟩
theorem m_callPi {post : Int32 → S → Prop} (C0 : m_C p l e s m av meth c cc ret nL own Ts D cY A) (hl : lv_has ls nL lv) (hP : va_P D vwCl (X ++ pl) H) (hD : va_D A (X ++ pl)) (hS : va_S A s.heap H locs)
    (hM : m_Mi l y wsy fr lo D cY (.ref b :: As) (cx ++ pl) post (fun u => x1 u ++ pl1 u)) (cw : CallW R s av.toArray own C index y bytes maxL rety wsy { frames := fr, cells := 0, slots := 0, locals := lo } 0 0 n) (hdg : decode cc pc = .ok (.invokevirtual index, 3))
    (isC : List Nat) (hC : isC.map (fun i => X[i]?) = cx.map some) (hn : va_nd isC = true) (q0 : Nat) {ci : Nat} {fs : List Value} {r : vw_C} (hrc : (X ++ pl)[q0]? = some (b, .inr (ci, fs))) (hci : vwCl[ci]? = some r) (hr1 : r.1 = C)
    (hlen : As.length = n) (hroom : (rest.map fun v => v.category).sum ≤ 8) (hcells : cells ≤ R.cells) (hslots : slots ≤ R.slots) (hw : ∀ u, (x1 u).map Prod.fst = cx.map Prod.fst) (hw2 : ∀ u, (pl1 u).map Prod.fst = pl.map Prod.fst)
    (kk : ∀ (r : Int32) (u : S) (H1 : Heap) (locs1 : List Loc), post r u → va_P D vwCl (m_set X isC (x1 u) ++ pl1 u) H1 → va_D A (m_set X isC (x1 u) ++ pl1 u) → va_S A s.heap H1 locs1 → W p l e R s m av.toArray below meth c H1 locs1 cells slots Q (F0 m (pc + 3) ls (.int r :: rest))) :
    W p l e R s m av.toArray below meth c H locs cells slots Q (F0 m pc ls (As.reverse ++ .ref b :: rest)) := by
  obtain ⟨hx, hb, hr, hml, hts, hown, hlocks, hK, hA⟩ := id C0
  have hFc := va_freeP hD hS hA isC hC
  subst hr1
  refine va_calli (va_runV (As := As) (rest := rest) ⟨hx, hb, hml, hown, hts⟩ (hM H.size) cw ⟨m_blind, va_recv hK hP hci hrc, fun U hU hW => m_preOfP C0 hP hD isC hC hn U hU hW⟩ rfl hlen hl.1 rfl (lv_room hroom) hdg ⟨hcells, hslots⟩) hS (fun q _ h => hFc q h) hFc (fun r u t H1 locs1 ht hvm hw1 hB hz1 hk1 hS => ?_)
  rw [ht] at hB
  obtain ⟨hP2, hD2⟩ := m_joinP hP hD isC hC hn hk1 hB (hw u) (hw2 u)
  exact kk r u H1 locs1 hw1 hP2 hD2 hS
end MPool
