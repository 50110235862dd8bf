/-! cell: the script's ints, and what stands behind them. -/
def x_pre (D : va_G) (cY : Nat → ClassId) (sz b L : Nat) (xs : Nat → Int32) (U : State) : Prop := U.heap.size = sz ∧ va_K D vwCl (m_ty cY) U ∧ va_X b L xs U U.heap ∧ b < sz
theorem x_blind {D : va_G} {cY : Nat → ClassId} {sz b L : Nat} {xs : Nat → Int32} {av : List Value} : FrameBlind (va_Pc av (x_pre D cY sz b L xs)) := fun a U g mk q => by
  obtain ⟨q0, q1, qK, qX, qb⟩ := q
  exact ⟨q0, q1, va_K.moved (u := U) (U := U.calling g mk a) (Vm.Alike.refl U.vm) qK, va_X.moved (u := U) (U := U.calling g mk a) (Vm.Alike.refl U.vm) qX, qb⟩
def x_Q (sz : Nat) : Array Value → State → Outcome → State → Prop := va_Qi (fun (_ : Int32) (_ : Unit) => True) (fun _ _ => True) (va_A [] sz)
set_option maxHeartbeats 4000000 in
theorem c_L_cell (l : Launch) (D : va_G) (cY : Nat → ClassId) (b L k : Nat) (xs : Nat → Int32) (hL : L < 2 ^ 31) (hk : k < 2 ^ 31) (sz : Nat) : Met l yL_cell wsL_cell { frames := 4, cells := 0, slots := 0, locals := 40 } (va_Pc [.ref b, .int (nI k)] (x_pre D cY sz b L xs)) (x_Q sz) 0 0 (va_A [] sz) := by
  refine Met.ofW (cc := cL_cell) (maxL := 2) (ret := some .int) (by decide +kernel) rfl ?_
  intro p e s m args below meth cq s₁ B hml hv
  obtain ⟨rfl, hsz, hK, hX, hbs⟩ := hv
  have hts := atoms_spec (ws := wsL_cell) B.pre
  have hl := lv_entry ([.ref b, .int (nI k)]) (n := 2) (Nat.le_of_ble_eq_true rfl)
  rw [lg_entry_eq]
  generalize (lg_sl ([.ref b, .int (nI k)]) ++ List.replicate (2 - (lg_sl ([.ref b, .int (nI k)])).length) Slot.unset).toArray = ls at hl ⊢
  have hl : lv_has ls 2 [(0, .ref b), (1, .int (nI k))] := hl
  have hA : ∀ q : Nat, s.heap.size ≤ q → va_A [] sz q := fun q h => Or.inr (hsz ▸ h)
  have hbA : ¬ va_A [] sz b := fun h => by
    rcases h with ⟨i, e, h⟩ | h
    · cases h
    · omega
  have hbl : b < s.heap.size := by omega
  have C0 : m_C p l e s m [.ref b, .int (nI k)] meth cq cL_cell (some .int) 2 RL wsL_cell D cY (va_A [] sz) := ⟨B.exec, B.bytes, B.returns, hml, hts, findClass_of_methodNamed B.named, B.notSynchronized, hK, hA⟩
  obtain ⟨hx, hb, hr, -, -, hown, hlocks, -, -⟩ := id C0
  have hS : va_S (va_A [] sz) s.heap s.heap [] := va_S.rf
  have hw0 := hts (.constant RL 7 (2144730569)) (by decide +kernel)
  refine lv_iload_n hx hb dL_cell_0 rfl (lv_at hl 1 rfl) ?_
  refine lv_aload_n hx hb dL_cell_1 rfl (lv_at hl 0 rfl) ?_
  refine va_slen hx hb hX hbl hbA hS dL_cell_2 ?_
  refine lv_icmp_ge (tgt := 12) hx hb dL_cell_3 (by decide) (fun c3 => ?_) (fun c3 => ?_)
  · refine lv_ldc hx hb hown hw0 dL_cell_12 ?_
    refine lv_iload_n hx hb dL_cell_14 rfl (lv_at hl 1 rfl) ?_
    refine lv_sipush (v := nI 1877) hx hb dL_cell_15 (by decide) ?_
    refine lv_iadd hx hb dL_cell_18 ?_
    refine lv_imul hx hb dL_cell_19 ?_
    exact W.iret hx hb hr (fun t ht hW => ⟨⟨_, (), rfl, trivial, trivial⟩, hS.F ht⟩) hS.2.2 dL_cell_20
  · have h3 : ¬ L ≤ k := fun q => c3 ((nI_leI (a := L) (b := k) hL hk).mpr q)
    refine lv_aload_n hx hb dL_cell_6 rfl (lv_at hl 0 rfl) ?_
    refine lv_iload_n hx hb dL_cell_7 rfl (lv_at hl 1 rfl) ?_
    refine va_sld hx hb hX hbl hbA hS (i := nI k) (m_in (n := k) (by omega) (by omega)) dL_cell_8 ?_
    refine lv_goto (tgt := 20) hx hb dL_cell_9 (by decide) ?_
    exact W.iret hx hb hr (fun t ht hW => ⟨⟨_, (), rfl, trivial, trivial⟩, hS.F ht⟩) hS.2.2 dL_cell_20
theorem f_cell {p : Program} {l : Launch} {e : Env} {R : Room} {s : State} {m : MethodId} {av : List Value} {below : List Frame} {meth : Method} {c : Code} {H : Heap} {locs : List Loc} {cells slots : Nat} {Q : State → Prop}
    {cc : ByteArray} {ret : Option FieldType} {nL : Nat} {own : String} {Ts : List Cond} {D : va_G} {cY : Nat → ClassId} {A : Nat → Prop} {pc : Nat} {ls : Array Slot} {rest : List Value} {ws : va_W} {lv : List (Nat × Value)} {index b L k : Nat} {xs : Nat → Int32}
    (C0 : m_C p l e s m av meth c cc ret nL own Ts D cY A) (hX : va_X b L xs s s.heap) (hbl : b < s.heap.size) (hbA : ¬ A b) (hL : L < 2 ^ 31) (hk : k < 2 ^ 31) (hl : lv_has ls nL lv) (hP : va_P D vwCl ws H) (hD : va_D A ws) (hS : va_S A s.heap H locs)
    (cw : CallB R s av.toArray own index yL_cell cL_cell 2 (some .int) wsL_cell { frames := 4, cells := 0, slots := 0, locals := 40 } 0 0 2 ∧ (Cond.static yL_cell).before av.toArray s = true) (hdg : decode cc pc = .ok (.invokestatic index, 3))
    (hroom : (rest.map fun v => v.category).sum ≤ 8) (hcells : cells ≤ R.cells) (hslots : slots ≤ R.slots)
    (kk : ∀ (r : Int32) (H1 : Heap) (locs1 : List Loc), va_P D vwCl ws H1 → va_D A ws → va_S A s.heap H1 locs1 → W p l e R s m av.toArray below meth c H1 locs1 cells slots Q (F0 m (pc + 3) ls (.int r :: rest))) :
    W p l e R s m av.toArray below meth c H locs cells slots Q (F0 m pc ls ([.ref b, .int (nI k)].reverse ++ rest)) := by
  obtain ⟨hx, hb, hr, hml, hts, hown, hlocks, hK, hA⟩ := id C0
  have hFc : ∀ q, va_A [] H.size q → A q := fun q h => by
    rcases h with ⟨i, e, h⟩ | h
    · cases h
    · exact hA q (Nat.le_trans hS.1 h)
  refine va_calli (va_runS (As := [.ref b, .int (nI k)]) (rest := rest) ⟨hx, hb, hml, hown, hts⟩ (c_L_cell l D cY b L k xs hL hk H.size) cw ⟨x_blind, fun U hU hW => ⟨rfl, by rw [hU], va_K.moved hW.alike hK, ?_, ?_⟩⟩ rfl rfl hl.1 rfl (lv_room hroom) hdg ⟨hcells, hslots⟩) hS (fun q _ h => hFc q h) hFc (fun r u t H1 locs1 ht hvm hw1 hB hz1 hk1 hS => ?_)
  · rw [hU]
    exact va_X.moved hW.alike (hX.kept (hS.2.1 b hbl hbA))
  · exact Nat.lt_of_lt_of_le hbl hS.1
  · refine kk r H1 locs1 (hP.kept (fun k q hk => hk1 q.1 (hP k q hk).lt (fun h => ?_))) hD hS
    rcases h with ⟨i, e, h⟩ | h
    · cases h
    · have := (hP k q hk).lt
      omega
