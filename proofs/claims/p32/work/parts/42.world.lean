/-! An object's world, whole; a contract over a part of it told over the whole; calls beside another object's world. -/
/-- what no call tells: length, step count, cursor, text, the steps' rows, the trial's nimbers and count -/
abbrev oJ : Type := Nat × Nat × Nat × (Nat → Nat) × (Nat → Int32) × (Nat → Int32) × (Nat → Int32) × (Nat → Int32) × (Nat → Nat) × Nat
/-- nimbers, count of products; those of the snapshot; is it taken; how many states are recorded; their nimbers, their counts -/
abbrev oC : Type := (Nat → Nat) × Nat × (Nat → Nat) × Nat × Nat × Nat × (Nat → Nat) × (Nat → Nat) × (Nat → Nat) × (Nat → Nat) × Nat × Nat × Nat × Nat
/-- an object's cells -/
def o_w (cY : Nat → ClassId) (aa sa bp : Nat → Nat) (j : oJ) (c : oC) : va_W :=
  [((aa 0), .inr (6, [.ref (aa 1), .ref (aa 2), .ref (aa 3), .ref (aa 4), .ref (aa 5), .ref (aa 6), .ref (aa 7), .int (nI c.2.2.2.2.1)])), ((aa 1), .inr (2, [.ref (aa 8)])), ((aa 8), .inl (cY 0, 256, .inl (m_nf bp))), ((aa 2), .inr (1, [.ref (aa 9), .int (nI 0)])), ((aa 9), .inl (cY 0, 256, .inl (m_nf (fun _ => 0)))), ((aa 3), .inr (3, [.ref (aa 10), .ref (aa 11), .int (nI j.1), .int (nI j.2.1), .int (nI j.2.2.1)])), ((aa 10), .inl (cY 1, 60, .inl (m_nf j.2.2.2.1))), ((aa 11), .inl (cY 4, 15, .inr (.inr (.inr (.inr (m_sa sa)))))), ((aa 4), .inr (4, [.ref (aa 12), .int (nI c.2.1)])), ((aa 12), .inl (cY 0, 8, .inl (m_nf c.1))), ((aa 5), .inr (4, [.ref (aa 13), .int (nI j.2.2.2.2.2.2.2.2.2)])), ((aa 13), .inl (cY 0, 8, .inl (m_nf j.2.2.2.2.2.2.2.2.1))), ((aa 6), .inr (4, [.ref (aa 14), .int (nI c.2.2.2.1)])), ((aa 14), .inl (cY 0, 8, .inl (m_nf c.2.2.1))), ((aa 7), .inr (0, [.ref (aa 15), .int (nI c.2.2.2.2.2.1)])), ((aa 15), .inl (cY 3, 4, .inr (.inr (.inr (.inr (m_k4 (aa 16) (aa 17) (aa 18) (aa 19))))))), ((aa 16), .inr (4, [.ref (aa 20), .int (nI c.2.2.2.2.2.2.2.2.2.2.1)])), ((aa 20), .inl (cY 0, 8, .inl (m_nf c.2.2.2.2.2.2.1))), ((aa 17), .inr (4, [.ref (aa 21), .int (nI c.2.2.2.2.2.2.2.2.2.2.2.1)])), ((aa 21), .inl (cY 0, 8, .inl (m_nf c.2.2.2.2.2.2.2.1))), ((aa 18), .inr (4, [.ref (aa 22), .int (nI c.2.2.2.2.2.2.2.2.2.2.2.2.1)])), ((aa 22), .inl (cY 0, 8, .inl (m_nf c.2.2.2.2.2.2.2.2.1))), ((aa 19), .inr (4, [.ref (aa 23), .int (nI c.2.2.2.2.2.2.2.2.2.2.2.2.2)])), ((aa 23), .inl (cY 0, 8, .inl (m_nf c.2.2.2.2.2.2.2.2.2.1)))] ++ m_pool sa j.2.2.2.2.1 j.2.2.2.2.2.1 j.2.2.2.2.2.2.1 j.2.2.2.2.2.2.2.1
def o_J (j : oJ) : Prop := j.1 ≤ 60 ∧ (∀ i, j.2.2.2.1 i < 65536) ∧ m_z 8 j.2.2.2.2.2.2.2.2.1
def o_g (f : Nat → Nat) : Prop := m_z 8 f ∧ ∀ j, f j < 65536
def o_C (c : oC) : Prop := o_g c.1 ∧ o_g c.2.2.1 ∧ (c.2.2.2.2.1 = 0 ∨ c.2.2.2.2.1 = 1) ∧ c.2.2.2.2.2.1 ≤ 4 ∧ o_g c.2.2.2.2.2.2.1 ∧ o_g c.2.2.2.2.2.2.2.1 ∧ o_g c.2.2.2.2.2.2.2.2.1 ∧ o_g c.2.2.2.2.2.2.2.2.2.1
/-- the state recorded, another one put in its place -/
def o_rec (c : oC) (f : Nat → Nat) (n : Nat) : oC :=
  (f, n, c.2.2.1, c.2.2.2.1, c.2.2.2.2.1, min (c.2.2.2.2.2.1 + 1) 4, c.1, c.2.2.2.2.2.2.1, c.2.2.2.2.2.2.2.1, c.2.2.2.2.2.2.2.2.1, c.2.1, c.2.2.2.2.2.2.2.2.2.2.1, c.2.2.2.2.2.2.2.2.2.2.2.1, c.2.2.2.2.2.2.2.2.2.2.2.2.1)
def o_undo (c : oC) : oC :=
  (c.2.2.2.2.2.2.1, c.2.2.2.2.2.2.2.2.2.2.1, c.2.2.1, c.2.2.2.1, c.2.2.2.2.1, c.2.2.2.2.2.1 - 1, c.2.2.2.2.2.2.2.1, c.2.2.2.2.2.2.2.2.1, c.2.2.2.2.2.2.2.2.2.1, c.2.2.2.2.2.2.2.2.2.1, c.2.2.2.2.2.2.2.2.2.2.2.1, c.2.2.2.2.2.2.2.2.2.2.2.2.1, c.2.2.2.2.2.2.2.2.2.2.2.2.2, c.2.2.2.2.2.2.2.2.2.2.2.2.2)
def o_snap (c : oC) : oC := (c.1, c.2.1, c.1, c.2.1, 1, c.2.2.2.2.2)
theorem o_C_rec {c : oC} {f : Nat → Nat} {n : Nat} (h : o_C c) (hf : o_g f) : o_C (o_rec c f n) := by
  obtain ⟨h1, h2, h3, h4, h5, h6, h7, h8⟩ := h
  exact ⟨hf, h2, h3, Nat.min_le_right _ _, h1, h5, h6, h7⟩
theorem o_C_undo {c : oC} (h : o_C c) : o_C (o_undo c) := by
  obtain ⟨h1, h2, h3, h4, h5, h6, h7, h8⟩ := h
  exact ⟨h5, h2, h3, Nat.le_trans (Nat.sub_le _ _) h4, h6, h7, h8, h8⟩
theorem o_C_snap {c : oC} (h : o_C c) : o_C (o_snap c) := by
  obtain ⟨h1, h2, h3, h4, h5⟩ := h
  exact ⟨h1, h1, Or.inr rfl, h4, h5⟩
theorem o_g_up {f : Nat → Nat} {k v : Nat} (h : o_g f) (hk : k < 8) (hv : v < 65536) : o_g (m_up f k v) := ⟨m_zup h.1 hk, m_up_lt h.2 hv⟩
/-- the second object holds the squares of the first, from behind -/
def o_R (c d : oC) : Prop := q_R c.1 d.1 ∧ c.2.1 = d.2.1 ∧ q_R c.2.2.1 d.2.2.1 ∧ c.2.2.2.1 = d.2.2.2.1 ∧ c.2.2.2.2.1 = d.2.2.2.2.1 ∧ c.2.2.2.2.2.1 = d.2.2.2.2.2.1 ∧ q_R c.2.2.2.2.2.2.1 d.2.2.2.2.2.2.1 ∧ q_R c.2.2.2.2.2.2.2.1 d.2.2.2.2.2.2.2.1 ∧ q_R c.2.2.2.2.2.2.2.2.1 d.2.2.2.2.2.2.2.2.1 ∧ q_R c.2.2.2.2.2.2.2.2.2.1 d.2.2.2.2.2.2.2.2.2.1 ∧ c.2.2.2.2.2.2.2.2.2.2 = d.2.2.2.2.2.2.2.2.2.2
theorem o_R_rec {c d : oC} {f g : Nat → Nat} {n n' : Nat} (h : o_R c d) (hf : q_R f g) (hn : n = n') : o_R (o_rec c f n) (o_rec d g n') := by
  obtain ⟨h1, h2, h3, h4, h5, h6, h7, h8, h9, h10, h11⟩ := h
  refine ⟨hf, hn, h3, h4, h5, ?_, h1, h7, h8, h9, ?_⟩
  · show min (c.2.2.2.2.2.1 + 1) 4 = min (d.2.2.2.2.2.1 + 1) 4
    rw [h6]
  · show (c.2.1, c.2.2.2.2.2.2.2.2.2.2.1, c.2.2.2.2.2.2.2.2.2.2.2.1, c.2.2.2.2.2.2.2.2.2.2.2.2.1) = (d.2.1, d.2.2.2.2.2.2.2.2.2.2.1, d.2.2.2.2.2.2.2.2.2.2.2.1, d.2.2.2.2.2.2.2.2.2.2.2.2.1)
    rw [h2, h11]
theorem o_R_undo {c d : oC} (h : o_R c d) : o_R (o_undo c) (o_undo d) := by
  obtain ⟨h1, h2, h3, h4, h5, h6, h7, h8, h9, h10, h11⟩ := h
  refine ⟨h7, congrArg (fun q => q.1) h11, h3, h4, h5, ?_, h8, h9, h10, h10, ?_⟩
  · show c.2.2.2.2.2.1 - 1 = d.2.2.2.2.2.1 - 1
    rw [h6]
  · show (c.2.2.2.2.2.2.2.2.2.2.2.1, c.2.2.2.2.2.2.2.2.2.2.2.2.1, c.2.2.2.2.2.2.2.2.2.2.2.2.2, c.2.2.2.2.2.2.2.2.2.2.2.2.2) = (d.2.2.2.2.2.2.2.2.2.2.2.1, d.2.2.2.2.2.2.2.2.2.2.2.2.1, d.2.2.2.2.2.2.2.2.2.2.2.2.2, d.2.2.2.2.2.2.2.2.2.2.2.2.2)
    rw [h11]
theorem o_R_snap {c d : oC} (h : o_R c d) : o_R (o_snap c) (o_snap d) := by
  obtain ⟨h1, h2, h3, h4, h5, h6, h7⟩ := h
  exact ⟨h1, h2, h1, h2, rfl, h6, h7⟩
/-- contracts: weaker ones -/
theorem m_ofI {l : Launch} {y : MethodName} {wsy : List Cond} {fr lo : Nat} {D : va_G} {cY : Nat → ClassId} {sa : Nat → Nat} {tO : Nat} {av : List Value} {ws : va_W} {S : Type} {post : Int32 → S → Prop} {w1 : S → va_W}
    (hM : m_Mi l y wsy fr lo D cY av ws post w1) : m_Me l y wsy fr lo 0 0 D cY sa tO av ws post w1 := fun sz => MetFree.mono (hM sz) (fun _ _ h => ⟨h.1, h.2.1⟩) (fun _ _ _ _ _ h => h) (fun _ _ _ _ _ h => h)
theorem m_liftE {l : Launch} {y : MethodName} {wsy : List Cond} {fr lo mc ms : Nat} {D : va_G} {cY : Nat → ClassId} {sa : Nat → Nat} {tO : Nat} {av : List Value} {wc W9 : va_W} {S S2 : Type} {post : Int32 → S → Prop} {w1 : S → va_W} {post2 : Int32 → S2 → Prop} {w2 : S2 → va_W}
    (hM : m_Me l y wsy fr lo mc ms D cY sa tO av wc post w1) (isC : List Nat) (hC : isC.map (fun i => W9[i]?) = wc.map some) (hn : va_nd isC = true) (hw : ∀ u, (w1 u).map Prod.fst = wc.map Prod.fst)
    (h2 : ∀ (r : Int32) (u : S), post r u → ∃ v : S2, post2 r v ∧ m_set W9 isC (w1 u) = w2 v) : m_Me l y wsy fr lo mc ms D cY sa tO av W9 post2 w2 := by
  intro sz
  have hsub : ∀ q, va_A wc sz q → va_A W9 sz q := by
    intro q h
    rcases h with ⟨k, e, h⟩ | h
    · obtain ⟨i, -, h3⟩ := m_at2 hC h
      exact Or.inl ⟨i, e, h3⟩
    · exact Or.inr h
  refine MetFree.mono (hM sz) ?_ (fun _ _ _ _ _ h => h) ?_
  · intro a st h
    obtain ⟨h0, ⟨h1, hP, hK, hD⟩, hE⟩ := h
    refine ⟨h0, ⟨h1, fun k q hk => ?_, hK, (hD.sub isC hn hC).weaken (fun _ _ _ _ => trivial)⟩, hE.to (State.WarmedH.refl st) (fun _ _ _ => rfl) hsub⟩
    obtain ⟨i, -, h3⟩ := m_at2 hC hk
    exact hP i q h3
  · intro a st o t h hq
    obtain ⟨h0, ⟨h1, hP, hK, hD⟩, hE⟩ := h
    obtain ⟨⟨⟨r, u, ho, hp, hB⟩, hF1, hF2⟩, L, hL, hf⟩ := hq
    obtain ⟨v, hv, he⟩ := h2 r u hp
    refine ⟨⟨⟨r, v, ho, hv, ?_⟩, hF1, fun q g1 g2 => hF2 q g1 (fun z => g2 (hsub q z))⟩, L, hL, fun q hq => hsub _ (hf q hq)⟩
    show va_P D vwCl (w2 v) t.heap
    rw [← he]
    exact (m_join hP hD isC hC hn (fun q g1 g2 => hF2 q g1 (fun z => g2 (by rw [h1]; exact z))) hB (hw u)).1
/-- the same, where the steps' cells stand behind -/
theorem m_liftP {l : Launch} {y : MethodName} {wsy : List Cond} {fr lo mc ms : Nat} {D : va_G} {cY : Nat → ClassId} {sa : Nat → Nat} {tO : Nat} {av : List Value} {X cx pl : va_W} {S S2 : Type} {post : Int32 → S → Prop} {x1 pl1 : S → va_W} {post2 : Int32 → S2 → Prop} {w2 : S2 → va_W}
    (hM : m_Me l y wsy fr lo mc ms D cY sa tO av (cx ++ pl) post (fun u => x1 u ++ pl1 u)) (isC : List Nat) (hC : isC.map (fun i => X[i]?) = cx.map some) (hn : va_nd isC = true) (hw : ∀ u, (x1 u).map Prod.fst = cx.map Prod.fst) (hw2 : ∀ u, (pl1 u).map Prod.fst = pl.map Prod.fst)
    (h2 : ∀ (r : Int32) (u : S), post r u → ∃ v : S2, post2 r v ∧ m_set X isC (x1 u) ++ pl1 u = w2 v) : m_Me l y wsy fr lo mc ms D cY sa tO av (X ++ pl) post2 w2 := by
  intro sz
  have hsub : ∀ q, va_A (cx ++ pl) sz q → va_A (X ++ pl) sz q := by
    intro q h
    rcases h with ⟨k, e, h⟩ | h
    · exact Or.inl ⟨_, e, va_part isC hC k _ h⟩
    · exact Or.inr h
  refine MetFree.mono (hM sz) ?_ (fun _ _ _ _ _ h => h) ?_
  · intro a st h
    obtain ⟨h0, ⟨h1, hP, hK, hD⟩, hE⟩ := h
    exact ⟨h0, ⟨h1, hP.part isC hC, hK, (hD.part isC hn hC).weaken (fun _ _ _ _ => trivial)⟩, hE.to (State.WarmedH.refl st) (fun _ _ _ => rfl) hsub⟩
  · intro a st o t h hq
    obtain ⟨h0, ⟨h1, hP, hK, hD⟩, hE⟩ := h
    obtain ⟨⟨⟨r, u, ho, hp, hB⟩, hF1, hF2⟩, L, hL, hf⟩ := hq
    obtain ⟨v, hv, he⟩ := h2 r u hp
    refine ⟨⟨⟨r, v, ho, hv, ?_⟩, hF1, fun q g1 g2 => hF2 q g1 (fun z => g2 (hsub q z))⟩, L, hL, fun q hq => hsub _ (hf q hq)⟩
    show va_P D vwCl (w2 v) t.heap
    rw [← he]
    exact (m_joinP hP hD isC hC hn (fun q g1 g2 => hF2 q g1 (fun z => g2 (by rw [h1]; exact z))) hB (hw u) (hw2 u)).1
/-- two worlds side by side, the other way round -/
theorem f_sw {a b : va_W} {k : Nat} {q : Nat × va_E} (h : (b ++ a)[k]? = some q) : (a ++ b)[if k < b.length then k + a.length else k - b.length]? = some q := by
  rcases m_ap h with ⟨h1, h2⟩ | ⟨h1, h2⟩
  · rw [if_pos h1, List.getElem?_append_right (by omega), show k + a.length - a.length = k by omega]
    exact h2
  · have h3 := (List.getElem?_eq_some_iff.mp h2).1
    rw [if_neg (by omega), List.getElem?_append_left h3]
    exact h2
theorem f_swP {D : va_G} {cl : List vw_C} {a b : va_W} {H : Heap} (h : va_P D cl (a ++ b) H) : va_P D cl (b ++ a) H := fun _ q hk => h _ q (f_sw hk)
theorem f_lt {a b : va_W} {k : Nat} {q : Nat × va_E} (h : (b ++ a)[k]? = some q) : k < b.length + a.length := by
  have := (List.getElem?_eq_some_iff.mp h).1
  rw [List.length_append] at this
  exact this
theorem f_swD {A : Nat → Prop} {a b : va_W} (h : va_D A (a ++ b)) : va_D A (b ++ a) := by
  refine ⟨fun i j x y hi hj hxy => ?_, fun k q hk => h.2 _ q (f_sw hk)⟩
  have h1 := h.1 _ _ x y (f_sw hi) (f_sw hj) hxy
  have l1 := f_lt hi
  have l2 := f_lt hj
  split at h1 <;> split at h1 <;> omega
theorem f_PR {D : va_G} {cl : List vw_C} {a b : va_W} {H : Heap} (h : va_P D cl (a ++ b) H) : va_P D cl b H := fun k q hk => h (k + a.length) q (by
  rw [List.getElem?_append_right (by omega), show k + a.length - a.length = k by omega]
  exact hk)
section FCalls
variable {p : Program} {l : Launch} {e : Env} {R : Room} {s : State} {m : MethodId} {av : List Value} {below : List Frame} {meth : Method} {c : Code} {H : Heap} {locs : List Loc} {cells slots : Nat} {Q : State → Prop}
variable {cc : ByteArray} {ret : Option FieldType} {nL : Nat} {own : String} {Ts : List Cond} {D : va_G} {cY : Nat → ClassId} {sa : Nat → Nat} {tO : Nat} {A : Nat → Prop} {pc : Nat} {ls : Array Slot} {rest : List Value} {wa wb : va_W} {lv : List (Nat × Value)}
variable {y : MethodName} {bytes : ByteArray} {maxL n index fr lo mc ms : Nat} {rety : Option FieldType} {hh : List (Nat × Nat × Nat × Nat)} {wsy : List Cond} {As : List Value} {S : Type} {w1 : S → va_W} {b : Nat} {C : String}
/-- static calls of methods with a table; the callee's world stands behind -/
theorem f_TR {post : Int32 → S → Prop} (C0 : m_C p l e s m av meth c cc ret nL own Ts D cY A) (hE : m_E sa tO A s s.heap) (hl : lv_has ls nL lv) (hP : va_P D vwCl (wa ++ wb) H) (hD : va_D A (wa ++ wb)) (hS : va_S A s.heap H locs)
    (hM : m_Me l y wsy fr lo mc ms D cY sa tO As wb post w1) (cw : vx_CSW R s av.toArray own index y bytes maxL rety hh wsy { frames := fr, cells := mc, slots := ms, locals := lo } mc ms n) (hdg : decode cc pc = .ok (.invokestatic index, 3))
    (hlen : As.length = n) (hroom : (rest.map fun v => v.category).sum ≤ 8) (hcells : cells + mc ≤ R.cells) (hslots : slots + ms ≤ R.slots) (hw : ∀ u, (w1 u).map Prod.fst = wb.map Prod.fst)
    (kk : ∀ (r : Int32) (u : S) (H1 : Heap) (locs1 : List Loc), post r u → va_P D vwCl (wa ++ w1 u) H1 → va_D A (wa ++ w1 u) → va_S A s.heap H1 locs1 → W p l e R s m av.toArray below meth c H1 locs1 (cells + mc) (slots + ms) Q (F0 m (pc + 3) ls (.int r :: rest))) :
    W p l e R s m av.toArray below meth c H locs cells slots Q (F0 m pc ls (As.reverse ++ rest)) := by
  obtain ⟨hx, hb, hr, hml, hts, hown, hlocks, hK, hA⟩ := id C0
  have hFc := va_freeP (cx := []) hD hS hA [] rfl
  refine va_calli (vx_runSW (As := As) (rest := rest) ⟨hx, hb, hml, hown, hts⟩ (hM H.size) cw ⟨m_blindE, fun U hU hW => m_preOfEP (cx := []) C0 hE hP hD hS [] rfl rfl U hU hW⟩ rfl hlen hl.1 rfl (lv_room hroom) hdg ⟨hcells, hslots⟩) hS (fun q _ h => hFc q h) hFc (fun r u t H1 locs1 ht hvm hw1 hB hz1 hk1 hS => ?_)
  rw [ht] at hB
  obtain ⟨hP2, hD2⟩ := m_joinP (cx := []) (x1 := []) hP hD [] rfl rfl hk1 hB rfl (hw u)
  exact kk r u H1 locs1 hw1 hP2 hD2 hS
theorem f_TL {post : Int32 → S → Prop} (C0 : m_C p l e s m av meth c cc ret nL own Ts D cY A) (hE : m_E sa tO A s s.heap) (hl : lv_has ls nL lv) (hP : va_P D vwCl (wa ++ wb) H) (hD : va_D A (wa ++ wb)) (hS : va_S A s.heap H locs)
    (hM : m_Me l y wsy fr lo mc ms D cY sa tO As wa post w1) (cw : vx_CSW R s av.toArray own index y bytes maxL rety hh wsy { frames := fr, cells := mc, slots := ms, locals := lo } mc ms n) (hdg : decode cc pc = .ok (.invokestatic index, 3))
    (hlen : As.length = n) (hroom : (rest.map fun v => v.category).sum ≤ 8) (hcells : cells + mc ≤ R.cells) (hslots : slots + ms ≤ R.slots) (hw : ∀ u, (w1 u).map Prod.fst = wa.map Prod.fst)
    (kk : ∀ (r : Int32) (u : S) (H1 : Heap) (locs1 : List Loc), post r u → va_P D vwCl (w1 u ++ wb) H1 → va_D A (w1 u ++ wb) → va_S A s.heap H1 locs1 → W p l e R s m av.toArray below meth c H1 locs1 (cells + mc) (slots + ms) Q (F0 m (pc + 3) ls (.int r :: rest))) :
    W p l e R s m av.toArray below meth c H locs cells slots Q (F0 m pc ls (As.reverse ++ rest)) :=
  f_TR C0 hE hl (f_swP hP) (f_swD hD) hS hM cw hdg hlen hroom hcells hslots hw (fun r u H1 locs1 h hP hD hS => kk r u H1 locs1 h (f_swP hP) (f_swD hD) hS)
theorem f_TO {post : Int32 → S → Prop} (C0 : m_C p l e s m av meth c cc ret nL own Ts D cY A) (hE : m_E sa tO A s s.heap) (hl : lv_has ls nL lv) (hP : va_P D vwCl wb H) (hD : va_D A wb) (hS : va_S A s.heap H locs)
    (hM : m_Me l y wsy fr lo mc ms D cY sa tO As wb post w1) (cw : vx_CSW R s av.toArray own index y bytes maxL rety hh wsy { frames := fr, cells := mc, slots := ms, locals := lo } mc ms n) (hdg : decode cc pc = .ok (.invokestatic index, 3))
    (hlen : As.length = n) (hroom : (rest.map fun v => v.category).sum ≤ 8) (hcells : cells + mc ≤ R.cells) (hslots : slots + ms ≤ R.slots) (hw : ∀ u, (w1 u).map Prod.fst = wb.map Prod.fst)
    (kk : ∀ (r : Int32) (u : S) (H1 : Heap) (locs1 : List Loc), post r u → va_P D vwCl (w1 u) H1 → va_D A (w1 u) → va_S A s.heap H1 locs1 → W p l e R s m av.toArray below meth c H1 locs1 (cells + mc) (slots + ms) Q (F0 m (pc + 3) ls (.int r :: rest))) :
    W p l e R s m av.toArray below meth c H locs cells slots Q (F0 m pc ls (As.reverse ++ rest)) :=
  f_TR (wa := []) C0 hE hl hP hD hS hM cw hdg hlen hroom hcells hslots hw kk
/-- static calls of methods without a table -/
theorem f_SR {post : Int32 → S → Prop} (C0 : m_C p l e s m av meth c cc ret nL own Ts D cY A) (hE : m_E sa tO A s s.heap) (hl : lv_has ls nL lv) (hP : va_P D vwCl (wa ++ wb) H) (hD : va_D A (wa ++ wb)) (hS : va_S A s.heap H locs)
    (hM : m_Me l y wsy fr lo mc ms D cY sa tO As wb post w1) (cw : CallB R s av.toArray own index y bytes maxL rety wsy { frames := fr, cells := mc, slots := ms, locals := lo } mc ms n ∧ (Cond.static y).before av.toArray s = true) (hdg : decode cc pc = .ok (.invokestatic index, 3))
    (hlen : As.length = n) (hroom : (rest.map fun v => v.category).sum ≤ 8) (hcells : cells + mc ≤ R.cells) (hslots : slots + ms ≤ R.slots) (hw : ∀ u, (w1 u).map Prod.fst = wb.map Prod.fst)
    (kk : ∀ (r : Int32) (u : S) (H1 : Heap) (locs1 : List Loc), post r u → va_P D vwCl (wa ++ w1 u) H1 → va_D A (wa ++ w1 u) → va_S A s.heap H1 locs1 → W p l e R s m av.toArray below meth c H1 locs1 (cells + mc) (slots + ms) Q (F0 m (pc + 3) ls (.int r :: rest))) :
    W p l e R s m av.toArray below meth c H locs cells slots Q (F0 m pc ls (As.reverse ++ rest)) := by
  obtain ⟨hx, hb, hr, hml, hts, hown, hlocks, hK, hA⟩ := id C0
  have hFc := va_freeP (cx := []) hD hS hA [] rfl
  refine va_calli (va_runS (As := As) (rest := rest) ⟨hx, hb, hml, hown, hts⟩ (hM H.size) cw ⟨m_blindE, fun U hU hW => m_preOfEP (cx := []) C0 hE hP hD hS [] rfl rfl U hU hW⟩ rfl hlen hl.1 rfl (lv_room hroom) hdg ⟨hcells, hslots⟩) hS (fun q _ h => hFc q h) hFc (fun r u t H1 locs1 ht hvm hw1 hB hz1 hk1 hS => ?_)
  rw [ht] at hB
  obtain ⟨hP2, hD2⟩ := m_joinP (cx := []) (x1 := []) hP hD [] rfl rfl hk1 hB rfl (hw u)
  exact kk r u H1 locs1 hw1 hP2 hD2 hS
theorem f_SL {post : Int32 → S → Prop} (C0 : m_C p l e s m av meth c cc ret nL own Ts D cY A) (hE : m_E sa tO A s s.heap) (hl : lv_has ls nL lv) (hP : va_P D vwCl (wa ++ wb) H) (hD : va_D A (wa ++ wb)) (hS : va_S A s.heap H locs)
    (hM : m_Me l y wsy fr lo mc ms D cY sa tO As wa post w1) (cw : CallB R s av.toArray own index y bytes maxL rety wsy { frames := fr, cells := mc, slots := ms, locals := lo } mc ms n ∧ (Cond.static y).before av.toArray s = true) (hdg : decode cc pc = .ok (.invokestatic index, 3))
    (hlen : As.length = n) (hroom : (rest.map fun v => v.category).sum ≤ 8) (hcells : cells + mc ≤ R.cells) (hslots : slots + ms ≤ R.slots) (hw : ∀ u, (w1 u).map Prod.fst = wa.map Prod.fst)
    (kk : ∀ (r : Int32) (u : S) (H1 : Heap) (locs1 : List Loc), post r u → va_P D vwCl (w1 u ++ wb) H1 → va_D A (w1 u ++ wb) → va_S A s.heap H1 locs1 → W p l e R s m av.toArray below meth c H1 locs1 (cells + mc) (slots + ms) Q (F0 m (pc + 3) ls (.int r :: rest))) :
    W p l e R s m av.toArray below meth c H locs cells slots Q (F0 m pc ls (As.reverse ++ rest)) :=
  f_SR C0 hE hl (f_swP hP) (f_swD hD) hS hM cw hdg hlen hroom hcells hslots hw (fun r u H1 locs1 h hP hD hS => kk r u H1 locs1 h (f_swP hP) (f_swD hD) hS)
theorem f_SO {post : Int32 → S → Prop} (C0 : m_C p l e s m av meth c cc ret nL own Ts D cY A) (hE : m_E sa tO A s s.heap) (hl : lv_has ls nL lv) (hP : va_P D vwCl wb H) (hD : va_D A wb) (hS : va_S A s.heap H locs)
    (hM : m_Me l y wsy fr lo mc ms D cY sa tO As wb post w1) (cw : CallB R s av.toArray own index y bytes maxL rety wsy { frames := fr, cells := mc, slots := ms, locals := lo } mc ms n ∧ (Cond.static y).before av.toArray s = true) (hdg : decode cc pc = .ok (.invokestatic index, 3))
    (hlen : As.length = n) (hroom : (rest.map fun v => v.category).sum ≤ 8) (hcells : cells + mc ≤ R.cells) (hslots : slots + ms ≤ R.slots) (hw : ∀ u, (w1 u).map Prod.fst = wb.map Prod.fst)
    (kk : ∀ (r : Int32) (u : S) (H1 : Heap) (locs1 : List Loc), post r u → va_P D vwCl (w1 u) H1 → va_D A (w1 u) → va_S A s.heap H1 locs1 → W p l e R s m av.toArray below meth c H1 locs1 (cells + mc) (slots + ms) Q (F0 m (pc + 3) ls (.int r :: rest))) :
    W p l e R s m av.toArray below meth c H locs cells slots Q (F0 m pc ls (As.reverse ++ rest)) :=
  f_SR (wa := []) C0 hE hl hP hD hS hM cw hdg hlen hroom hcells hslots hw kk
/-- calls of an object's methods -/
theorem f_VR {post : Int32 → S → Prop} (C0 : m_C p l e s m av meth c cc ret nL own Ts D cY A) (hE : m_E sa tO A s s.heap) (hl : lv_has ls nL lv) (hP : va_P D vwCl (wa ++ wb) H) (hD : va_D A (wa ++ wb)) (hS : va_S A s.heap H locs)
    (hM : m_Me l y wsy fr lo mc ms D cY sa tO (.ref b :: As) wb post w1) (cw : CallW R s av.toArray own C index y bytes maxL rety wsy { frames := fr, cells := mc, slots := ms, locals := lo } mc ms n) (hdg : decode cc pc = .ok (.invokevirtual index, 3))
    (q0 : Nat) {ci : Nat} {fs : List Value} {r : vw_C} (hrc : wb[q0]? = some (b, .inr (ci, fs))) (hci : vwCl[ci]? = some r) (hr1 : r.1 = C)
    (hlen : As.length = n) (hroom : (rest.map fun v => v.category).sum ≤ 8) (hcells : cells + mc ≤ R.cells) (hslots : slots + ms ≤ R.slots) (hw : ∀ u, (w1 u).map Prod.fst = wb.map Prod.fst)
    (kk : ∀ (r : Int32) (u : S) (H1 : Heap) (locs1 : List Loc), post r u → va_P D vwCl (wa ++ w1 u) H1 → va_D A (wa ++ w1 u) → va_S A s.heap H1 locs1 → W p l e R s m av.toArray below meth c H1 locs1 (cells + mc) (slots + ms) Q (F0 m (pc + 3) ls (.int r :: rest))) :
    W p l e R s m av.toArray below meth c H locs cells slots Q (F0 m pc ls (As.reverse ++ .ref b :: rest)) := by
  obtain ⟨hx, hb, hr, hml, hts, hown, hlocks, hK, hA⟩ := id C0
  have hFc := va_freeP (cx := []) hD hS hA [] rfl
  subst hr1
  refine va_calli (va_runV (As := As) (rest := rest) ⟨hx, hb, hml, hown, hts⟩ (hM H.size) cw ⟨m_blindE, va_recv hK (f_PR hP) hci hrc, fun U hU hW => m_preOfEP (cx := []) C0 hE hP hD hS [] rfl rfl U hU hW⟩ rfl hlen hl.1 rfl (lv_room hroom) hdg ⟨hcells, hslots⟩) hS (fun q _ h => hFc q h) hFc (fun r u t H1 locs1 ht hvm hw1 hB hz1 hk1 hS => ?_)
  rw [ht] at hB
  obtain ⟨hP2, hD2⟩ := m_joinP (cx := []) (x1 := []) hP hD [] rfl rfl hk1 hB rfl (hw u)
  exact kk r u H1 locs1 hw1 hP2 hD2 hS
theorem f_VL {post : Int32 → S → Prop} (C0 : m_C p l e s m av meth c cc ret nL own Ts D cY A) (hE : m_E sa tO A s s.heap) (hl : lv_has ls nL lv) (hP : va_P D vwCl (wa ++ wb) H) (hD : va_D A (wa ++ wb)) (hS : va_S A s.heap H locs)
    (hM : m_Me l y wsy fr lo mc ms D cY sa tO (.ref b :: As) wa post w1) (cw : CallW R s av.toArray own C index y bytes maxL rety wsy { frames := fr, cells := mc, slots := ms, locals := lo } mc ms n) (hdg : decode cc pc = .ok (.invokevirtual index, 3))
    (q0 : Nat) {ci : Nat} {fs : List Value} {r : vw_C} (hrc : wa[q0]? = some (b, .inr (ci, fs))) (hci : vwCl[ci]? = some r) (hr1 : r.1 = C)
    (hlen : As.length = n) (hroom : (rest.map fun v => v.category).sum ≤ 8) (hcells : cells + mc ≤ R.cells) (hslots : slots + ms ≤ R.slots) (hw : ∀ u, (w1 u).map Prod.fst = wa.map Prod.fst)
    (kk : ∀ (r : Int32) (u : S) (H1 : Heap) (locs1 : List Loc), post r u → va_P D vwCl (w1 u ++ wb) H1 → va_D A (w1 u ++ wb) → va_S A s.heap H1 locs1 → W p l e R s m av.toArray below meth c H1 locs1 (cells + mc) (slots + ms) Q (F0 m (pc + 3) ls (.int r :: rest))) :
    W p l e R s m av.toArray below meth c H locs cells slots Q (F0 m pc ls (As.reverse ++ .ref b :: rest)) :=
  f_VR C0 hE hl (f_swP hP) (f_swD hD) hS hM cw hdg q0 hrc hci hr1 hlen hroom hcells hslots hw (fun r u H1 locs1 h hP hD hS => kk r u H1 locs1 h (f_swP hP) (f_swD hD) hS)
theorem f_VO {post : Int32 → S → Prop} (C0 : m_C p l e s m av meth c cc ret nL own Ts D cY A) (hE : m_E sa tO A s s.heap) (hl : lv_has ls nL lv) (hP : va_P D vwCl wb H) (hD : va_D A wb) (hS : va_S A s.heap H locs)
    (hM : m_Me l y wsy fr lo mc ms D cY sa tO (.ref b :: As) wb post w1) (cw : CallW R s av.toArray own C index y bytes maxL rety wsy { frames := fr, cells := mc, slots := ms, locals := lo } mc ms n) (hdg : decode cc pc = .ok (.invokevirtual index, 3))
    (q0 : Nat) {ci : Nat} {fs : List Value} {r : vw_C} (hrc : wb[q0]? = some (b, .inr (ci, fs))) (hci : vwCl[ci]? = some r) (hr1 : r.1 = C)
    (hlen : As.length = n) (hroom : (rest.map fun v => v.category).sum ≤ 8) (hcells : cells + mc ≤ R.cells) (hslots : slots + ms ≤ R.slots) (hw : ∀ u, (w1 u).map Prod.fst = wb.map Prod.fst)
    (kk : ∀ (r : Int32) (u : S) (H1 : Heap) (locs1 : List Loc), post r u → va_P D vwCl (w1 u) H1 → va_D A (w1 u) → va_S A s.heap H1 locs1 → W p l e R s m av.toArray below meth c H1 locs1 (cells + mc) (slots + ms) Q (F0 m (pc + 3) ls (.int r :: rest))) :
    W p l e R s m av.toArray below meth c H locs cells slots Q (F0 m pc ls (As.reverse ++ .ref b :: rest)) :=
  f_VR (wa := []) C0 hE hl hP hD hS hM cw hdg q0 hrc hci hr1 hlen hroom hcells hslots hw kk
/-- ends -/
theorem f_iret {post : Int32 → S → Prop} {v : Int32} (hc : cells ≤ mc) (hs : slots ≤ ms) (C0 : m_C p l e s m av meth c cc (some .int) nL own Ts D cY A) (hS : va_S A s.heap H locs) (hdg : decode cc pc = .ok (.ireturn, 1)) (u : S) (hP : va_P D vwCl (w1 u) H) (hq : post v u) :
    W p l e R s m av.toArray below meth c H locs cells slots (MQ below (va_Qi post (fun u t => va_P D vwCl (w1 u) t.heap) A) av.toArray s mc ms A) (F0 m pc ls [.int v]) := by
  obtain ⟨hx, hb, hr, hml, hts, hown, hlocks, hK, hA⟩ := C0
  exact W.widen hc hs (W.iret hx hb hr (fun t ht hW => ⟨⟨v, u, rfl, hq, by show va_P D vwCl (w1 u) t.heap; rw [ht]; exact hP⟩, hS.F ht⟩) hS.2.2 hdg)
theorem f_zret {post : Int32 → S → Prop} {v : Int32} {ty : FieldType} (hc : cells ≤ mc) (hs : slots ≤ ms) (C0 : m_C p l e s m av meth c cc (some ty) nL own Ts D cY A) (hnr : narrow ty (.int v) = .int v) (hS : va_S A s.heap H locs) (hdg : decode cc pc = .ok (.ireturn, 1)) (u : S) (hP : va_P D vwCl (w1 u) H) (hq : post v u) :
    W p l e R s m av.toArray below meth c H locs cells slots (MQ below (va_Qi post (fun u t => va_P D vwCl (w1 u) t.heap) A) av.toArray s mc ms A) (F0 m pc ls [.int v]) := by
  obtain ⟨hx, hb, hr, hml, hts, hown, hlocks, hK, hA⟩ := C0
  exact W.widen hc hs (W.zret hx hb hr hnr (fun t ht hW => ⟨⟨v, u, rfl, hq, by show va_P D vwCl (w1 u) t.heap; rw [ht]; exact hP⟩, hS.F ht⟩) hS.2.2 hdg)
end FCalls
