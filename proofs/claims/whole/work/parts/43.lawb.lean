/-! The law's own state: the class's world and the reference's, side by side; calls out of the law. -/
def law_w (cY : Nat → ClassId) (aa sa : Nat → Nat) (bp : Nat → Nat) (ov : Nat → Int64) (fr : Nat) (tf : Nat → Nat) (len : Nat) (sc : Nat) (cur : Nat) (tx : Nat → Nat) (f : Nat → Nat) (cnt : Nat) (rf : Nat → Nat) (rc : Nat) (sf : Nat → Nat) (sn : Nat) (z : Nat) (g0 : Nat → Nat) (g1 : Nat → Nat) (g2 : Nat → Nat) (g3 : Nat → Nat) (t0 : Nat) (t1 : Nat) (t2 : Nat) (t3 : Nat) (sk : Nat) (pt : Nat → Int32) (pg : Nat → Int32) (pf : Nat → Int32) (pe : Nat → Int32) (th : Nat) (ta : Nat) (yr : Int32) (ys : Int32) (yo : Int32) (yf : Int32) (ye : Int32) (kf : Nat → Nat) (kc : Nat) (rv : Nat → Nat) (cv : Nat → Nat) (bv : Nat → Nat) (f2 : Nat → Nat) (cnt2 : Nat) (sf2 : Nat → Nat) (sn2 : Nat) (z2 : Nat) (sk2 : Nat) (len2 : Nat) (tx2 : Nat → Nat) : va_W :=
  [((aa 0), .inl (cY 2, 1, .inr (.inl ov))), ((aa 1), .inr (6, [.ref (aa 2), .ref (aa 3), .ref (aa 4), .ref (aa 5), .ref (aa 6), .ref (aa 7), .ref (aa 8), .int (nI sk)])), ((aa 2), .inr (2, [.ref (aa 9)])), ((aa 9), .inl (cY 0, 256, .inl (m_nf bp))), ((aa 3), .inr (1, [.ref (aa 10), .int (nI fr)])), ((aa 10), .inl (cY 0, 256, .inl (m_nf tf))), ((aa 4), .inr (3, [.ref (aa 11), .ref (aa 12), .int (nI len), .int (nI sc), .int (nI cur)])), ((aa 11), .inl (cY 1, 60, .inl (m_nf tx))), ((aa 12), .inl (cY 4, 15, .inr (.inr (.inr (.inr (m_sa sa)))))), ((aa 5), .inr (4, [.ref (aa 13), .int (nI cnt)])), ((aa 13), .inl (cY 0, 8, .inl (m_nf f))), ((aa 6), .inr (4, [.ref (aa 14), .int (nI rc)])), ((aa 14), .inl (cY 0, 8, .inl (m_nf rf))), ((aa 7), .inr (4, [.ref (aa 15), .int (nI sn)])), ((aa 15), .inl (cY 0, 8, .inl (m_nf sf))), ((aa 8), .inr (0, [.ref (aa 16), .int (nI z)])), ((aa 16), .inl (cY 3, 4, .inr (.inr (.inr (.inr (m_k4 (aa 17) (aa 18) (aa 19) (aa 20))))))), ((aa 17), .inr (4, [.ref (aa 21), .int (nI t0)])), ((aa 21), .inl (cY 0, 8, .inl (m_nf g0))), ((aa 18), .inr (4, [.ref (aa 22), .int (nI t1)])), ((aa 22), .inl (cY 0, 8, .inl (m_nf g1))), ((aa 19), .inr (4, [.ref (aa 23), .int (nI t2)])), ((aa 23), .inl (cY 0, 8, .inl (m_nf g2))), ((aa 20), .inr (4, [.ref (aa 24), .int (nI t3)])), ((aa 24), .inl (cY 0, 8, .inl (m_nf g3))), ((aa 25), .inr (7, [.ref (aa 26), .ref (aa 27), .ref (aa 28), .int (nI z2), .ref (aa 29), .int (nI sk2), .int (nI th), .ref (aa 30), .int (nI len2), .int (nI ta), .int yr, .int ys, .int yo, .int yf, .int ye, .ref (aa 31), .ref (aa 32)])), ((aa 26), .inl (cY 0, 9, .inl (m_nf (m_all f2 cnt2)))), ((aa 27), .inl (cY 0, 9, .inl (m_nf (m_all kf kc)))), ((aa 29), .inl (cY 0, 9, .inl (m_nf (m_all sf2 sn2)))), ((aa 28), .inl (cY 0, 36, .inl (m_nf rv))), ((aa 30), .inl (cY 0, 60, .inl (m_nf tx2))), ((aa 31), .inl (cY 0, 16, .inl (m_nf cv))), ((aa 32), .inl (cY 0, 16, .inl (m_nf bv)))] ++ m_pool sa pt pg pf pe

/-- what the recorded states are, the last one first -/
def law_H (z : Nat) (hh : Nat → Nat → Nat) (g0 g1 g2 g3 : Nat → Nat) (t0 t1 t2 t3 : Nat) : Prop :=
  (0 < z → ∀ j, j < 9 → hh 0 j = m_all g0 t0 j) ∧ (1 < z → ∀ j, j < 9 → hh 1 j = m_all g1 t1 j) ∧ (2 < z → ∀ j, j < 9 → hh 2 j = m_all g2 t2 j) ∧ (3 < z → ∀ j, j < 9 → hh 3 j = m_all g3 t3 j)
def law_g (f : Nat → Nat) : Prop := m_z 8 f ∧ ∀ j, f j < 65536
def law_I (fr : Nat) (tf : Nat → Nat) (len : Nat) (tx f rf sf : Nat → Nat) (z : Nat) (g0 g1 g2 g3 : Nat → Nat) (t0 t1 t2 t3 sk : Nat) (rv : Nat → Nat) : Prop :=
  law_g f ∧ m_z 8 rf ∧ law_g sf ∧ (law_g g0 ∧ law_g g1 ∧ law_g g2 ∧ law_g g3) ∧ z ≤ 4 ∧ (fr ≤ 16 ∧ n_tf fr tf) ∧ (len ≤ 60 ∧ ∀ j, tx j < 65536) ∧ (sk = 0 ∨ sk = 1) ∧ ∃ hh, n_rec z rv hh ∧ law_H z hh g0 g1 g2 g3 t0 t1 t2 t3
theorem law_H_rec {z : Nat} {hh : Nat → Nat → Nat} {f g0 g1 g2 g3 : Nat → Nat} {cnt t0 t1 t2 t3 : Nat} (h : law_H z hh g0 g1 g2 g3 t0 t1 t2 t3) : law_H (min (z + 1) 4) (n_push (m_all f cnt) hh) f g0 g1 g2 cnt t0 t1 t2 :=
  ⟨fun _ j _ => if_pos rfl, fun q j hj => (if_neg (by decide)).trans (h.1 (by omega) j hj), fun q j hj => (if_neg (by decide)).trans (h.2.1 (by omega) j hj), fun q j hj => (if_neg (by decide)).trans (h.2.2.1 (by omega) j hj)⟩
theorem law_I_rec {fr : Nat} {tf : Nat → Nat} {len : Nat} {tx f rf sf : Nat → Nat} {z : Nat} {g0 g1 g2 g3 : Nat → Nat} {cnt t0 t1 t2 t3 sk : Nat} {rv : Nat → Nat} {hh : Nat → Nat → Nat} {f2 rf2 rv2 : Nat → Nat}
    (hI : law_I fr tf len tx f rf sf z g0 g1 g2 g3 t0 t1 t2 t3 sk rv) (hH : law_H z hh g0 g1 g2 g3 t0 t1 t2 t3) (h2 : law_g f2) (h3 : m_z 8 rf2) (hr : n_rec (min (z + 1) 4) rv2 (n_push (m_all f cnt) hh)) :
    law_I fr tf len tx f2 rf2 sf (min (z + 1) 4) f g0 g1 g2 cnt t0 t1 t2 sk rv2 := by
  obtain ⟨i1, i2, i3, ⟨i4, i5, i6, i7⟩, i8, i9, i10, i11, -⟩ := hI
  exact ⟨h2, h3, i3, ⟨i1, i4, i5, i6⟩, by omega, i9, i10, i11, _, hr, law_H_rec hH⟩
theorem law_I_undo {fr : Nat} {tf : Nat → Nat} {len : Nat} {tx f rf sf : Nat → Nat} {z : Nat} {g0 g1 g2 g3 : Nat → Nat} {t0 t1 t2 t3 sk : Nat} {rv : Nat → Nat} {hh : Nat → Nat → Nat}
    (hI : law_I fr tf len tx f rf sf z g0 g1 g2 g3 t0 t1 t2 t3 sk rv) (hH : law_H z hh g0 g1 g2 g3 t0 t1 t2 t3) (hr : n_rec (z - 1) rv (fun k => hh (k + 1))) :
    law_I fr tf len tx g0 rf sf (z - 1) g1 g2 g3 g3 t1 t2 t3 t3 sk rv := by
  obtain ⟨i1, i2, i3, ⟨i4, i5, i6, i7⟩, i8, i9, i10, i11, -⟩ := hI
  exact ⟨i4, i2, i3, ⟨i5, i6, i7, i7⟩, by omega, i9, i10, i11, _, hr, fun q => hH.2.1 (by omega), fun q => hH.2.2.1 (by omega), fun q => hH.2.2.2 (by omega), fun q => absurd q (by omega)⟩
theorem law_g_up {f : Nat → Nat} {k v : Nat} (h : law_g f) (hk : k < 8) (hv : v < 65536) : law_g (m_up f k v) := ⟨m_zup h.1 hk, m_up_lt h.2 hv⟩
theorem p_run_g : ∀ (q : List p_St) (k : Nat) (f : Nat → Nat) (cnt : Nat), (∀ x ∈ q, x.1 < 8) → law_g f → law_g (p_run q k f cnt).2.1
  | [], _, _, _, _, h => h
  | x :: q, k, f, cnt, hx, h => by
    rw [p_run]
    split
    · exact h
    · rename_i w hw
      unfold p_do at hw
      split at hw
      · cases hw
      · rename_i v hv
        cases hw
        exact p_run_g q (k + 1) _ _ (fun y hy => hx y (List.mem_cons_of_mem _ hy)) (law_g_up h (hx x List.mem_cons_self) (p_x16 (p_val_lt h.2) (p_val_lt h.2) v hv))
theorem p_step_8 {tx : Nat → Nat} {len k : Nat} {q : p_St × Nat} (h : p_step tx len k = .inr q) : q.1.1 < 8 := by
  unfold p_step p_tgt at h
  split at h
  · cases h
  · rename_i w hw
    split at hw
    · cases hw
    · rename_i x hx
      have hx8 : x < 8 := by
        unfold p_rg at hx
        split at hx
        · cases hx; omega
        · cases hx
      split at hw
      · cases hw
        split at h
        · cases h
        · cases h
          exact hx8
      · cases hw
theorem p_prog_8 {tx : Nat → Nat} {len : Nat} : ∀ (n k : Nat) (ps : List p_St), p_prog tx len n k = .inr ps → ps ≠ [] ∧ ∀ x ∈ ps, x.1 < 8
  | 0, _, _, h => by cases h
  | n + 1, k, ps, h => by
    rw [p_prog] at h
    split at h
    · cases h
    · rename_i q hq
      have h8 := p_step_8 hq
      split at h
      · cases h
        exact ⟨by simp, fun x hx => by simp at hx; subst hx; exact h8⟩
      · split at h
        · split at h
          · cases h
          · rename_i r hr
            cases h
            have := p_prog_8 n _ _ hr
            exact ⟨by simp, fun x hx => by rcases List.mem_cons.mp hx with rfl | hx; exact h8; exact this.2 x hx⟩
        · cases h
theorem p_prog_last {tx : Nat → Nat} {len n k : Nat} {ps : List p_St} (h : p_prog tx len n k = .inr ps) : ∃ lx, ps.getLast? = some lx ∧ lx.1 < 8 := by
  obtain ⟨h1, h2⟩ := p_prog_8 n k ps h
  exact ⟨ps.getLast h1, List.getLast?_eq_some_getLast h1, h2 _ (List.getLast_mem h1)⟩
theorem l_char (x : Int32) : ∃ ch, ch < 65536 ∧ (x.toUInt32 % 65536).toInt32 = nI ch := by
  refine ⟨(x.toUInt32 % 65536).toNat, ?_, ?_⟩
  · rw [UInt32.toNat_mod]
    exact Nat.mod_lt _ (by decide)
  · unfold nI
    apply Int32.toBitVec_inj.mp
    apply BitVec.eq_of_toNat_eq
    simp
    show x.toBitVec.toNat % 65536 = x.toBitVec.toNat % 65536 % 4294967296
    omega
theorem m_cmp_self (x : Int64) : lg_cmp x x = nI 0 := by
  unfold lg_cmp
  simp
  try rfl
/-- what stands fixed through the law's body -/
def law_F (p : Program) (l : Launch) (e : Env) (s : State) (m : MethodId) (meth : Method) (c : Code) (b L : Nat) (xs : Nat → Int32) (D : va_G) (cY : Nat → ClassId) (A : Nat → Prop) (eS : Nat → Nat) (eO : Nat) (bp : Nat → Nat) : Prop :=
  m_C p l e s m [.ref b] meth c cL_law ret 7 RL wsL_law D cY A ∧ m_E eS eO A s s.heap ∧ va_X b L xs s s.heap ∧ b < s.heap.size ∧ ¬ A b ∧ L ≤ 1536 ∧ n_bp bp ∧ l.stackTraces = false
section MLaw
variable {p : Program} {l : Launch} {e : Env} {R : Room} {s : State} {m : MethodId} {av : List Value} {below : List Frame} {meth : Method} {c : Code} {H : Heap} {locs : List Loc} {cells slots : Nat} {Q : State → Prop}
variable {cc : ByteArray} {ret : Option FieldType} {nL : Nat} {own : String} {Ts : List Cond} {D : va_G} {cY : Nat → ClassId} {sa : Nat → Nat} {tO : Nat} {A : Nat → Prop} {pc : Nat} {ls : Array Slot} {rest : List Value} {ws X pl : va_W} {lv : List (Nat × Value)}
variable {y : MethodName} {bytes : ByteArray} {maxL n index fr lo mc ms : Nat} {rety : Option FieldType} {hh : List (Nat × Nat × Nat × Nat)} {wsy : List Cond} {As : List Value} {wc cx : va_W} {S : Type} {w1 x1 pl1 : S → va_W} {b : Nat} {C : String}
theorem m_callTi {post : Int32 → S → Prop} (C0 : m_C p l e s m av meth c cc ret nL own Ts D cY A) (hl : lv_has ls nL lv) (hP : va_P D vwCl ws H) (hD : va_D A ws) (hS : va_S A s.heap H locs)
    (hM : m_Mi l y wsy fr lo D cY As wc post w1) (cw : vx_CSW R s av.toArray own index y bytes maxL rety hh wsy { frames := fr, cells := 0, slots := 0, locals := lo } 0 0 n) (hdg : decode cc pc = .ok (.invokestatic index, 3))
    (isC : List Nat) (hC : isC.map (fun i => ws[i]?) = wc.map some) (hn : va_nd isC = true)
    (hlen : As.length = n) (hroom : (rest.map fun v => v.category).sum ≤ 8) (hcells : cells ≤ R.cells) (hslots : slots ≤ R.slots) (hw : ∀ u, (w1 u).map Prod.fst = wc.map Prod.fst)
    (kk : ∀ (r : Int32) (u : S) (H1 : Heap) (locs1 : List Loc), post r u → va_P D vwCl (m_set ws isC (w1 u)) H1 → va_D A (m_set ws isC (w1 u)) → va_S A s.heap H1 locs1 → W p l e R s m av.toArray below meth c H1 locs1 cells slots Q (F0 m (pc + 3) ls (.int r :: rest))) :
    W p l e R s m av.toArray below meth c H locs cells slots Q (F0 m pc ls (As.reverse ++ rest)) := by
  obtain ⟨hx, hb, hr, hml, hts, hown, hlocks, hK, hA⟩ := id C0
  have hFc := m_free hD hS hA isC hC
  refine va_calli (vx_runSW (As := As) (rest := rest) ⟨hx, hb, hml, hown, hts⟩ (hM H.size) cw ⟨m_blind, fun U hU hW => m_preOf C0 hP hD isC hC hn U hU hW⟩ rfl hlen hl.1 rfl (lv_room hroom) hdg ⟨hcells, hslots⟩) hS (fun q _ h => hFc q h) hFc (fun r u t H1 locs1 ht hvm hw1 hB hz1 hk1 hS => ?_)
  rw [ht] at hB
  obtain ⟨hP2, hD2⟩ := m_join hP hD isC hC hn hk1 hB (hw u)
  exact kk r u H1 locs1 hw1 hP2 hD2 hS
theorem m_callTe {post : Int32 → S → Prop} (C0 : m_C p l e s m av meth c cc ret nL own Ts D cY A) (hE : m_E sa tO A s s.heap) (hl : lv_has ls nL lv) (hP : va_P D vwCl ws H) (hD : va_D A ws) (hS : va_S A s.heap H locs)
    (hM : m_Me l y wsy fr lo mc ms D cY sa tO As wc post w1) (cw : vx_CSW R s av.toArray own index y bytes maxL rety hh wsy { frames := fr, cells := mc, slots := ms, locals := lo } mc ms n) (hdg : decode cc pc = .ok (.invokestatic index, 3))
    (isC : List Nat) (hC : isC.map (fun i => ws[i]?) = wc.map some) (hn : va_nd isC = true)
    (hlen : As.length = n) (hroom : (rest.map fun v => v.category).sum ≤ 8) (hcells : cells + mc ≤ R.cells) (hslots : slots + ms ≤ R.slots) (hw : ∀ u, (w1 u).map Prod.fst = wc.map Prod.fst)
    (kk : ∀ (r : Int32) (u : S) (H1 : Heap) (locs1 : List Loc), post r u → va_P D vwCl (m_set ws isC (w1 u)) H1 → va_D A (m_set ws isC (w1 u)) → va_S A s.heap H1 locs1 → W p l e R s m av.toArray below meth c H1 locs1 (cells + mc) (slots + ms) Q (F0 m (pc + 3) ls (.int r :: rest))) :
    W p l e R s m av.toArray below meth c H locs cells slots Q (F0 m pc ls (As.reverse ++ rest)) := by
  obtain ⟨hx, hb, hr, hml, hts, hown, hlocks, hK, hA⟩ := id C0
  have hFc := m_free hD hS hA isC hC
  refine va_calli (vx_runSW (As := As) (rest := rest) ⟨hx, hb, hml, hown, hts⟩ (hM H.size) cw ⟨m_blindE, fun U hU hW => m_preOfE C0 hE hP hD hS isC hC hn U hU hW⟩ rfl hlen hl.1 rfl (lv_room hroom) hdg ⟨hcells, hslots⟩) hS (fun q _ h => hFc q h) hFc (fun r u t H1 locs1 ht hvm hw1 hB hz1 hk1 hS => ?_)
  rw [ht] at hB
  obtain ⟨hP2, hD2⟩ := m_join hP hD isC hC hn hk1 hB (hw u)
  exact kk r u H1 locs1 hw1 hP2 hD2 hS
variable {wr : va_W}
theorem m_callTji {post : Int32 → S → Prop} (C0 : m_C p l e s m av meth c cc ret nL own Ts D cY A) (hl : lv_has ls nL lv) (hP : va_P D vwCl ws H) (hD : va_D A ws) (hS : va_S A s.heap H locs)
    (hM : m_Mi l y wsy fr lo D cY As wc post w1) (cw : vx_CSW R s av.toArray own index y bytes maxL rety hh wsy { frames := fr, cells := 0, slots := 0, locals := lo } 0 0 n) (hdg : decode cc pc = .ok (.invokestatic index, 3))
    (isC isR : List Nat) (hC : isC.map (fun i => ws[i]?) = wc.map some) (hR : isR.map (fun i => ws[i]?) = wr.map some) (hn : va_nd isC = true) (hnR : va_nd isR = true) (hdis : ∀ i ∈ isR, i ∉ isC)
    (hlen : As.length = n) (hroom : (rest.map fun v => v.category).sum ≤ 8) (hcells : cells ≤ R.cells) (hslots : slots ≤ R.slots) (hw : ∀ u, (w1 u).map Prod.fst = wc.map Prod.fst)
    (kk : ∀ (r : Int32) (u : S) (H1 : Heap) (locs1 : List Loc), post r u → va_P D vwCl (wr ++ w1 u) H1 → va_D A (wr ++ w1 u) → va_S A s.heap H1 locs1 → W p l e R s m av.toArray below meth c H1 locs1 cells slots Q (F0 m (pc + 3) ls (.int r :: rest))) :
    W p l e R s m av.toArray below meth c H locs cells slots Q (F0 m pc ls (As.reverse ++ rest)) := by
  obtain ⟨hx, hb, hr, hml, hts, hown, hlocks, hK, hA⟩ := id C0
  have hFc := m_free hD hS hA isC hC
  have hDc : va_D (fun _ => True) wc := (hD.sub isC hn hC).weaken (fun _ _ _ _ => trivial)
  refine va_calli (vx_runSW (As := As) (rest := rest) ⟨hx, hb, hml, hown, hts⟩ (hM H.size) cw ⟨m_blind, fun U hU hW => m_preOf C0 hP hD isC hC hn U hU hW⟩ rfl hlen hl.1 rfl (lv_room hroom) hdg ⟨hcells, hslots⟩) hS (fun q _ h => hFc q h) hFc (fun r u t H1 locs1 ht hvm hw1 hB hz1 hk1 hS => ?_)
  rw [ht] at hB
  obtain ⟨hP2, hD2⟩ := va_join hP hD isC isR hC hR hnR hdis hk1 hFc hB (m_Dfst hDc.self (hw u))
  exact kk r u H1 locs1 hw1 hP2 hD2 hS
theorem m_callTje {post : Int32 → S → Prop} (C0 : m_C p l e s m av meth c cc ret nL own Ts D cY A) (hE : m_E sa tO A s s.heap) (hl : lv_has ls nL lv) (hP : va_P D vwCl ws H) (hD : va_D A ws) (hS : va_S A s.heap H locs)
    (hM : m_Me l y wsy fr lo mc ms D cY sa tO As wc post w1) (cw : vx_CSW R s av.toArray own index y bytes maxL rety hh wsy { frames := fr, cells := mc, slots := ms, locals := lo } mc ms n) (hdg : decode cc pc = .ok (.invokestatic index, 3))
    (isC isR : List Nat) (hC : isC.map (fun i => ws[i]?) = wc.map some) (hR : isR.map (fun i => ws[i]?) = wr.map some) (hn : va_nd isC = true) (hnR : va_nd isR = true) (hdis : ∀ i ∈ isR, i ∉ isC)
    (hlen : As.length = n) (hroom : (rest.map fun v => v.category).sum ≤ 8) (hcells : cells + mc ≤ R.cells) (hslots : slots + ms ≤ R.slots) (hw : ∀ u, (w1 u).map Prod.fst = wc.map Prod.fst)
    (kk : ∀ (r : Int32) (u : S) (H1 : Heap) (locs1 : List Loc), post r u → va_P D vwCl (wr ++ w1 u) H1 → va_D A (wr ++ w1 u) → va_S A s.heap H1 locs1 → W p l e R s m av.toArray below meth c H1 locs1 (cells + mc) (slots + ms) Q (F0 m (pc + 3) ls (.int r :: rest))) :
    W p l e R s m av.toArray below meth c H locs cells slots Q (F0 m pc ls (As.reverse ++ rest)) := by
  obtain ⟨hx, hb, hr, hml, hts, hown, hlocks, hK, hA⟩ := id C0
  have hFc := m_free hD hS hA isC hC
  have hDc : va_D (fun _ => True) wc := (hD.sub isC hn hC).weaken (fun _ _ _ _ => trivial)
  refine va_calli (vx_runSW (As := As) (rest := rest) ⟨hx, hb, hml, hown, hts⟩ (hM H.size) cw ⟨m_blindE, fun U hU hW => m_preOfE C0 hE hP hD hS isC hC hn U hU hW⟩ rfl hlen hl.1 rfl (lv_room hroom) hdg ⟨hcells, hslots⟩) hS (fun q _ h => hFc q h) hFc (fun r u t H1 locs1 ht hvm hw1 hB hz1 hk1 hS => ?_)
  rw [ht] at hB
  obtain ⟨hP2, hD2⟩ := va_join hP hD isC isR hC hR hnR hdis hk1 hFc hB (m_Dfst hDc.self (hw u))
  exact kk r u H1 locs1 hw1 hP2 hD2 hS
end MLaw
def law_K (p : Program) (l : Launch) (e : Env) (s : State) (m : MethodId) (below : List Frame) (meth : Method) (c : Code) (b : Nat) (D : va_G) (cY : Nat → ClassId) (A : Nat → Prop) (Q : State → Prop) (aa sa bp : Nat → Nat) (i cells slots : Nat) : Prop :=
  ∀ (ov : Nat → Int64) (fr : Nat) (tf : Nat → Nat) (len : Nat) (sc : Nat) (cur : Nat) (tx : Nat → Nat) (f : Nat → Nat) (cnt : Nat) (rf : Nat → Nat) (rc : Nat) (sf : Nat → Nat) (sn : Nat) (z : Nat) (g0 : Nat → Nat) (g1 : Nat → Nat) (g2 : Nat → Nat) (g3 : Nat → Nat) (t0 : Nat) (t1 : Nat) (t2 : Nat) (t3 : Nat) (sk : Nat) (pt : Nat → Int32) (pg : Nat → Int32) (pf : Nat → Int32) (pe : Nat → Int32) (th : Nat) (ta : Nat) (yr : Int32) (ys : Int32) (yo : Int32) (yf : Int32) (ye : Int32) (kf : Nat → Nat) (kc : Nat) (rv : Nat → Nat) (cv : Nat → Nat) (bv : Nat → Nat) (H : Heap) (locs : List Loc) (ls : Array Slot), law_I fr tf len tx f rf sf z g0 g1 g2 g3 t0 t1 t2 t3 sk rv → va_P D vwCl (law_w cY aa sa bp ov fr tf len sc cur tx f cnt rf rc sf sn z g0 g1 g2 g3 t0 t1 t2 t3 sk pt pg pf pe th ta yr ys yo yf ye kf kc rv cv bv f cnt sf sn z sk len tx) H → va_D A (law_w cY aa sa bp ov fr tf len sc cur tx f cnt rf rc sf sn z g0 g1 g2 g3 t0 t1 t2 t3 sk pt pg pf pe th ta yr ys yo yf ye kf kc rv cv bv f cnt sf sn z sk len tx) → va_S A s.heap H locs → lv_has ls 7 [(0, .ref b), (1, .ref (aa 1)), (2, .ref (aa 25)), (3, .ref (aa 0)), (4, .int (nI i))] → W p l e room_1 s m #[.ref b] below meth c H locs cells slots Q (F0 m 1541 ls [])

