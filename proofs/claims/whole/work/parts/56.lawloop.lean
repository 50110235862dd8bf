/-! The law's loop. -/
theorem l_cond {i L : Nat} (hi : i < 4000) (hL : L ≤ 1536) : (Int32.ofNat L - nI 3 < nI i) ↔ L < i + 3 := by
  have e1 : (Int32.ofNat L - nI 3).toInt = (L : Int) - 3 := by
    have := pk_sub_toInt (a := L) (b := 3) (by omega) (by decide)
    exact this
  have e2 : (nI i).toInt = i := nI_toInt (by omega)
  rw [Int32.lt_iff_toInt_lt, e1, e2]
  omega
theorem l_and (x : Int32) : ∃ q, q < 32 ∧ x &&& nI 31 = nI q := by
  refine ⟨x.toBitVec.toNat &&& 31, Nat.lt_of_le_of_lt Nat.and_le_right (by decide), ?_⟩
  apply Int32.toBitVec_inj.mp
  apply BitVec.eq_of_toNat_eq
  simp [nI]
set_option maxHeartbeats 4000000 in
theorem law_loop {p : Program} {l : Launch} {e : Env} {s : State} {m : MethodId} {below : List Frame} {meth : Method} {c : Code} {b L : Nat} {xs : Nat → Int32} {D : va_G} {cY : Nat → ClassId} {A : Nat → Prop} {eS : Nat → Nat} {eO : Nat} {Q : State → Prop} {aa sa bp : Nat → Nat} (F : law_F p l e s m meth c b L xs D cY A eS eO bp) (hQ : ∀ (H : Heap) (locs : List Loc) (ls : Array Slot) (cells slots : Nat), cells ≤ 700 → slots ≤ 5000 → va_S A s.heap H locs → W p l e room_1 s m #[.ref b] below meth c H locs cells slots Q (F0 m 1547 ls [])) :
    ∀ (n : Nat) (ov : Nat → Int64) (fr : Nat) (tf : Nat → Nat) (len : Nat) (sc : Nat) (cur : Nat) (tx : Nat → Nat) (f : Nat → Nat) (cnt : Nat) (rf : Nat → Nat) (rc : Nat) (sf : Nat → Nat) (sn : Nat) (z : Nat) (g0 : Nat → Nat) (g1 : Nat → Nat) (g2 : Nat → Nat) (g3 : Nat → Nat) (t0 : Nat) (t1 : Nat) (t2 : Nat) (t3 : Nat) (sk : Nat) (pt : Nat → Int32) (pg : Nat → Int32) (pf : Nat → Int32) (pe : Nat → Int32) (th : Nat) (ta : Nat) (yr : Int32) (ys : Int32) (yo : Int32) (yf : Int32) (ye : Int32) (kf : Nat → Nat) (kc : Nat) (rv : Nat → Nat) (cv : Nat → Nat) (bv : Nat → Nat) (i : Nat) (H : Heap) (locs : List Loc) (ls : Array Slot) (cells slots : Nat), i ≤ L + 2 → L + 3 - i < n → 3 * cells ≤ i + 300 → slots ≤ 2 * i + 1000 → law_I fr tf len tx f rf sf z g0 g1 g2 g3 t0 t1 t2 t3 sk rv → va_P D vwCl (law_w cY aa sa bp ov fr tf len sc cur tx f cnt rf rc sf sn z g0 g1 g2 g3 t0 t1 t2 t3 sk pt pg pf pe th ta yr ys yo yf ye kf kc rv cv bv f cnt sf sn z sk len tx) H → va_D A (law_w cY aa sa bp ov fr tf len sc cur tx f cnt rf rc sf sn z g0 g1 g2 g3 t0 t1 t2 t3 sk pt pg pf pe th ta yr ys yo yf ye kf kc rv cv bv f cnt sf sn z sk len tx) → va_S A s.heap H locs → lv_has ls 7 [(0, .ref b), (1, .ref (aa 1)), (2, .ref (aa 25)), (3, .ref (aa 0)), (4, .int (nI i))] →
      W p l e room_1 s m #[.ref b] below meth c H locs cells slots Q (F0 m 23 ls []) := by
  obtain ⟨C0, hE, hX, hbl, hbA, hL, hB, hfl⟩ := id F
  obtain ⟨hx, hb, hr, hml, hts, hown, hlocks, hK, hA⟩ := id C0
  have hr1 : room_1.cells = 629702 := rfl
  have hr2 : room_1.slots = 7206999 := rfl
  intro n
  induction n with
  | zero => intros; omega
  | succ n ih =>
    intro ov fr tf len sc cur tx f cnt rf rc sf sn z g0 g1 g2 g3 t0 t1 t2 t3 sk pt pg pf pe th ta yr ys yo yf ye kf kc rv cv bv i H locs ls cells slots hi hn hc1 hc2 hI hP hD hS hl
    refine lv_iload hx hb dL_law_23 (lv_at hl 4 rfl) ?_
    refine lv_aload_n hx hb dL_law_25 rfl (lv_at hl 0 rfl) ?_
    refine va_slen hx hb hX hbl hbA hS dL_law_26 ?_
    refine lv_iconst (v := nI 3) hx hb dL_law_27 (by decide) ?_
    refine lv_isub hx hb dL_law_28 ?_
    refine lv_icmp_gt (tgt := 1547) hx hb dL_law_29 (by decide) (fun c29 => ?_) (fun c29 => ?_)
    · exact hQ H locs ls cells slots (by omega) (by omega) hS
    · have c29 : ¬ L < i + 3 := fun q => c29 ((l_cond (by omega) hL).mpr q)
      refine lv_aload_n hx hb dL_law_32 rfl (lv_at hl 0 rfl) ?_
      refine lv_iload hx hb dL_law_33 (lv_at hl 4 rfl) ?_
      refine va_sld hx hb hX hbl hbA hS (i := nI i) (m_in (n := i) (by omega) (by omega)) dL_law_35 ?_
      refine lv_bipush (v := nI 31) hx hb dL_law_36 (by decide) ?_
      refine lv_iand hx hb dL_law_38 ?_
      obtain ⟨q, hq, eq⟩ := l_and (xs (nI i).toNatClampNeg)
      refine lv_topi (nm_r eq ?_)
      refine law_switch F (by omega) (by omega) (by omega) hI hP hD hS hl ?_ q hq
      intro ov9 fr9 tf9 len9 sc9 cur9 tx9 f9 cnt9 rf9 rc9 sf9 sn9 z9 g09 g19 g29 g39 t09 t19 t29 t39 sk9 pt9 pg9 pf9 pe9 th9 ta9 yr9 ys9 yo9 yf9 ye9 kf9 kc9 rv9 cv9 bv9 H locs ls hI hP hD hS hl
      refine lv_iinc (v := nI (i + 3)) (lv' := [(4, .int (nI (i + 3))), (0, .ref b), (1, .ref (aa 1)), (2, .ref (aa 25)), (3, .ref (aa 0))]) hx hb dL_law_1541 hl (k := 4) rfl (nI_add _ 3) (by decide) rfl (fun ls hl => ?_)
      refine lv_goto (tgt := 23) hx hb dL_law_1544 (by decide) ?_
      exact ih ov9 fr9 tf9 len9 sc9 cur9 tx9 f9 cnt9 rf9 rc9 sf9 sn9 z9 g09 g19 g29 g39 t09 t19 t29 t39 sk9 pt9 pg9 pf9 pe9 th9 ta9 yr9 ys9 yo9 yf9 ye9 kf9 kc9 rv9 cv9 bv9 (i + 3) H locs ls (cells + 1) (slots + 6) (by omega) (by omega) (by omega) (by omega) hI hP hD hS (lv_sub hl [1, 2, 3, 4, 0] rfl)
