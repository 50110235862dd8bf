set_option maxHeartbeats 4000000 in
set_option maxRecDepth 100000 in
theorem c_X7_valueOf (l : Launch) (D : va_G) (cY : Nat → ClassId) (mx va vk vr vs vt vc vb : Nat) (rl ik th tl ta : Nat) (yr ys yo yf ye : Int32) (f : Nat → Nat) (cnt : Nat) (op : Nat) (hop : op < 65544) : m_Mi l yX7_valueOf wsX7_valueOf 0 0 D cY [.ref mx, .int (p_ref op)] [(mx, .inr (7, [.ref va, .ref vk, .ref vr, .int (nI rl), .ref vs, .int (nI ik), .int (nI th), .ref vt, .int (nI tl), .int (nI ta), .int yr, .int ys, .int yo, .int yf, .int ye, .ref vc, .ref vb])), (va, .inl (cY 0, 9, .inl (m_nf (m_all f cnt))))] (fun (res : Int32) (u : Unit) => res = nI (p_val op f)) (fun (u : Unit) => [(mx, .inr (7, [.ref va, .ref vk, .ref vr, .int (nI rl), .ref vs, .int (nI ik), .int (nI th), .ref vt, .int (nI tl), .int (nI ta), .int yr, .int ys, .int yo, .int yf, .int ye, .ref vc, .ref vb])), (va, .inl (cY 0, 9, .inl (m_nf (m_all f cnt))))]) := by
  refine m_enterI (cc := cX7_valueOf) (maxL := 2) (ret := (some .int)) (by decide +kernel) rfl (Nat.le_of_ble_eq_true rfl) ?_
  intro p e s m below meth c A ls C0 hP hD hl
  obtain ⟨hx, hb, hr, hml, hts, hown, hlocks, hK, hA⟩ := id C0
  generalize hQ : MQ below _ _ s 0 0 A = Q
  have hS : va_S A s.heap s.heap [] := va_S.rf
  have hl : lv_has ls 2 [(0, .ref mx), (1, .int (p_ref op))] := hl
  have hw0 := hts (.fieldLink RX7 7 "NimberFieldModel" "all" "[I") (by decide +kernel)
  have hw1 := (show ∀ w ∈ u_ws RX7 TX7 17, w ∈ wsX7_valueOf from by decide +kernel)
  refine lv_iload_n hx hb dX7_valueOf_0 rfl (lv_at hl 1 rfl) ?_
  refine lv_if_ge (tgt := 16) hx hb dX7_valueOf_1 (by decide) (fun c1 => ?_) (fun c1 => ?_)
  · have c1 := c1
    have c1 := (p_ref_ge hop).mp c1
    refine lv_iload_n hx hb dX7_valueOf_16 rfl (lv_at hl 1 rfl) ?_
    subst hQ
    exact m_iret C0 hS dX7_valueOf_17 (u := ()) hP (by rw [p_ref_n c1, p_val, if_pos c1])
  · have c1 := c1
    have c1 : ¬ op < 65536 := fun q => c1 ((p_ref_ge hop).mpr q)
    obtain ⟨rx, hrx⟩ : ∃ z, z = op - 65536 := ⟨_, rfl⟩
    refine lv_aload_n hx hb dX7_valueOf_4 rfl (lv_at hl 0 rfl) ?_
    refine va_get (D := D) (ci := 7) (v := .ref va) (C := RX7) (T := TX7) (N := 17) hx hb hts hw1 hown hK hP 0 rfl rfl 0 (by decide) hw0 (fun _ h9 => h9) rfl dX7_valueOf_5 ?_
    refine lv_iload_n hx hb dX7_valueOf_8 rfl (lv_at hl 1 rfl) ?_
    refine lv_ineg hx hb dX7_valueOf_9 ?_
    refine lv_iconst (v := nI 1) hx hb dX7_valueOf_10 (by decide) ?_
    refine lv_isub hx hb dX7_valueOf_11 ?_
    refine lv_topi (nm_r ((p_ref_ix hop c1).trans (congrArg nI hrx.symm)) ?_)
    refine va_iald hx hb hK hP 1 0 rfl rfl (m_in (n := rx) (by first | assumption | omega) (by decide)) dX7_valueOf_12 ?_
    refine lv_topi (nm_r (m_ldn (g := m_all f cnt) (n := rx) (by omega)) ?_)
    refine lv_topi (nm_r (congrArg nI (m_all_lt f cnt (show rx < 8 by omega))) ?_)
    refine lv_goto (tgt := 17) hx hb dX7_valueOf_13 (by decide) ?_
    subst hQ
    exact m_iret C0 hS dX7_valueOf_17 (u := ()) hP (by rw [p_val, if_neg c1, ← hrx])
set_option maxHeartbeats 4000000 in
set_option maxRecDepth 100000 in
theorem c_X7_puts (l : Launch) (D : va_G) (cY : Nat → ClassId) (mx va vk vr vs vt vc vb : Nat) (rl ik th tl ta : Nat) (yr ys yo yf ye : Int32) (f : Nat → Nat) (cnt : Nat) (k v : Nat) (hk : k < 8) : m_Mi l yX7_puts wsX7_puts 0 0 D cY [.ref mx, .int (nI k), .int (nI v)] [(mx, .inr (7, [.ref va, .ref vk, .ref vr, .int (nI rl), .ref vs, .int (nI ik), .int (nI th), .ref vt, .int (nI tl), .int (nI ta), .int yr, .int ys, .int yo, .int yf, .int ye, .ref vc, .ref vb])), (va, .inl (cY 0, 9, .inl (m_nf (m_all f cnt))))] (fun (res : Int32) (u : Unit) => res = nI (f k)) (fun (u : Unit) => [(mx, .inr (7, [.ref va, .ref vk, .ref vr, .int (nI rl), .ref vs, .int (nI ik), .int (nI th), .ref vt, .int (nI tl), .int (nI ta), .int yr, .int ys, .int yo, .int yf, .int ye, .ref vc, .ref vb])), (va, .inl (cY 0, 9, .inl (m_nf (m_all (m_up f k v) cnt))))]) := by
  refine m_enterI (cc := cX7_puts) (maxL := 4) (ret := (some .int)) (by decide +kernel) rfl (Nat.le_of_ble_eq_true rfl) ?_
  intro p e s m below meth c A ls C0 hP hD hl
  obtain ⟨hx, hb, hr, hml, hts, hown, hlocks, hK, hA⟩ := id C0
  generalize hQ : MQ below _ _ s 0 0 A = Q
  have hS : va_S A s.heap s.heap [] := va_S.rf
  have hl : lv_has ls 4 [(0, .ref mx), (1, .int (nI k)), (2, .int (nI v))] := hl
  have hw0 := hts (.fieldLink RX7 7 "NimberFieldModel" "all" "[I") (by decide +kernel)
  have hw1 := (show ∀ w ∈ u_ws RX7 TX7 17, w ∈ wsX7_puts from by decide +kernel)
  refine lv_aload_n hx hb dX7_puts_0 rfl (lv_at hl 0 rfl) ?_
  refine va_get (D := D) (ci := 7) (v := .ref va) (C := RX7) (T := TX7) (N := 17) hx hb hts hw1 hown hK hP 0 rfl rfl 0 (by decide) hw0 (fun _ h9 => h9) rfl dX7_puts_1 ?_
  refine lv_iload_n hx hb dX7_puts_4 rfl (lv_at hl 1 rfl) ?_
  refine va_iald hx hb hK hP 1 0 rfl rfl (m_in (n := k) (by first | assumption | omega) (by decide)) dX7_puts_5 ?_
  refine lv_topi (nm_r (m_ldn (g := m_all f cnt) (n := k) (by omega)) ?_)
  refine lv_topi (nm_r (congrArg nI (m_all_lt f cnt hk)) ?_)
  refine lv_istore_n (lv' := [(3, .int (nI (f k))), (0, .ref mx), (1, .int (nI k)), (2, .int (nI v))]) hx hb dX7_puts_6 rfl hl (by decide) rfl (fun ls hl => ?_)
  refine lv_aload_n hx hb dX7_puts_7 rfl (lv_at hl 1 rfl) ?_
  refine va_get (D := D) (ci := 7) (v := .ref va) (C := RX7) (T := TX7) (N := 17) hx hb hts hw1 hown hK hP 0 rfl rfl 0 (by decide) hw0 (fun _ h9 => h9) rfl dX7_puts_8 ?_
  refine lv_iload_n hx hb dX7_puts_11 rfl (lv_at hl 2 rfl) ?_
  refine lv_iload_n hx hb dX7_puts_12 rfl (lv_at hl 3 rfl) ?_
  refine va_iast hx hb hK hP hD hS 1 0 rfl rfl (m_in (n := k) (by first | assumption | omega) (by decide)) dX7_puts_13 (fun H1 locs hP hD hS => ?_)
  have hP : va_P D vwCl [(mx, .inr (7, [.ref va, .ref vk, .ref vr, .int (nI rl), .ref vs, .int (nI ik), .int (nI th), .ref vt, .int (nI tl), .int (nI ta), .int yr, .int ys, .int yo, .int yf, .int ye, .ref vc, .ref vb])), (va, .inl (cY 0, 9, .inl (upd (m_nf (m_all f cnt)) (nI k).toNatClampNeg (nI v))))] H1 := hP
  have hD : va_D A [(mx, .inr (7, [.ref va, .ref vk, .ref vr, .int (nI rl), .ref vs, .int (nI ik), .int (nI th), .ref vt, .int (nI tl), .int (nI ta), .int yr, .int ys, .int yo, .int yf, .int ye, .ref vc, .ref vb])), (va, .inl (cY 0, 9, .inl (upd (m_nf (m_all f cnt)) (nI k).toNatClampNeg (nI v))))] := hD
  rw [m_upd (g := m_all f cnt) (n := k) (v := v) (by omega)] at hP hD
  have hP : va_P D vwCl [(mx, .inr (7, [.ref va, .ref vk, .ref vr, .int (nI rl), .ref vs, .int (nI ik), .int (nI th), .ref vt, .int (nI tl), .int (nI ta), .int yr, .int ys, .int yo, .int yf, .int ye, .ref vc, .ref vb])), (va, .inl (cY 0, 9, .inl (m_nf (m_up (m_all f cnt) k v))))] H1 := hP
  have hD : va_D A [(mx, .inr (7, [.ref va, .ref vk, .ref vr, .int (nI rl), .ref vs, .int (nI ik), .int (nI th), .ref vt, .int (nI tl), .int (nI ta), .int yr, .int ys, .int yo, .int yf, .int ye, .ref vc, .ref vb])), (va, .inl (cY 0, 9, .inl (m_nf (m_up (m_all f cnt) k v))))] := hD
  rw [show m_nf (m_up (m_all f cnt) k v) = m_nf (m_all (m_up f k v) cnt) from congrArg m_nf (m_all_up hk)] at hP hD
  have hP : va_P D vwCl [(mx, .inr (7, [.ref va, .ref vk, .ref vr, .int (nI rl), .ref vs, .int (nI ik), .int (nI th), .ref vt, .int (nI tl), .int (nI ta), .int yr, .int ys, .int yo, .int yf, .int ye, .ref vc, .ref vb])), (va, .inl (cY 0, 9, .inl (m_nf (m_all (m_up f k v) cnt))))] H1 := hP
  have hD : va_D A [(mx, .inr (7, [.ref va, .ref vk, .ref vr, .int (nI rl), .ref vs, .int (nI ik), .int (nI th), .ref vt, .int (nI tl), .int (nI ta), .int yr, .int ys, .int yo, .int yf, .int ye, .ref vc, .ref vb])), (va, .inl (cY 0, 9, .inl (m_nf (m_all (m_up f k v) cnt))))] := hD
  refine lv_iload_n hx hb dX7_puts_14 rfl (lv_at hl 0 rfl) ?_
  subst hQ
  exact m_iret C0 hS dX7_puts_15 (u := ()) hP (by first | trivial | rfl | omega)
set_option maxHeartbeats 4000000 in
set_option maxRecDepth 100000 in
theorem c_X7_records (l : Launch) (D : va_G) (cY : Nat → ClassId) (mx va vk vr vs vt vc vb : Nat) (rl ik th tl ta : Nat) (yr ys yo yf ye : Int32) (f : Nat → Nat) (cnt : Nat) (rv : Nat → Nat) (hh : Nat → Nat → Nat) (hrl : rl ≤ 4) (hrec : n_rec rl rv hh) : m_Mv l yX7_records wsX7_records 0 0 D cY [.ref mx] [(mx, .inr (7, [.ref va, .ref vk, .ref vr, .int (nI rl), .ref vs, .int (nI ik), .int (nI th), .ref vt, .int (nI tl), .int (nI ta), .int yr, .int ys, .int yo, .int yf, .int ye, .ref vc, .ref vb])), (va, .inl (cY 0, 9, .inl (m_nf (m_all f cnt)))), (vr, .inl (cY 0, 36, .inl (m_nf rv)))] (fun (u : (Nat → Nat)) => n_rec (min (rl + 1) 4) u (n_push (m_all f cnt) hh)) (fun (u : (Nat → Nat)) => [(mx, .inr (7, [.ref va, .ref vk, .ref vr, .int (nI (min (rl + 1) 4)), .ref vs, .int (nI ik), .int (nI 0), .ref vt, .int (nI tl), .int (nI ta), .int yr, .int ys, .int yo, .int yf, .int ye, .ref vc, .ref vb])), (va, .inl (cY 0, 9, .inl (m_nf (m_all f cnt)))), (vr, .inl (cY 0, 36, .inl (m_nf u)))]) := by
  refine m_enterV (cc := cX7_records) (maxL := 2) (ret := none) (by decide +kernel) rfl (Nat.le_of_ble_eq_true rfl) ?_
  intro p e s m below meth c A ls C0 hP hD hl
  obtain ⟨hx, hb, hr, hml, hts, hown, hlocks, hK, hA⟩ := id C0
  generalize hQ : MQ below _ _ s 0 0 A = Q
  have hS : va_S A s.heap s.heap [] := va_S.rf
  have hl : lv_has ls 2 [(0, .ref mx)] := hl
  have hw0 := hts (.fieldLink RX7 31 "NimberFieldModel" "thrown" "I") (by decide +kernel)
  have hw1 := (show ∀ w ∈ u_ws RX7 TX7 17, w ∈ wsX7_records from by decide +kernel)
  have hw2 := hts (.fieldLink RX7 35 "NimberFieldModel" "recordedLong" "I") (by decide +kernel)
  have hw3 := hts (.fieldLink RX7 16 "NimberFieldModel" "recorded" "[I") (by decide +kernel)
  have hw4 := hts (.fieldLink RX7 7 "NimberFieldModel" "all" "[I") (by decide +kernel)
  refine lv_aload_n hx hb dX7_records_0 rfl (lv_at hl 0 rfl) ?_
  refine lv_iconst (v := nI 0) hx hb dX7_records_1 (by decide) ?_
  refine va_put (D := D) (ci := 7) (v := .int (nI 0)) (ty := .int) (C := RX7) (T := TX7) (N := 17) hx hb hts hw1 tyX7 tyX7_ok nmX7 hown hK hP hD hS 0 rfl rfl 6 (by decide) hw0 (fun _ h9 => h9) rfl (by decide +kernel) rfl rfl (Nat.le_of_ble_eq_true rfl) dX7_records_2 (fun H1 locs hP hD hS => ?_)
  have hP : va_P D vwCl [(mx, .inr (7, [.ref va, .ref vk, .ref vr, .int (nI rl), .ref vs, .int (nI ik), .int (nI 0), .ref vt, .int (nI tl), .int (nI ta), .int yr, .int ys, .int yo, .int yf, .int ye, .ref vc, .ref vb])), (va, .inl (cY 0, 9, .inl (m_nf (m_all f cnt)))), (vr, .inl (cY 0, 36, .inl (m_nf rv)))] H1 := hP
  have hD : va_D A [(mx, .inr (7, [.ref va, .ref vk, .ref vr, .int (nI rl), .ref vs, .int (nI ik), .int (nI 0), .ref vt, .int (nI tl), .int (nI ta), .int yr, .int ys, .int yo, .int yf, .int ye, .ref vc, .ref vb])), (va, .inl (cY 0, 9, .inl (m_nf (m_all f cnt)))), (vr, .inl (cY 0, 36, .inl (m_nf rv)))] := hD
  refine lv_aload_n hx hb dX7_records_5 rfl (lv_at hl 0 rfl) ?_
  refine va_get (D := D) (ci := 7) (v := .int (nI rl)) (C := RX7) (T := TX7) (N := 17) hx hb hts hw1 hown hK hP 0 rfl rfl 3 (by decide) hw2 (fun _ h9 => h9) rfl dX7_records_6 ?_
  refine lv_iconst (v := nI 4) hx hb dX7_records_9 (by decide) ?_
  refine lv_icmp_ne (tgt := 52) hx hb dX7_records_10 (by decide) (fun c10 => ?_) (fun c10 => ?_)
  · have c10 : ¬ (rl = 4) := fun qq9 => c10 ((nI_eq (a := rl) (b := 4) (by first | omega | exact Nat.lt_of_le_of_lt Nat.and_le_right (by decide) | exact Nat.lt_trans (nm_lt _ _) (by decide) | exact Nat.lt_trans (np_lt _ _) (by decide) | exact Nat.lt_trans (p_at_lt htx) (by decide)) (by first | omega | exact Nat.lt_of_le_of_lt Nat.and_le_right (by decide) | exact Nat.lt_trans (nm_lt _ _) (by decide) | exact Nat.lt_trans (np_lt _ _) (by decide) | exact Nat.lt_trans (p_at_lt htx) (by decide))).mpr qq9)
    refine lv_iconst (v := nI 0) hx hb dX7_records_52 (by decide) ?_
    refine lv_istore_n (lv' := [(1, .int (nI 0)), (0, .ref mx)]) hx hb dX7_records_53 rfl hl (by decide) rfl (fun ls hl => ?_)
    have lp54_2 : ∀ (nn : Nat) (q : Nat) (r2 : Nat → Nat) (rc : Nat) (rb : Nat → Nat) (H : Heap) (locs : List Loc) (ls : Array Slot), (q ≤ 9) → (rc ≤ 3) → (rc + 1 = min (rl + 1) 4) → (∀ k j, k < rc → j < 9 → rb (9 * (rc - 1 - k) + j) = hh k j) → ((∀ j, j < q → r2 (9 * rc + j) = m_all f cnt j) ∧ ∀ j, j < 9 * rc → r2 j = rb j) → 9 - q < nn → va_P D vwCl [(mx, .inr (7, [.ref va, .ref vk, .ref vr, .int (nI rc), .ref vs, .int (nI ik), .int (nI 0), .ref vt, .int (nI tl), .int (nI ta), .int yr, .int ys, .int yo, .int yf, .int ye, .ref vc, .ref vb])), (va, .inl (cY 0, 9, .inl (m_nf (m_all f cnt)))), (vr, .inl (cY 0, 36, .inl (m_nf r2)))] H → va_D A [(mx, .inr (7, [.ref va, .ref vk, .ref vr, .int (nI rc), .ref vs, .int (nI ik), .int (nI 0), .ref vt, .int (nI tl), .int (nI ta), .int yr, .int ys, .int yo, .int yf, .int ye, .ref vc, .ref vb])), (va, .inl (cY 0, 9, .inl (m_nf (m_all f cnt)))), (vr, .inl (cY 0, 36, .inl (m_nf r2)))] → va_S A s.heap H locs → lv_has ls 2 [(0, .ref mx), (1, .int (nI q))] → W p l e { frames := 0, cells := 0, slots := 0, locals := 0 } s m ([.ref mx] : List Value).toArray below meth c H locs 0 0 Q (F0 m 54 ls []) := by
      intro nn
      induction nn with
      | zero => intros; omega
      | succ nn ih54 =>
        intro q r2 rc rb H locs ls hq9 hrc hrcm hrb hr2 hmz hP hD hS hl
        refine lv_iload_n hx hb dX7_records_54 rfl (lv_at hl 1 rfl) ?_
        refine lv_bipush (v := nI 9) hx hb dX7_records_55 (by decide) ?_
        refine lv_icmp_ge (tgt := 86) hx hb dX7_records_57 (by decide) (fun c57 => ?_) (fun c57 => ?_)
        · have c57 : 9 ≤ q := (nI_leI (a := 9) (b := q) (by first | omega | exact Nat.lt_of_le_of_lt Nat.and_le_right (by decide) | exact Nat.lt_trans (nm_lt _ _) (by decide) | exact Nat.lt_trans (np_lt _ _) (by decide) | exact Nat.lt_trans (p_at_lt htx) (by decide)) (by first | omega | exact Nat.lt_of_le_of_lt Nat.and_le_right (by decide) | exact Nat.lt_trans (nm_lt _ _) (by decide) | exact Nat.lt_trans (np_lt _ _) (by decide) | exact Nat.lt_trans (p_at_lt htx) (by decide))).mp c57
          refine lv_aload_n hx hb dX7_records_86 rfl (lv_at hl 0 rfl) ?_
          refine lv_dup hx hb dX7_records_87 rfl ?_
          refine va_get (D := D) (ci := 7) (v := .int (nI rc)) (C := RX7) (T := TX7) (N := 17) hx hb hts hw1 hown hK hP 0 rfl rfl 3 (by decide) hw2 (fun _ h9 => h9) rfl dX7_records_88 ?_
          refine lv_iconst (v := nI 1) hx hb dX7_records_91 (by decide) ?_
          refine lv_iadd hx hb dX7_records_92 ?_
          refine lv_topi (nm_r (nI_add _ _) ?_)
          refine va_put (D := D) (ci := 7) (v := .int (nI (rc + 1))) (ty := .int) (C := RX7) (T := TX7) (N := 17) hx hb hts hw1 tyX7 tyX7_ok nmX7 hown hK hP hD hS 0 rfl rfl 3 (by decide) hw2 (fun _ h9 => h9) rfl (by decide +kernel) rfl rfl (Nat.le_of_ble_eq_true rfl) dX7_records_93 (fun H3 locs hP hD hS => ?_)
          have hP : va_P D vwCl [(mx, .inr (7, [.ref va, .ref vk, .ref vr, .int (nI (rc + 1)), .ref vs, .int (nI ik), .int (nI 0), .ref vt, .int (nI tl), .int (nI ta), .int yr, .int ys, .int yo, .int yf, .int ye, .ref vc, .ref vb])), (va, .inl (cY 0, 9, .inl (m_nf (m_all f cnt)))), (vr, .inl (cY 0, 36, .inl (m_nf r2)))] H3 := hP
          have hD : va_D A [(mx, .inr (7, [.ref va, .ref vk, .ref vr, .int (nI (rc + 1)), .ref vs, .int (nI ik), .int (nI 0), .ref vt, .int (nI tl), .int (nI ta), .int yr, .int ys, .int yo, .int yf, .int ye, .ref vc, .ref vb])), (va, .inl (cY 0, 9, .inl (m_nf (m_all f cnt)))), (vr, .inl (cY 0, 36, .inl (m_nf r2)))] := hD
          rw [hrcm] at hP
          subst hQ
          exact m_vret C0 hS dX7_records_96 (u := r2) hP (fun k j h1 h2 => by (rw [← hrcm] at h1 ⊢); rw [n_push]; (by_cases w : k = 0); { subst w; rw [if_pos rfl, show rc + 1 - 1 - 0 = rc by omega]; exact hr2.1 j (by omega) }; { rw [if_neg w, show rc + 1 - 1 - k = rc - 1 - (k - 1) by omega, hr2.2 _ (by omega)]; exact hrb (k - 1) j (by omega) h2 })
        · have c57 : ¬ (9 ≤ q) := fun qq9 => c57 ((nI_leI (a := 9) (b := q) (by first | omega | exact Nat.lt_of_le_of_lt Nat.and_le_right (by decide) | exact Nat.lt_trans (nm_lt _ _) (by decide) | exact Nat.lt_trans (np_lt _ _) (by decide) | exact Nat.lt_trans (p_at_lt htx) (by decide)) (by first | omega | exact Nat.lt_of_le_of_lt Nat.and_le_right (by decide) | exact Nat.lt_trans (nm_lt _ _) (by decide) | exact Nat.lt_trans (np_lt _ _) (by decide) | exact Nat.lt_trans (p_at_lt htx) (by decide))).mpr qq9)
          refine lv_aload_n hx hb dX7_records_60 rfl (lv_at hl 0 rfl) ?_
          refine va_get (D := D) (ci := 7) (v := .ref vr) (C := RX7) (T := TX7) (N := 17) hx hb hts hw1 hown hK hP 0 rfl rfl 2 (by decide) hw3 (fun _ h9 => h9) rfl dX7_records_61 ?_
          refine lv_bipush (v := nI 9) hx hb dX7_records_64 (by decide) ?_
          refine lv_aload_n hx hb dX7_records_66 rfl (lv_at hl 0 rfl) ?_
          refine va_get (D := D) (ci := 7) (v := .int (nI rc)) (C := RX7) (T := TX7) (N := 17) hx hb hts hw1 hown hK hP 0 rfl rfl 3 (by decide) hw2 (fun _ h9 => h9) rfl dX7_records_67 ?_
          refine lv_imul hx hb dX7_records_70 ?_
          refine lv_topi (nm_r (pk_mul _ _) ?_)
          refine lv_iload_n hx hb dX7_records_71 rfl (lv_at hl 1 rfl) ?_
          refine lv_iadd hx hb dX7_records_72 ?_
          refine lv_topi (nm_r (nI_add _ _) ?_)
          refine lv_aload_n hx hb dX7_records_73 rfl (lv_at hl 0 rfl) ?_
          refine va_get (D := D) (ci := 7) (v := .ref va) (C := RX7) (T := TX7) (N := 17) hx hb hts hw1 hown hK hP 0 rfl rfl 0 (by decide) hw4 (fun _ h9 => h9) rfl dX7_records_74 ?_
          refine lv_iload_n hx hb dX7_records_77 rfl (lv_at hl 1 rfl) ?_
          refine va_iald hx hb hK hP 1 0 rfl rfl (m_in (n := q) (by first | assumption | omega) (by decide)) dX7_records_78 ?_
          refine lv_topi (nm_r (m_ldn (g := m_all f cnt) (n := q) (by omega)) ?_)
          refine va_iast hx hb hK hP hD hS 2 0 rfl rfl (m_in (n := (9 * rc) + q) (by first | assumption | omega) (by decide)) dX7_records_79 (fun H4 locs hP hD hS => ?_)
          have hP : va_P D vwCl [(mx, .inr (7, [.ref va, .ref vk, .ref vr, .int (nI rc), .ref vs, .int (nI ik), .int (nI 0), .ref vt, .int (nI tl), .int (nI ta), .int yr, .int ys, .int yo, .int yf, .int ye, .ref vc, .ref vb])), (va, .inl (cY 0, 9, .inl (m_nf (m_all f cnt)))), (vr, .inl (cY 0, 36, .inl (upd (m_nf r2) (nI ((9 * rc) + q)).toNatClampNeg (nI ((m_all f cnt) q)))))] H4 := hP
          have hD : va_D A [(mx, .inr (7, [.ref va, .ref vk, .ref vr, .int (nI rc), .ref vs, .int (nI ik), .int (nI 0), .ref vt, .int (nI tl), .int (nI ta), .int yr, .int ys, .int yo, .int yf, .int ye, .ref vc, .ref vb])), (va, .inl (cY 0, 9, .inl (m_nf (m_all f cnt)))), (vr, .inl (cY 0, 36, .inl (upd (m_nf r2) (nI ((9 * rc) + q)).toNatClampNeg (nI ((m_all f cnt) q)))))] := hD
          rw [m_upd (g := r2) (n := (9 * rc) + q) (v := (m_all f cnt) q) (by omega)] at hP hD
          have hP : va_P D vwCl [(mx, .inr (7, [.ref va, .ref vk, .ref vr, .int (nI rc), .ref vs, .int (nI ik), .int (nI 0), .ref vt, .int (nI tl), .int (nI ta), .int yr, .int ys, .int yo, .int yf, .int ye, .ref vc, .ref vb])), (va, .inl (cY 0, 9, .inl (m_nf (m_all f cnt)))), (vr, .inl (cY 0, 36, .inl (m_nf (m_up r2 ((9 * rc) + q) ((m_all f cnt) q)))))] H4 := hP
          have hD : va_D A [(mx, .inr (7, [.ref va, .ref vk, .ref vr, .int (nI rc), .ref vs, .int (nI ik), .int (nI 0), .ref vt, .int (nI tl), .int (nI ta), .int yr, .int ys, .int yo, .int yf, .int ye, .ref vc, .ref vb])), (va, .inl (cY 0, 9, .inl (m_nf (m_all f cnt)))), (vr, .inl (cY 0, 36, .inl (m_nf (m_up r2 ((9 * rc) + q) ((m_all f cnt) q)))))] := hD
          refine lv_iinc (v := nI (q + 1)) (lv' := [(1, .int (nI (q + 1))), (0, .ref mx)]) hx hb dX7_records_80 hl (k := 1) rfl (nI_add _ 1) (by decide) rfl (fun ls hl => ?_)
          refine lv_goto (tgt := 54) hx hb dX7_records_83 (by decide) ?_
          exact ih54 (q + 1) (m_up r2 ((9 * rc) + q) ((m_all f cnt) q)) rc rb _ _ ls (by first | assumption | omega) (by first | assumption | omega) (by first | assumption | omega) (by first | assumption | omega) (⟨fun j h => by (by_cases w : j = q); { subst w; rw [m_ups] }; { rw [m_upn _ _ (by omega)]; exact hr2.1 j (by omega) }, fun j h => by rw [m_upn _ _ (by omega)]; exact hr2.2 j h⟩) (by omega) hP hD hS (lv_sub hl [1, 0] rfl)
    exact lp54_2 _ 0 rv rl rv _ _ ls (by first | assumption | omega) (by omega) (by omega) ((fun k j h1 h2 => by first | (rw [hr1.1 _ (by omega), show 9 * (rl - 1 - 1 - k) + j + 9 = 9 * (rl - 1 - k) + j by omega]; exact hrec k j (by omega) h2) | exact hrec k j h1 h2)) (⟨fun j h => by omega, fun j h => rfl⟩) (Nat.lt_succ_self _) hP hD hS (lv_sub hl [1, 0] rfl)
  · have c10 : rl = 4 := (nI_eq (a := rl) (b := 4) (by first | omega | exact Nat.lt_of_le_of_lt Nat.and_le_right (by decide) | exact Nat.lt_trans (nm_lt _ _) (by decide) | exact Nat.lt_trans (np_lt _ _) (by decide) | exact Nat.lt_trans (p_at_lt htx) (by decide)) (by first | omega | exact Nat.lt_of_le_of_lt Nat.and_le_right (by decide) | exact Nat.lt_trans (nm_lt _ _) (by decide) | exact Nat.lt_trans (np_lt _ _) (by decide) | exact Nat.lt_trans (p_at_lt htx) (by decide))).mp c10
    refine lv_iconst (v := nI 0) hx hb dX7_records_13 (by decide) ?_
    refine lv_istore_n (lv' := [(1, .int (nI 0)), (0, .ref mx)]) hx hb dX7_records_14 rfl hl (by decide) rfl (fun ls hl => ?_)
    have lp15_5 : ∀ (nn : Nat) (k : Nat) (r1 : Nat → Nat) (H : Heap) (locs : List Loc) (ls : Array Slot), (k ≤ 27) → ((∀ j, j < k → r1 j = rv (j + 9)) ∧ ∀ j, k ≤ j → r1 j = rv j) → 27 - k < nn → va_P D vwCl [(mx, .inr (7, [.ref va, .ref vk, .ref vr, .int (nI rl), .ref vs, .int (nI ik), .int (nI 0), .ref vt, .int (nI tl), .int (nI ta), .int yr, .int ys, .int yo, .int yf, .int ye, .ref vc, .ref vb])), (va, .inl (cY 0, 9, .inl (m_nf (m_all f cnt)))), (vr, .inl (cY 0, 36, .inl (m_nf r1)))] H → va_D A [(mx, .inr (7, [.ref va, .ref vk, .ref vr, .int (nI rl), .ref vs, .int (nI ik), .int (nI 0), .ref vt, .int (nI tl), .int (nI ta), .int yr, .int ys, .int yo, .int yf, .int ye, .ref vc, .ref vb])), (va, .inl (cY 0, 9, .inl (m_nf (m_all f cnt)))), (vr, .inl (cY 0, 36, .inl (m_nf r1)))] → va_S A s.heap H locs → lv_has ls 2 [(0, .ref mx), (1, .int (nI k))] → W p l e { frames := 0, cells := 0, slots := 0, locals := 0 } s m ([.ref mx] : List Value).toArray below meth c H locs 0 0 Q (F0 m 15 ls []) := by
      intro nn
      induction nn with
      | zero => intros; omega
      | succ nn ih15 =>
        intro k r1 H locs ls hk hr1 hmz hP hD hS hl
        refine lv_iload_n hx hb dX7_records_15 rfl (lv_at hl 1 rfl) ?_
        refine lv_bipush (v := nI 27) hx hb dX7_records_16 (by decide) ?_
        refine lv_icmp_ge (tgt := 42) hx hb dX7_records_18 (by decide) (fun c18 => ?_) (fun c18 => ?_)
        · have c18 : 27 ≤ k := (nI_leI (a := 27) (b := k) (by first | omega | exact Nat.lt_of_le_of_lt Nat.and_le_right (by decide) | exact Nat.lt_trans (nm_lt _ _) (by decide) | exact Nat.lt_trans (np_lt _ _) (by decide) | exact Nat.lt_trans (p_at_lt htx) (by decide)) (by first | omega | exact Nat.lt_of_le_of_lt Nat.and_le_right (by decide) | exact Nat.lt_trans (nm_lt _ _) (by decide) | exact Nat.lt_trans (np_lt _ _) (by decide) | exact Nat.lt_trans (p_at_lt htx) (by decide))).mp c18
          refine lv_aload_n hx hb dX7_records_42 rfl (lv_at hl 0 rfl) ?_
          refine lv_dup hx hb dX7_records_43 rfl ?_
          refine va_get (D := D) (ci := 7) (v := .int (nI rl)) (C := RX7) (T := TX7) (N := 17) hx hb hts hw1 hown hK hP 0 rfl rfl 3 (by decide) hw2 (fun _ h9 => h9) rfl dX7_records_44 ?_
          refine lv_iconst (v := nI 1) hx hb dX7_records_47 (by decide) ?_
          refine lv_isub hx hb dX7_records_48 ?_
          refine lv_topi (nm_r (pk_sub (by omega)) ?_)
          refine va_put (D := D) (ci := 7) (v := .int (nI (rl - 1))) (ty := .int) (C := RX7) (T := TX7) (N := 17) hx hb hts hw1 tyX7 tyX7_ok nmX7 hown hK hP hD hS 0 rfl rfl 3 (by decide) hw2 (fun _ h9 => h9) rfl (by decide +kernel) rfl rfl (Nat.le_of_ble_eq_true rfl) dX7_records_49 (fun H6 locs hP hD hS => ?_)
          have hP : va_P D vwCl [(mx, .inr (7, [.ref va, .ref vk, .ref vr, .int (nI (rl - 1)), .ref vs, .int (nI ik), .int (nI 0), .ref vt, .int (nI tl), .int (nI ta), .int yr, .int ys, .int yo, .int yf, .int ye, .ref vc, .ref vb])), (va, .inl (cY 0, 9, .inl (m_nf (m_all f cnt)))), (vr, .inl (cY 0, 36, .inl (m_nf r1)))] H6 := hP
          have hD : va_D A [(mx, .inr (7, [.ref va, .ref vk, .ref vr, .int (nI (rl - 1)), .ref vs, .int (nI ik), .int (nI 0), .ref vt, .int (nI tl), .int (nI ta), .int yr, .int ys, .int yo, .int yf, .int ye, .ref vc, .ref vb])), (va, .inl (cY 0, 9, .inl (m_nf (m_all f cnt)))), (vr, .inl (cY 0, 36, .inl (m_nf r1)))] := hD
          refine lv_iconst (v := nI 0) hx hb dX7_records_52 (by decide) ?_
          refine lv_istore_n (lv' := [(1, .int (nI 0)), (0, .ref mx)]) hx hb dX7_records_53 rfl hl (by decide) rfl (fun ls hl => ?_)
          have lp54_7 : ∀ (nn : Nat) (q : Nat) (r2 : Nat → Nat) (rc : Nat) (rb : Nat → Nat) (H : Heap) (locs : List Loc) (ls : Array Slot), (q ≤ 9) → (rc ≤ 3) → (rc + 1 = min (rl + 1) 4) → (∀ k j, k < rc → j < 9 → rb (9 * (rc - 1 - k) + j) = hh k j) → ((∀ j, j < q → r2 (9 * rc + j) = m_all f cnt j) ∧ ∀ j, j < 9 * rc → r2 j = rb j) → 9 - q < nn → va_P D vwCl [(mx, .inr (7, [.ref va, .ref vk, .ref vr, .int (nI rc), .ref vs, .int (nI ik), .int (nI 0), .ref vt, .int (nI tl), .int (nI ta), .int yr, .int ys, .int yo, .int yf, .int ye, .ref vc, .ref vb])), (va, .inl (cY 0, 9, .inl (m_nf (m_all f cnt)))), (vr, .inl (cY 0, 36, .inl (m_nf r2)))] H → va_D A [(mx, .inr (7, [.ref va, .ref vk, .ref vr, .int (nI rc), .ref vs, .int (nI ik), .int (nI 0), .ref vt, .int (nI tl), .int (nI ta), .int yr, .int ys, .int yo, .int yf, .int ye, .ref vc, .ref vb])), (va, .inl (cY 0, 9, .inl (m_nf (m_all f cnt)))), (vr, .inl (cY 0, 36, .inl (m_nf r2)))] → va_S A s.heap H locs → lv_has ls 2 [(0, .ref mx), (1, .int (nI q))] → W p l e { frames := 0, cells := 0, slots := 0, locals := 0 } s m ([.ref mx] : List Value).toArray below meth c H locs 0 0 Q (F0 m 54 ls []) := by
            intro nn
            induction nn with
            | zero => intros; omega
            | succ nn ih54 =>
              intro q r2 rc rb H locs ls hq9 hrc hrcm hrb hr2 hmz hP hD hS hl
              refine lv_iload_n hx hb dX7_records_54 rfl (lv_at hl 1 rfl) ?_
              refine lv_bipush (v := nI 9) hx hb dX7_records_55 (by decide) ?_
              refine lv_icmp_ge (tgt := 86) hx hb dX7_records_57 (by decide) (fun c57 => ?_) (fun c57 => ?_)
              · have c57 : 9 ≤ q := (nI_leI (a := 9) (b := q) (by first | omega | exact Nat.lt_of_le_of_lt Nat.and_le_right (by decide) | exact Nat.lt_trans (nm_lt _ _) (by decide) | exact Nat.lt_trans (np_lt _ _) (by decide) | exact Nat.lt_trans (p_at_lt htx) (by decide)) (by first | omega | exact Nat.lt_of_le_of_lt Nat.and_le_right (by decide) | exact Nat.lt_trans (nm_lt _ _) (by decide) | exact Nat.lt_trans (np_lt _ _) (by decide) | exact Nat.lt_trans (p_at_lt htx) (by decide))).mp c57
                refine lv_aload_n hx hb dX7_records_86 rfl (lv_at hl 0 rfl) ?_
                refine lv_dup hx hb dX7_records_87 rfl ?_
                refine va_get (D := D) (ci := 7) (v := .int (nI rc)) (C := RX7) (T := TX7) (N := 17) hx hb hts hw1 hown hK hP 0 rfl rfl 3 (by decide) hw2 (fun _ h9 => h9) rfl dX7_records_88 ?_
                refine lv_iconst (v := nI 1) hx hb dX7_records_91 (by decide) ?_
                refine lv_iadd hx hb dX7_records_92 ?_
                refine lv_topi (nm_r (nI_add _ _) ?_)
                refine va_put (D := D) (ci := 7) (v := .int (nI (rc + 1))) (ty := .int) (C := RX7) (T := TX7) (N := 17) hx hb hts hw1 tyX7 tyX7_ok nmX7 hown hK hP hD hS 0 rfl rfl 3 (by decide) hw2 (fun _ h9 => h9) rfl (by decide +kernel) rfl rfl (Nat.le_of_ble_eq_true rfl) dX7_records_93 (fun H8 locs hP hD hS => ?_)
                have hP : va_P D vwCl [(mx, .inr (7, [.ref va, .ref vk, .ref vr, .int (nI (rc + 1)), .ref vs, .int (nI ik), .int (nI 0), .ref vt, .int (nI tl), .int (nI ta), .int yr, .int ys, .int yo, .int yf, .int ye, .ref vc, .ref vb])), (va, .inl (cY 0, 9, .inl (m_nf (m_all f cnt)))), (vr, .inl (cY 0, 36, .inl (m_nf r2)))] H8 := hP
                have hD : va_D A [(mx, .inr (7, [.ref va, .ref vk, .ref vr, .int (nI (rc + 1)), .ref vs, .int (nI ik), .int (nI 0), .ref vt, .int (nI tl), .int (nI ta), .int yr, .int ys, .int yo, .int yf, .int ye, .ref vc, .ref vb])), (va, .inl (cY 0, 9, .inl (m_nf (m_all f cnt)))), (vr, .inl (cY 0, 36, .inl (m_nf r2)))] := hD
                rw [hrcm] at hP
                subst hQ
                exact m_vret C0 hS dX7_records_96 (u := r2) hP (fun k j h1 h2 => by (rw [← hrcm] at h1 ⊢); rw [n_push]; (by_cases w : k = 0); { subst w; rw [if_pos rfl, show rc + 1 - 1 - 0 = rc by omega]; exact hr2.1 j (by omega) }; { rw [if_neg w, show rc + 1 - 1 - k = rc - 1 - (k - 1) by omega, hr2.2 _ (by omega)]; exact hrb (k - 1) j (by omega) h2 })
              · have c57 : ¬ (9 ≤ q) := fun qq9 => c57 ((nI_leI (a := 9) (b := q) (by first | omega | exact Nat.lt_of_le_of_lt Nat.and_le_right (by decide) | exact Nat.lt_trans (nm_lt _ _) (by decide) | exact Nat.lt_trans (np_lt _ _) (by decide) | exact Nat.lt_trans (p_at_lt htx) (by decide)) (by first | omega | exact Nat.lt_of_le_of_lt Nat.and_le_right (by decide) | exact Nat.lt_trans (nm_lt _ _) (by decide) | exact Nat.lt_trans (np_lt _ _) (by decide) | exact Nat.lt_trans (p_at_lt htx) (by decide))).mpr qq9)
                refine lv_aload_n hx hb dX7_records_60 rfl (lv_at hl 0 rfl) ?_
                refine va_get (D := D) (ci := 7) (v := .ref vr) (C := RX7) (T := TX7) (N := 17) hx hb hts hw1 hown hK hP 0 rfl rfl 2 (by decide) hw3 (fun _ h9 => h9) rfl dX7_records_61 ?_
                refine lv_bipush (v := nI 9) hx hb dX7_records_64 (by decide) ?_
                refine lv_aload_n hx hb dX7_records_66 rfl (lv_at hl 0 rfl) ?_
                refine va_get (D := D) (ci := 7) (v := .int (nI rc)) (C := RX7) (T := TX7) (N := 17) hx hb hts hw1 hown hK hP 0 rfl rfl 3 (by decide) hw2 (fun _ h9 => h9) rfl dX7_records_67 ?_
                refine lv_imul hx hb dX7_records_70 ?_
                refine lv_topi (nm_r (pk_mul _ _) ?_)
                refine lv_iload_n hx hb dX7_records_71 rfl (lv_at hl 1 rfl) ?_
                refine lv_iadd hx hb dX7_records_72 ?_
                refine lv_topi (nm_r (nI_add _ _) ?_)
                refine lv_aload_n hx hb dX7_records_73 rfl (lv_at hl 0 rfl) ?_
                refine va_get (D := D) (ci := 7) (v := .ref va) (C := RX7) (T := TX7) (N := 17) hx hb hts hw1 hown hK hP 0 rfl rfl 0 (by decide) hw4 (fun _ h9 => h9) rfl dX7_records_74 ?_
                refine lv_iload_n hx hb dX7_records_77 rfl (lv_at hl 1 rfl) ?_
                refine va_iald hx hb hK hP 1 0 rfl rfl (m_in (n := q) (by first | assumption | omega) (by decide)) dX7_records_78 ?_
                refine lv_topi (nm_r (m_ldn (g := m_all f cnt) (n := q) (by omega)) ?_)
                refine va_iast hx hb hK hP hD hS 2 0 rfl rfl (m_in (n := (9 * rc) + q) (by first | assumption | omega) (by decide)) dX7_records_79 (fun H9 locs hP hD hS => ?_)
                have hP : va_P D vwCl [(mx, .inr (7, [.ref va, .ref vk, .ref vr, .int (nI rc), .ref vs, .int (nI ik), .int (nI 0), .ref vt, .int (nI tl), .int (nI ta), .int yr, .int ys, .int yo, .int yf, .int ye, .ref vc, .ref vb])), (va, .inl (cY 0, 9, .inl (m_nf (m_all f cnt)))), (vr, .inl (cY 0, 36, .inl (upd (m_nf r2) (nI ((9 * rc) + q)).toNatClampNeg (nI ((m_all f cnt) q)))))] H9 := hP
                have hD : va_D A [(mx, .inr (7, [.ref va, .ref vk, .ref vr, .int (nI rc), .ref vs, .int (nI ik), .int (nI 0), .ref vt, .int (nI tl), .int (nI ta), .int yr, .int ys, .int yo, .int yf, .int ye, .ref vc, .ref vb])), (va, .inl (cY 0, 9, .inl (m_nf (m_all f cnt)))), (vr, .inl (cY 0, 36, .inl (upd (m_nf r2) (nI ((9 * rc) + q)).toNatClampNeg (nI ((m_all f cnt) q)))))] := hD
                rw [m_upd (g := r2) (n := (9 * rc) + q) (v := (m_all f cnt) q) (by omega)] at hP hD
                have hP : va_P D vwCl [(mx, .inr (7, [.ref va, .ref vk, .ref vr, .int (nI rc), .ref vs, .int (nI ik), .int (nI 0), .ref vt, .int (nI tl), .int (nI ta), .int yr, .int ys, .int yo, .int yf, .int ye, .ref vc, .ref vb])), (va, .inl (cY 0, 9, .inl (m_nf (m_all f cnt)))), (vr, .inl (cY 0, 36, .inl (m_nf (m_up r2 ((9 * rc) + q) ((m_all f cnt) q)))))] H9 := hP
                have hD : va_D A [(mx, .inr (7, [.ref va, .ref vk, .ref vr, .int (nI rc), .ref vs, .int (nI ik), .int (nI 0), .ref vt, .int (nI tl), .int (nI ta), .int yr, .int ys, .int yo, .int yf, .int ye, .ref vc, .ref vb])), (va, .inl (cY 0, 9, .inl (m_nf (m_all f cnt)))), (vr, .inl (cY 0, 36, .inl (m_nf (m_up r2 ((9 * rc) + q) ((m_all f cnt) q)))))] := hD
                refine lv_iinc (v := nI (q + 1)) (lv' := [(1, .int (nI (q + 1))), (0, .ref mx)]) hx hb dX7_records_80 hl (k := 1) rfl (nI_add _ 1) (by decide) rfl (fun ls hl => ?_)
                refine lv_goto (tgt := 54) hx hb dX7_records_83 (by decide) ?_
                exact ih54 (q + 1) (m_up r2 ((9 * rc) + q) ((m_all f cnt) q)) rc rb _ _ ls (by first | assumption | omega) (by first | assumption | omega) (by first | assumption | omega) (by first | assumption | omega) (⟨fun j h => by (by_cases w : j = q); { subst w; rw [m_ups] }; { rw [m_upn _ _ (by omega)]; exact hr2.1 j (by omega) }, fun j h => by rw [m_upn _ _ (by omega)]; exact hr2.2 j h⟩) (by omega) hP hD hS (lv_sub hl [1, 0] rfl)
          exact lp54_7 _ 0 r1 (rl - 1) r1 _ _ ls (by first | assumption | omega) (by omega) (by omega) ((fun k j h1 h2 => by first | (rw [hr1.1 _ (by omega), show 9 * (rl - 1 - 1 - k) + j + 9 = 9 * (rl - 1 - k) + j by omega]; exact hrec k j (by omega) h2) | exact hrec k j h1 h2)) (⟨fun j h => by omega, fun j h => rfl⟩) (Nat.lt_succ_self _) hP hD hS (lv_sub hl [1, 0] rfl)
        · have c18 : ¬ (27 ≤ k) := fun qq9 => c18 ((nI_leI (a := 27) (b := k) (by first | omega | exact Nat.lt_of_le_of_lt Nat.and_le_right (by decide) | exact Nat.lt_trans (nm_lt _ _) (by decide) | exact Nat.lt_trans (np_lt _ _) (by decide) | exact Nat.lt_trans (p_at_lt htx) (by decide)) (by first | omega | exact Nat.lt_of_le_of_lt Nat.and_le_right (by decide) | exact Nat.lt_trans (nm_lt _ _) (by decide) | exact Nat.lt_trans (np_lt _ _) (by decide) | exact Nat.lt_trans (p_at_lt htx) (by decide))).mpr qq9)
          refine lv_aload_n hx hb dX7_records_21 rfl (lv_at hl 0 rfl) ?_
          refine va_get (D := D) (ci := 7) (v := .ref vr) (C := RX7) (T := TX7) (N := 17) hx hb hts hw1 hown hK hP 0 rfl rfl 2 (by decide) hw3 (fun _ h9 => h9) rfl dX7_records_22 ?_
          refine lv_iload_n hx hb dX7_records_25 rfl (lv_at hl 1 rfl) ?_
          refine lv_aload_n hx hb dX7_records_26 rfl (lv_at hl 0 rfl) ?_
          refine va_get (D := D) (ci := 7) (v := .ref vr) (C := RX7) (T := TX7) (N := 17) hx hb hts hw1 hown hK hP 0 rfl rfl 2 (by decide) hw3 (fun _ h9 => h9) rfl dX7_records_27 ?_
          refine lv_iload_n hx hb dX7_records_30 rfl (lv_at hl 1 rfl) ?_
          refine lv_bipush (v := nI 9) hx hb dX7_records_31 (by decide) ?_
          refine lv_iadd hx hb dX7_records_33 ?_
          refine lv_topi (nm_r (nI_add _ _) ?_)
          refine va_iald hx hb hK hP 2 0 rfl rfl (m_in (n := k + 9) (by first | assumption | omega) (by decide)) dX7_records_34 ?_
          refine lv_topi (nm_r (m_ldn (g := r1) (n := k + 9) (by omega)) ?_)
          refine va_iast hx hb hK hP hD hS 2 0 rfl rfl (m_in (n := k) (by first | assumption | omega) (by decide)) dX7_records_35 (fun H10 locs hP hD hS => ?_)
          have hP : va_P D vwCl [(mx, .inr (7, [.ref va, .ref vk, .ref vr, .int (nI rl), .ref vs, .int (nI ik), .int (nI 0), .ref vt, .int (nI tl), .int (nI ta), .int yr, .int ys, .int yo, .int yf, .int ye, .ref vc, .ref vb])), (va, .inl (cY 0, 9, .inl (m_nf (m_all f cnt)))), (vr, .inl (cY 0, 36, .inl (upd (m_nf r1) (nI k).toNatClampNeg (nI (r1 (k + 9))))))] H10 := hP
          have hD : va_D A [(mx, .inr (7, [.ref va, .ref vk, .ref vr, .int (nI rl), .ref vs, .int (nI ik), .int (nI 0), .ref vt, .int (nI tl), .int (nI ta), .int yr, .int ys, .int yo, .int yf, .int ye, .ref vc, .ref vb])), (va, .inl (cY 0, 9, .inl (m_nf (m_all f cnt)))), (vr, .inl (cY 0, 36, .inl (upd (m_nf r1) (nI k).toNatClampNeg (nI (r1 (k + 9))))))] := hD
          rw [m_upd (g := r1) (n := k) (v := r1 (k + 9)) (by omega)] at hP hD
          have hP : va_P D vwCl [(mx, .inr (7, [.ref va, .ref vk, .ref vr, .int (nI rl), .ref vs, .int (nI ik), .int (nI 0), .ref vt, .int (nI tl), .int (nI ta), .int yr, .int ys, .int yo, .int yf, .int ye, .ref vc, .ref vb])), (va, .inl (cY 0, 9, .inl (m_nf (m_all f cnt)))), (vr, .inl (cY 0, 36, .inl (m_nf (m_up r1 k (r1 (k + 9))))))] H10 := hP
          have hD : va_D A [(mx, .inr (7, [.ref va, .ref vk, .ref vr, .int (nI rl), .ref vs, .int (nI ik), .int (nI 0), .ref vt, .int (nI tl), .int (nI ta), .int yr, .int ys, .int yo, .int yf, .int ye, .ref vc, .ref vb])), (va, .inl (cY 0, 9, .inl (m_nf (m_all f cnt)))), (vr, .inl (cY 0, 36, .inl (m_nf (m_up r1 k (r1 (k + 9))))))] := hD
          refine lv_iinc (v := nI (k + 1)) (lv' := [(1, .int (nI (k + 1))), (0, .ref mx)]) hx hb dX7_records_36 hl (k := 1) rfl (nI_add _ 1) (by decide) rfl (fun ls hl => ?_)
          refine lv_goto (tgt := 15) hx hb dX7_records_39 (by decide) ?_
          exact ih15 (k + 1) (m_up r1 k (r1 (k + 9))) _ _ ls (by first | assumption | omega) (⟨fun j h => by (by_cases q : j = k); { subst q; rw [m_ups]; exact hr1.2 _ (by omega) }; { rw [m_upn _ _ q]; exact hr1.1 j (by omega) }, fun j h => by rw [m_upn _ _ (by omega)]; exact hr1.2 j (by omega)⟩) (by omega) hP hD hS (lv_sub hl [1, 0] rfl)
    exact lp15_5 _ 0 rv _ _ ls (by first | assumption | omega) (⟨fun j h => by omega, fun j h => rfl⟩) (Nat.lt_succ_self _) hP hD hS (lv_sub hl [1, 0] rfl)
set_option maxHeartbeats 4000000 in
set_option maxRecDepth 100000 in
theorem c_X7_sum (l : Launch) (D : va_G) (cY : Nat → ClassId) (mx va vk vr vs vt vc vb : Nat) (rl ik th tl ta : Nat) (yr ys yo yf ye : Int32) (f : Nat → Nat) (cnt : Nat)  : m_Mi l yX7_sum wsX7_sum 0 0 D cY [.ref mx] [(mx, .inr (7, [.ref va, .ref vk, .ref vr, .int (nI rl), .ref vs, .int (nI ik), .int (nI th), .ref vt, .int (nI tl), .int (nI ta), .int yr, .int ys, .int yo, .int yf, .int ye, .ref vc, .ref vb])), (va, .inl (cY 0, 9, .inl (m_nf (m_all f cnt))))] (fun (res : Int32) (u : Unit) => res = nI (m_xr f 8)) (fun (u : Unit) => [(mx, .inr (7, [.ref va, .ref vk, .ref vr, .int (nI rl), .ref vs, .int (nI ik), .int (nI th), .ref vt, .int (nI tl), .int (nI ta), .int yr, .int ys, .int yo, .int yf, .int ye, .ref vc, .ref vb])), (va, .inl (cY 0, 9, .inl (m_nf (m_all f cnt))))]) := by
  refine m_enterI (cc := cX7_sum) (maxL := 3) (ret := (some .int)) (by decide +kernel) rfl (Nat.le_of_ble_eq_true rfl) ?_
  intro p e s m below meth c A ls C0 hP hD hl
  obtain ⟨hx, hb, hr, hml, hts, hown, hlocks, hK, hA⟩ := id C0
  generalize hQ : MQ below _ _ s 0 0 A = Q
  have hS : va_S A s.heap s.heap [] := va_S.rf
  have hl : lv_has ls 3 [(0, .ref mx)] := hl
  have hw0 := hts (.fieldLink RX7 7 "NimberFieldModel" "all" "[I") (by decide +kernel)
  have hw1 := (show ∀ w ∈ u_ws RX7 TX7 17, w ∈ wsX7_sum from by decide +kernel)
  refine lv_iconst (v := nI 0) hx hb dX7_sum_0 (by decide) ?_
  refine lv_istore_n (lv' := [(1, .int (nI 0)), (0, .ref mx)]) hx hb dX7_sum_1 rfl hl (by decide) rfl (fun ls hl => ?_)
  refine lv_iconst (v := nI 0) hx hb dX7_sum_2 (by decide) ?_
  refine lv_istore_n (lv' := [(2, .int (nI 0)), (1, .int (nI 0)), (0, .ref mx)]) hx hb dX7_sum_3 rfl hl (by decide) rfl (fun ls hl => ?_)
  have lp4_1 : ∀ (nn : Nat) (k : Nat) (z : Nat) (H : Heap) (locs : List Loc) (ls : Array Slot), (k ≤ 8) → (z = m_xr (m_all f cnt) k) → 8 - k < nn → va_P D vwCl [(mx, .inr (7, [.ref va, .ref vk, .ref vr, .int (nI rl), .ref vs, .int (nI ik), .int (nI th), .ref vt, .int (nI tl), .int (nI ta), .int yr, .int ys, .int yo, .int yf, .int ye, .ref vc, .ref vb])), (va, .inl (cY 0, 9, .inl (m_nf (m_all f cnt))))] H → va_D A [(mx, .inr (7, [.ref va, .ref vk, .ref vr, .int (nI rl), .ref vs, .int (nI ik), .int (nI th), .ref vt, .int (nI tl), .int (nI ta), .int yr, .int ys, .int yo, .int yf, .int ye, .ref vc, .ref vb])), (va, .inl (cY 0, 9, .inl (m_nf (m_all f cnt))))] → va_S A s.heap H locs → lv_has ls 3 [(0, .ref mx), (1, .int (nI z)), (2, .int (nI k))] → W p l e { frames := 0, cells := 0, slots := 0, locals := 0 } s m ([.ref mx] : List Value).toArray below meth c H locs 0 0 Q (F0 m 4 ls []) := by
    intro nn
    induction nn with
    | zero => intros; omega
    | succ nn ih4 =>
      intro k z H locs ls hk hz hmz hP hD hS hl
      refine lv_iload_n hx hb dX7_sum_4 rfl (lv_at hl 2 rfl) ?_
      refine lv_bipush (v := nI 8) hx hb dX7_sum_5 (by decide) ?_
      refine lv_icmp_ge (tgt := 25) hx hb dX7_sum_7 (by decide) (fun c7 => ?_) (fun c7 => ?_)
      · have c7 : 8 ≤ k := (nI_leI (a := 8) (b := k) (by first | omega | exact Nat.lt_of_le_of_lt Nat.and_le_right (by decide) | exact Nat.lt_trans (nm_lt _ _) (by decide) | exact Nat.lt_trans (np_lt _ _) (by decide) | exact Nat.lt_trans (p_at_lt htx) (by decide)) (by first | omega | exact Nat.lt_of_le_of_lt Nat.and_le_right (by decide) | exact Nat.lt_trans (nm_lt _ _) (by decide) | exact Nat.lt_trans (np_lt _ _) (by decide) | exact Nat.lt_trans (p_at_lt htx) (by decide))).mp c7
        refine lv_iload_n hx hb dX7_sum_25 rfl (lv_at hl 1 rfl) ?_
        subst hQ
        exact m_iret C0 hS dX7_sum_26 (u := ()) hP (by rw [hz, show k = 8 by omega, m_all_xr f cnt 8 (by omega)])
      · have c7 : ¬ (8 ≤ k) := fun qq9 => c7 ((nI_leI (a := 8) (b := k) (by first | omega | exact Nat.lt_of_le_of_lt Nat.and_le_right (by decide) | exact Nat.lt_trans (nm_lt _ _) (by decide) | exact Nat.lt_trans (np_lt _ _) (by decide) | exact Nat.lt_trans (p_at_lt htx) (by decide)) (by first | omega | exact Nat.lt_of_le_of_lt Nat.and_le_right (by decide) | exact Nat.lt_trans (nm_lt _ _) (by decide) | exact Nat.lt_trans (np_lt _ _) (by decide) | exact Nat.lt_trans (p_at_lt htx) (by decide))).mpr qq9)
        refine lv_iload_n hx hb dX7_sum_10 rfl (lv_at hl 1 rfl) ?_
        refine lv_aload_n hx hb dX7_sum_11 rfl (lv_at hl 0 rfl) ?_
        refine va_get (D := D) (ci := 7) (v := .ref va) (C := RX7) (T := TX7) (N := 17) hx hb hts hw1 hown hK hP 0 rfl rfl 0 (by decide) hw0 (fun _ h9 => h9) rfl dX7_sum_12 ?_
        refine lv_iload_n hx hb dX7_sum_15 rfl (lv_at hl 2 rfl) ?_
        refine va_iald hx hb hK hP 1 0 rfl rfl (m_in (n := k) (by first | assumption | omega) (by decide)) dX7_sum_16 ?_
        refine lv_topi (nm_r (m_ldn (g := m_all f cnt) (n := k) (by omega)) ?_)
        refine lv_ixor hx hb dX7_sum_17 ?_
        refine lv_topi (nm_r (nx_xor _ _) ?_)
        refine lv_istore_n (lv' := [(1, .int (nI (z ^^^ ((m_all f cnt) k)))), (0, .ref mx), (2, .int (nI k))]) hx hb dX7_sum_18 rfl hl (by decide) rfl (fun ls hl => ?_)
        refine lv_iinc (v := nI (k + 1)) (lv' := [(2, .int (nI (k + 1))), (1, .int (nI (z ^^^ ((m_all f cnt) k)))), (0, .ref mx)]) hx hb dX7_sum_19 hl (k := 2) rfl (nI_add _ 1) (by decide) rfl (fun ls hl => ?_)
        refine lv_goto (tgt := 4) hx hb dX7_sum_22 (by decide) ?_
        exact ih4 (k + 1) (z ^^^ ((m_all f cnt) k)) _ _ ls (by first | assumption | omega) (by rw [hz]; rfl) (by omega) hP hD hS (lv_sub hl [2, 1, 0] rfl)
  exact lp4_1 _ 0 0 _ _ ls (by first | assumption | omega) (rfl) (Nat.lt_succ_self _) hP hD hS (lv_sub hl [2, 1, 0] rfl)
set_option maxHeartbeats 4000000 in
set_option maxRecDepth 100000 in
theorem c_X7_isHere (l : Launch) (D : va_G) (cY : Nat → ClassId) (mx va vk vr vs vt vc vb : Nat) (rl ik th tl ta : Nat) (yr ys yo yf ye : Int32) (tx : Nat → Nat) (lo hi : Nat) (htl : tl ≤ 60) (htx : ∀ j, tx j < 65536) (hta : ta ≤ tl) (hlo : 0 < lo) (hlo2 : lo < 65536) (hhi : hi < 65536) : m_Mi l yX7_isHere wsX7_isHere 1 25 D cY [.ref mx, .int (nI lo), .int (nI hi)] [(mx, .inr (7, [.ref va, .ref vk, .ref vr, .int (nI rl), .ref vs, .int (nI ik), .int (nI th), .ref vt, .int (nI tl), .int (nI ta), .int yr, .int ys, .int yo, .int yf, .int ye, .ref vc, .ref vb])), (vt, .inl (cY 0, 60, .inl (m_nf tx)))] (fun (res : Int32) (u : Unit) => res = nI (if (lo ≤ p_at tx tl ta ∧ p_at tx tl ta ≤ hi) then 1 else 0)) (fun (u : Unit) => [(mx, .inr (7, [.ref va, .ref vk, .ref vr, .int (nI rl), .ref vs, .int (nI ik), .int (nI th), .ref vt, .int (nI tl), .int (nI ta), .int yr, .int ys, .int yo, .int yf, .int ye, .ref vc, .ref vb])), (vt, .inl (cY 0, 60, .inl (m_nf tx)))]) := by
  refine m_enterI (cc := cX7_isHere) (maxL := 3) (ret := (some .boolean)) (by decide +kernel) rfl (Nat.le_of_ble_eq_true rfl) ?_
  intro p e s m below meth c A ls C0 hP hD hl
  obtain ⟨hx, hb, hr, hml, hts, hown, hlocks, hK, hA⟩ := id C0
  generalize hQ : MQ below _ _ s 0 0 A = Q
  have hS : va_S A s.heap s.heap [] := va_S.rf
  have hl : lv_has ls 3 [(0, .ref mx), (1, .int (nI lo)), (2, .int (nI hi))] := hl
  have hw0 := hts (.fieldLink RX7 90 "NimberFieldModel" "at" "I") (by decide +kernel)
  have hw1 := (show ∀ w ∈ u_ws RX7 TX7 17, w ∈ wsX7_isHere from by decide +kernel)
  have hw2 := hts (.fieldLink RX7 87 "NimberFieldModel" "textLong" "I") (by decide +kernel)
  have hw3 := hts (.fieldLink RX7 22 "NimberFieldModel" "text" "[I") (by decide +kernel)
  have hpl : p_at tx tl ta < 65536 := p_at_lt htx
  refine lv_aload_n hx hb dX7_isHere_0 rfl (lv_at hl 0 rfl) ?_
  refine va_get (D := D) (ci := 7) (v := .int (nI ta)) (C := RX7) (T := TX7) (N := 17) hx hb hts hw1 hown hK hP 0 rfl rfl 9 (by decide) hw0 (fun _ h9 => h9) rfl dX7_isHere_1 ?_
  refine lv_aload_n hx hb dX7_isHere_4 rfl (lv_at hl 0 rfl) ?_
  refine va_get (D := D) (ci := 7) (v := .int (nI tl)) (C := RX7) (T := TX7) (N := 17) hx hb hts hw1 hown hK hP 0 rfl rfl 8 (by decide) hw2 (fun _ h9 => h9) rfl dX7_isHere_5 ?_
  refine lv_icmp_ge (tgt := 35) hx hb dX7_isHere_8 (by decide) (fun c8 => ?_) (fun c8 => ?_)
  · have c8 : tl ≤ ta := (nI_leI (a := tl) (b := ta) (by first | omega | exact Nat.lt_of_le_of_lt Nat.and_le_right (by decide) | exact Nat.lt_trans (nm_lt _ _) (by decide) | exact Nat.lt_trans (np_lt _ _) (by decide) | exact Nat.lt_trans (p_at_lt htx) (by decide)) (by first | omega | exact Nat.lt_of_le_of_lt Nat.and_le_right (by decide) | exact Nat.lt_trans (nm_lt _ _) (by decide) | exact Nat.lt_trans (np_lt _ _) (by decide) | exact Nat.lt_trans (p_at_lt htx) (by decide))).mp c8
    refine lv_iconst (v := nI 0) hx hb dX7_isHere_35 (by decide) ?_
    subst hQ
    exact m_zret C0 (by decide) hS dX7_isHere_36 (u := ()) hP (by rw [if_neg (fun q => absurd (p_at_in (tx := tx) (show 0 < p_at tx tl ta by omega)) (by omega))])
  · have c8 : ¬ (tl ≤ ta) := fun qq9 => c8 ((nI_leI (a := tl) (b := ta) (by first | omega | exact Nat.lt_of_le_of_lt Nat.and_le_right (by decide) | exact Nat.lt_trans (nm_lt _ _) (by decide) | exact Nat.lt_trans (np_lt _ _) (by decide) | exact Nat.lt_trans (p_at_lt htx) (by decide)) (by first | omega | exact Nat.lt_of_le_of_lt Nat.and_le_right (by decide) | exact Nat.lt_trans (nm_lt _ _) (by decide) | exact Nat.lt_trans (np_lt _ _) (by decide) | exact Nat.lt_trans (p_at_lt htx) (by decide))).mpr qq9)
    refine lv_aload_n hx hb dX7_isHere_11 rfl (lv_at hl 0 rfl) ?_
    refine va_get (D := D) (ci := 7) (v := .ref vt) (C := RX7) (T := TX7) (N := 17) hx hb hts hw1 hown hK hP 0 rfl rfl 7 (by decide) hw3 (fun _ h9 => h9) rfl dX7_isHere_12 ?_
    refine lv_aload_n hx hb dX7_isHere_15 rfl (lv_at hl 0 rfl) ?_
    refine va_get (D := D) (ci := 7) (v := .int (nI ta)) (C := RX7) (T := TX7) (N := 17) hx hb hts hw1 hown hK hP 0 rfl rfl 9 (by decide) hw0 (fun _ h9 => h9) rfl dX7_isHere_16 ?_
    refine va_iald hx hb hK hP 1 0 rfl rfl (m_in (n := ta) (by first | assumption | omega) (by decide)) dX7_isHere_19 ?_
    refine lv_topi (nm_r (m_ldn (g := tx) (n := ta) (by omega)) ?_)
    refine lv_topi (nm_r (congrArg nI (p_at_of (tx := tx) (len := tl) (k := ta) (by omega)).symm) ?_)
    refine lv_i2l (v := Int32.toInt64 (nI (p_at tx tl ta))) hx hb dX7_isHere_20 rfl ?_
    refine lv_iload_n hx hb dX7_isHere_21 rfl (lv_at hl 1 rfl) ?_
    refine lv_i2l (v := Int32.toInt64 (nI lo)) hx hb dX7_isHere_22 rfl ?_
    refine lv_iload_n hx hb dX7_isHere_23 rfl (lv_at hl 2 rfl) ?_
    refine lv_i2l (v := Int32.toInt64 (nI hi)) hx hb dX7_isHere_24 rfl ?_
    refine m_callSi (As := [.long (Int32.toInt64 (nI (p_at tx tl ta))), .long (Int32.toInt64 (nI lo)), .long (Int32.toInt64 (nI hi))]) (rest := []) C0 hl hP hD hS (c_X7_in l D cY (nI (p_at tx tl ta)) (nI lo) (nI hi) ) (va_cwS 3 hts gX7_isHere_X7_in rfl rfl rfl (by decide +kernel) ⟨Nat.le_of_ble_eq_true rfl, Nat.le_of_ble_eq_true rfl⟩) dX7_isHere_25 [] rfl rfl rfl (Nat.le_of_ble_eq_true rfl) (Nat.zero_le _) (Nat.zero_le _) (fun _ => rfl) (fun r2 u H1 locs hw hP hD hS => ?_)
    try dsimp only at hw
    obtain rfl := hw
    have hP : va_P D vwCl [(mx, .inr (7, [.ref va, .ref vk, .ref vr, .int (nI rl), .ref vs, .int (nI ik), .int (nI th), .ref vt, .int (nI tl), .int (nI ta), .int yr, .int ys, .int yo, .int yf, .int ye, .ref vc, .ref vb])), (vt, .inl (cY 0, 60, .inl (m_nf tx)))] H1 := hP
    have hD : va_D A [(mx, .inr (7, [.ref va, .ref vk, .ref vr, .int (nI rl), .ref vs, .int (nI ik), .int (nI th), .ref vt, .int (nI tl), .int (nI ta), .int yr, .int ys, .int yo, .int yf, .int ye, .ref vc, .ref vb])), (vt, .inl (cY 0, 60, .inl (m_nf tx)))] := hD
    rcases Decidable.em (m_inI (nI (p_at tx tl ta)) (nI lo) (nI hi)) with hc | hc
    · skip
      refine lv_topi (nm_r (congrArg nI (if_pos hc)) ?_)
      refine lv_if_eq (tgt := 35) hx hb dX7_isHere_28 (by decide) (fun c28 => ?_) (fun c28 => ?_)
      · exact absurd c28 (by decide)
      · refine lv_iconst (v := nI 1) hx hb dX7_isHere_31 (by decide) ?_
        refine lv_goto (tgt := 36) hx hb dX7_isHere_32 (by decide) ?_
        subst hQ
        exact m_zret C0 (by decide) hS dX7_isHere_36 (u := ()) hP (by rw [if_pos ⟨(nI_leI (a := lo) (b := p_at tx tl ta) (by omega) (by omega)).mp hc.1, (nI_leI (a := p_at tx tl ta) (b := hi) (by omega) (by omega)).mp hc.2⟩])
    · skip
      refine lv_topi (nm_r (congrArg nI (if_neg hc)) ?_)
      refine lv_if_eq (tgt := 35) hx hb dX7_isHere_28 (by decide) (fun c28 => ?_) (fun c28 => ?_)
      · refine lv_iconst (v := nI 0) hx hb dX7_isHere_35 (by decide) ?_
        subst hQ
        exact m_zret C0 (by decide) hS dX7_isHere_36 (u := ()) hP (by rw [if_neg (fun q => hc ⟨(nI_leI (a := lo) (b := p_at tx tl ta) (by omega) (by omega)).mpr q.1, (nI_leI (a := p_at tx tl ta) (b := hi) (by omega) (by omega)).mpr q.2⟩)])
      · exact absurd c28 (by decide)
set_option maxHeartbeats 4000000 in
set_option maxRecDepth 100000 in
theorem c_X7_takesOne (l : Launch) (D : va_G) (cY : Nat → ClassId) (mx va vk vr vs vt vc vb : Nat) (rl ik th tl ta : Nat) (yr ys yo yf ye : Int32) (tx : Nat → Nat) (ch : Nat) (htl : tl ≤ 60) (htx : ∀ j, tx j < 65536) (hta : ta ≤ tl) (hc0 : 0 < ch) (hch : ch < 65536) : m_Mi l yX7_takesOne wsX7_takesOne 2 47 D cY [.ref mx, .int (nI ch)] [(mx, .inr (7, [.ref va, .ref vk, .ref vr, .int (nI rl), .ref vs, .int (nI ik), .int (nI th), .ref vt, .int (nI tl), .int (nI ta), .int yr, .int ys, .int yo, .int yf, .int ye, .ref vc, .ref vb])), (vt, .inl (cY 0, 60, .inl (m_nf tx)))] (fun (res : Int32) (u : Nat) => (res = nI 1 ∧ p_at tx tl ta = ch ∧ u = ta + 1 ∧ ta < tl) ∨ (res = nI 0 ∧ ¬ p_at tx tl ta = ch ∧ u = ta)) (fun (u : Nat) => [(mx, .inr (7, [.ref va, .ref vk, .ref vr, .int (nI rl), .ref vs, .int (nI ik), .int (nI th), .ref vt, .int (nI tl), .int (nI u), .int yr, .int ys, .int yo, .int yf, .int ye, .ref vc, .ref vb])), (vt, .inl (cY 0, 60, .inl (m_nf tx)))]) := by
  refine m_enterI (cc := cX7_takesOne) (maxL := 3) (ret := (some .boolean)) (by decide +kernel) rfl (Nat.le_of_ble_eq_true rfl) ?_
  intro p e s m below meth c A ls C0 hP hD hl
  obtain ⟨hx, hb, hr, hml, hts, hown, hlocks, hK, hA⟩ := id C0
  generalize hQ : MQ below _ _ s 0 0 A = Q
  have hS : va_S A s.heap s.heap [] := va_S.rf
  have hl : lv_has ls 3 [(0, .ref mx), (1, .int (nI ch))] := hl
  have hw0 := hts (.fieldLink RX7 90 "NimberFieldModel" "at" "I") (by decide +kernel)
  have hw1 := (show ∀ w ∈ u_ws RX7 TX7 17, w ∈ wsX7_takesOne from by decide +kernel)
  refine lv_aload_n hx hb dX7_takesOne_0 rfl (lv_at hl 0 rfl) ?_
  refine lv_iload_n hx hb dX7_takesOne_1 rfl (lv_at hl 1 rfl) ?_
  refine lv_iload_n hx hb dX7_takesOne_2 rfl (lv_at hl 1 rfl) ?_
  refine m_callVi (As := [.int (nI ch), .int (nI ch)]) (rest := []) C0 hl hP hD hS (c_X7_isHere l D cY mx va vk vr vs vt vc vb rl ik th tl ta yr ys yo yf ye tx ch ch (by first | assumption | omega | exact nm_lt _ _ | exact np_lt _ _ | decide) (by first | assumption | omega | exact nm_lt _ _ | exact np_lt _ _ | decide) (by first | assumption | omega | exact nm_lt _ _ | exact np_lt _ _ | decide) (by first | assumption | omega | exact nm_lt _ _ | exact np_lt _ _ | decide) (by first | assumption | omega | exact nm_lt _ _ | exact np_lt _ _ | decide) (by first | assumption | omega | exact nm_lt _ _ | exact np_lt _ _ | decide)) (cwV 2 hts gX7_takesOne_X7_isHere rfl rfl rfl (by decide +kernel) ⟨Nat.le_of_ble_eq_true rfl, Nat.le_of_ble_eq_true rfl⟩) dX7_takesOne_3 [0, 1] rfl rfl 0 rfl rfl rfl rfl (Nat.le_of_ble_eq_true rfl) (Nat.zero_le _) (Nat.zero_le _) (fun _ => rfl) (fun r2 u H1 locs hw hP hD hS => ?_)
  try dsimp only at hw
  obtain rfl := hw
  have hP : va_P D vwCl [(mx, .inr (7, [.ref va, .ref vk, .ref vr, .int (nI rl), .ref vs, .int (nI ik), .int (nI th), .ref vt, .int (nI tl), .int (nI ta), .int yr, .int ys, .int yo, .int yf, .int ye, .ref vc, .ref vb])), (vt, .inl (cY 0, 60, .inl (m_nf tx)))] H1 := hP
  have hD : va_D A [(mx, .inr (7, [.ref va, .ref vk, .ref vr, .int (nI rl), .ref vs, .int (nI ik), .int (nI th), .ref vt, .int (nI tl), .int (nI ta), .int yr, .int ys, .int yo, .int yf, .int ye, .ref vc, .ref vb])), (vt, .inl (cY 0, 60, .inl (m_nf tx)))] := hD
  rcases Decidable.em (ch ≤ p_at tx tl ta ∧ p_at tx tl ta ≤ ch) with hc | hc
  · skip
    refine lv_topi (nm_r (congrArg nI (if_pos hc)) ?_)
    refine lv_istore_n (lv' := [(2, .int (nI 1)), (0, .ref mx), (1, .int (nI ch))]) hx hb dX7_takesOne_6 rfl hl (by decide) rfl (fun ls hl => ?_)
    refine lv_aload_n hx hb dX7_takesOne_7 rfl (lv_at hl 1 rfl) ?_
    refine lv_dup hx hb dX7_takesOne_8 rfl ?_
    refine va_get (D := D) (ci := 7) (v := .int (nI ta)) (C := RX7) (T := TX7) (N := 17) hx hb hts hw1 hown hK hP 0 rfl rfl 9 (by decide) hw0 (fun _ h9 => h9) rfl dX7_takesOne_9 ?_
    refine lv_iload_n hx hb dX7_takesOne_12 rfl (lv_at hl 0 rfl) ?_
    refine lv_if_eq (tgt := 20) hx hb dX7_takesOne_13 (by decide) (fun c13 => ?_) (fun c13 => ?_)
    · exact absurd c13 (by decide)
    · refine lv_iconst (v := nI 1) hx hb dX7_takesOne_16 (by decide) ?_
      refine lv_goto (tgt := 21) hx hb dX7_takesOne_17 (by decide) ?_
      refine lv_iadd hx hb dX7_takesOne_21 ?_
      refine lv_topi (nm_r (nI_add _ _) ?_)
      refine va_put (D := D) (ci := 7) (v := .int (nI (ta + 1))) (ty := .int) (C := RX7) (T := TX7) (N := 17) hx hb hts hw1 tyX7 tyX7_ok nmX7 hown hK hP hD hS 0 rfl rfl 9 (by decide) hw0 (fun _ h9 => h9) rfl (by decide +kernel) rfl rfl (Nat.le_of_ble_eq_true rfl) dX7_takesOne_22 (fun H3 locs hP hD hS => ?_)
      have hP : va_P D vwCl [(mx, .inr (7, [.ref va, .ref vk, .ref vr, .int (nI rl), .ref vs, .int (nI ik), .int (nI th), .ref vt, .int (nI tl), .int (nI (ta + 1)), .int yr, .int ys, .int yo, .int yf, .int ye, .ref vc, .ref vb])), (vt, .inl (cY 0, 60, .inl (m_nf tx)))] H3 := hP
      have hD : va_D A [(mx, .inr (7, [.ref va, .ref vk, .ref vr, .int (nI rl), .ref vs, .int (nI ik), .int (nI th), .ref vt, .int (nI tl), .int (nI (ta + 1)), .int yr, .int ys, .int yo, .int yf, .int ye, .ref vc, .ref vb])), (vt, .inl (cY 0, 60, .inl (m_nf tx)))] := hD
      refine lv_iload_n hx hb dX7_takesOne_25 rfl (lv_at hl 0 rfl) ?_
      subst hQ
      exact m_zret C0 (by decide) hS dX7_takesOne_26 (u := ta + 1) hP (Or.inl ⟨rfl, by omega, rfl, p_at_in (tx := tx) (show 0 < p_at tx tl ta by omega)⟩)
  · skip
    refine lv_topi (nm_r (congrArg nI (if_neg hc)) ?_)
    refine lv_istore_n (lv' := [(2, .int (nI 0)), (0, .ref mx), (1, .int (nI ch))]) hx hb dX7_takesOne_6 rfl hl (by decide) rfl (fun ls hl => ?_)
    refine lv_aload_n hx hb dX7_takesOne_7 rfl (lv_at hl 1 rfl) ?_
    refine lv_dup hx hb dX7_takesOne_8 rfl ?_
    refine va_get (D := D) (ci := 7) (v := .int (nI ta)) (C := RX7) (T := TX7) (N := 17) hx hb hts hw1 hown hK hP 0 rfl rfl 9 (by decide) hw0 (fun _ h9 => h9) rfl dX7_takesOne_9 ?_
    refine lv_iload_n hx hb dX7_takesOne_12 rfl (lv_at hl 0 rfl) ?_
    refine lv_if_eq (tgt := 20) hx hb dX7_takesOne_13 (by decide) (fun c13 => ?_) (fun c13 => ?_)
    · refine lv_iconst (v := nI 0) hx hb dX7_takesOne_20 (by decide) ?_
      refine lv_iadd hx hb dX7_takesOne_21 ?_
      refine lv_topi (nm_r (show nI ta + nI 0 = nI ta from nI_add _ 0) ?_)
      refine va_put (D := D) (ci := 7) (v := .int (nI ta)) (ty := .int) (C := RX7) (T := TX7) (N := 17) hx hb hts hw1 tyX7 tyX7_ok nmX7 hown hK hP hD hS 0 rfl rfl 9 (by decide) hw0 (fun _ h9 => h9) rfl (by decide +kernel) rfl rfl (Nat.le_of_ble_eq_true rfl) dX7_takesOne_22 (fun H4 locs hP hD hS => ?_)
      have hP : va_P D vwCl [(mx, .inr (7, [.ref va, .ref vk, .ref vr, .int (nI rl), .ref vs, .int (nI ik), .int (nI th), .ref vt, .int (nI tl), .int (nI ta), .int yr, .int ys, .int yo, .int yf, .int ye, .ref vc, .ref vb])), (vt, .inl (cY 0, 60, .inl (m_nf tx)))] H4 := hP
      have hD : va_D A [(mx, .inr (7, [.ref va, .ref vk, .ref vr, .int (nI rl), .ref vs, .int (nI ik), .int (nI th), .ref vt, .int (nI tl), .int (nI ta), .int yr, .int ys, .int yo, .int yf, .int ye, .ref vc, .ref vb])), (vt, .inl (cY 0, 60, .inl (m_nf tx)))] := hD
      refine lv_iload_n hx hb dX7_takesOne_25 rfl (lv_at hl 0 rfl) ?_
      subst hQ
      exact m_zret C0 (by decide) hS dX7_takesOne_26 (u := ta) hP (Or.inr ⟨rfl, by omega, rfl⟩)
    · exact absurd c13 (by decide)
set_option maxHeartbeats 4000000 in
set_option maxRecDepth 100000 in
theorem c_X7_readsOperand (l : Launch) (D : va_G) (cY : Nat → ClassId) (mx va vk vr vs vt vc vb : Nat) (rl ik th tl ta : Nat) (yr ys yo yf ye : Int32) (tx : Nat → Nat) (htl : tl ≤ 60) (htx : ∀ j, tx j < 65536) (hta : ta ≤ tl) : m_Mi l yX7_readsOperand wsX7_readsOperand 2 47 D cY [.ref mx] [(mx, .inr (7, [.ref va, .ref vk, .ref vr, .int (nI rl), .ref vs, .int (nI ik), .int (nI th), .ref vt, .int (nI tl), .int (nI ta), .int yr, .int ys, .int yo, .int yf, .int ye, .ref vc, .ref vb])), (vt, .inl (cY 0, 60, .inl (m_nf tx)))] (fun (res : Int32) (u : Nat × Int32) => (res = nI 0 ∧ p_opd tx tl ta = none ∧ u.1 = ta) ∨ (∃ v, res = nI 1 ∧ p_opd tx tl ta = some (v, u.1) ∧ u.2 = p_ref v ∧ v < 65544 ∧ u.1 ≤ tl)) (fun (u : Nat × Int32) => [(mx, .inr (7, [.ref va, .ref vk, .ref vr, .int (nI rl), .ref vs, .int (nI ik), .int (nI th), .ref vt, .int (nI tl), .int (nI u.1), .int yr, .int ys, .int u.2, .int yf, .int ye, .ref vc, .ref vb])), (vt, .inl (cY 0, 60, .inl (m_nf tx)))]) := by
  refine m_enterI (cc := cX7_readsOperand) (maxL := 1) (ret := (some .boolean)) (by decide +kernel) rfl (Nat.le_of_ble_eq_true rfl) ?_
  intro p e s m below meth c A ls C0 hP hD hl
  obtain ⟨hx, hb, hr, hml, hts, hown, hlocks, hK, hA⟩ := id C0
  generalize hQ : MQ below _ _ s 0 0 A = Q
  have hS : va_S A s.heap s.heap [] := va_S.rf
  have hl : lv_has ls 1 [(0, .ref mx)] := hl
  have hw0 := hts (.fieldLink RX7 22 "NimberFieldModel" "text" "[I") (by decide +kernel)
  have hw1 := (show ∀ w ∈ u_ws RX7 TX7 17, w ∈ wsX7_readsOperand from by decide +kernel)
  have hw2 := hts (.fieldLink RX7 90 "NimberFieldModel" "at" "I") (by decide +kernel)
  have hw3 := hts (.fieldLink RX7 97 "NimberFieldModel" "operand" "I") (by decide +kernel)
  have hw4 := hts (.constant RX7 100 (65535)) (by decide +kernel)
  have hpl : p_at tx tl ta < 65536 := p_at_lt htx
  refine lv_aload_n hx hb dX7_readsOperand_0 rfl (lv_at hl 0 rfl) ?_
  refine lv_bipush (v := nI 65) hx hb dX7_readsOperand_1 (by decide) ?_
  refine lv_bipush (v := nI 72) hx hb dX7_readsOperand_3 (by decide) ?_
  refine m_callVi (As := [.int (nI 65), .int (nI 72)]) (rest := []) C0 hl hP hD hS (c_X7_isHere l D cY mx va vk vr vs vt vc vb rl ik th tl ta yr ys yo yf ye tx 65 72 (by first | assumption | omega | exact nm_lt _ _ | exact np_lt _ _ | decide) (by first | assumption | omega | exact nm_lt _ _ | exact np_lt _ _ | decide) (by first | assumption | omega | exact nm_lt _ _ | exact np_lt _ _ | decide) (by first | assumption | omega | exact nm_lt _ _ | exact np_lt _ _ | decide) (by first | assumption | omega | exact nm_lt _ _ | exact np_lt _ _ | decide) (by first | assumption | omega | exact nm_lt _ _ | exact np_lt _ _ | decide)) (cwV 2 hts gX7_readsOperand_X7_isHere rfl rfl rfl (by decide +kernel) ⟨Nat.le_of_ble_eq_true rfl, Nat.le_of_ble_eq_true rfl⟩) dX7_readsOperand_5 [0, 1] rfl rfl 0 rfl rfl rfl rfl (Nat.le_of_ble_eq_true rfl) (Nat.zero_le _) (Nat.zero_le _) (fun _ => rfl) (fun r2 u H1 locs hw hP hD hS => ?_)
  try dsimp only at hw
  obtain rfl := hw
  have hP : va_P D vwCl [(mx, .inr (7, [.ref va, .ref vk, .ref vr, .int (nI rl), .ref vs, .int (nI ik), .int (nI th), .ref vt, .int (nI tl), .int (nI ta), .int yr, .int ys, .int yo, .int yf, .int ye, .ref vc, .ref vb])), (vt, .inl (cY 0, 60, .inl (m_nf tx)))] H1 := hP
  have hD : va_D A [(mx, .inr (7, [.ref va, .ref vk, .ref vr, .int (nI rl), .ref vs, .int (nI ik), .int (nI th), .ref vt, .int (nI tl), .int (nI ta), .int yr, .int ys, .int yo, .int yf, .int ye, .ref vc, .ref vb])), (vt, .inl (cY 0, 60, .inl (m_nf tx)))] := hD
  rcases Decidable.em (65 ≤ p_at tx tl ta ∧ p_at tx tl ta ≤ 72) with ha | ha
  · skip
    refine lv_topi (nm_r (congrArg nI (if_pos ha)) ?_)
    refine lv_if_eq (tgt := 41) hx hb dX7_readsOperand_8 (by decide) (fun c8 => ?_) (fun c8 => ?_)
    · exact absurd c8 (by decide)
    · have hin := p_at_in (tx := tx) (show 0 < p_at tx tl ta by omega)
      refine lv_aload_n hx hb dX7_readsOperand_11 rfl (lv_at hl 0 rfl) ?_
      refine lv_bipush (v := nI 65) hx hb dX7_readsOperand_12 (by decide) ?_
      refine lv_aload_n hx hb dX7_readsOperand_14 rfl (lv_at hl 0 rfl) ?_
      refine va_get (D := D) (ci := 7) (v := .ref vt) (C := RX7) (T := TX7) (N := 17) hx hb hts hw1 hown hK hP 0 rfl rfl 7 (by decide) hw0 (fun _ h9 => h9) rfl dX7_readsOperand_15 ?_
      refine lv_aload_n hx hb dX7_readsOperand_18 rfl (lv_at hl 0 rfl) ?_
      refine va_get (D := D) (ci := 7) (v := .int (nI ta)) (C := RX7) (T := TX7) (N := 17) hx hb hts hw1 hown hK hP 0 rfl rfl 9 (by decide) hw2 (fun _ h9 => h9) rfl dX7_readsOperand_19 ?_
      refine va_iald hx hb hK hP 1 0 rfl rfl (m_in (n := ta) (by first | assumption | omega) (by decide)) dX7_readsOperand_22 ?_
      refine lv_topi (nm_r (m_ldn (g := tx) (n := ta) (by omega)) ?_)
      refine lv_topi (nm_r (congrArg nI (p_at_of hin).symm) ?_)
      refine lv_isub hx hb dX7_readsOperand_23 ?_
      refine lv_topi (nm_r (rfl) ?_)
      refine lv_iconst (v := nI 1) hx hb dX7_readsOperand_24 (by decide) ?_
      refine lv_isub hx hb dX7_readsOperand_25 ?_
      refine lv_topi (nm_r (p_ref_reg ha) ?_)
      refine va_put (D := D) (ci := 7) (v := .int (p_ref (65536 + (p_at tx tl ta - 65)))) (ty := .int) (C := RX7) (T := TX7) (N := 17) hx hb hts hw1 tyX7 tyX7_ok nmX7 hown hK hP hD hS 0 rfl rfl 12 (by decide) hw3 (fun _ h9 => h9) rfl (by decide +kernel) rfl rfl (Nat.le_of_ble_eq_true rfl) dX7_readsOperand_26 (fun H3 locs hP hD hS => ?_)
      have hP : va_P D vwCl [(mx, .inr (7, [.ref va, .ref vk, .ref vr, .int (nI rl), .ref vs, .int (nI ik), .int (nI th), .ref vt, .int (nI tl), .int (nI ta), .int yr, .int ys, .int (p_ref (65536 + (p_at tx tl ta - 65))), .int yf, .int ye, .ref vc, .ref vb])), (vt, .inl (cY 0, 60, .inl (m_nf tx)))] H3 := hP
      have hD : va_D A [(mx, .inr (7, [.ref va, .ref vk, .ref vr, .int (nI rl), .ref vs, .int (nI ik), .int (nI th), .ref vt, .int (nI tl), .int (nI ta), .int yr, .int ys, .int (p_ref (65536 + (p_at tx tl ta - 65))), .int yf, .int ye, .ref vc, .ref vb])), (vt, .inl (cY 0, 60, .inl (m_nf tx)))] := hD
      refine lv_aload_n hx hb dX7_readsOperand_29 rfl (lv_at hl 0 rfl) ?_
      refine lv_dup hx hb dX7_readsOperand_30 rfl ?_
      refine va_get (D := D) (ci := 7) (v := .int (nI ta)) (C := RX7) (T := TX7) (N := 17) hx hb hts hw1 hown hK hP 0 rfl rfl 9 (by decide) hw2 (fun _ h9 => h9) rfl dX7_readsOperand_31 ?_
      refine lv_iconst (v := nI 1) hx hb dX7_readsOperand_34 (by decide) ?_
      refine lv_iadd hx hb dX7_readsOperand_35 ?_
      refine lv_topi (nm_r (nI_add _ _) ?_)
      refine va_put (D := D) (ci := 7) (v := .int (nI (ta + 1))) (ty := .int) (C := RX7) (T := TX7) (N := 17) hx hb hts hw1 tyX7 tyX7_ok nmX7 hown hK hP hD hS 0 rfl rfl 9 (by decide) hw2 (fun _ h9 => h9) rfl (by decide +kernel) rfl rfl (Nat.le_of_ble_eq_true rfl) dX7_readsOperand_36 (fun H4 locs hP hD hS => ?_)
      have hP : va_P D vwCl [(mx, .inr (7, [.ref va, .ref vk, .ref vr, .int (nI rl), .ref vs, .int (nI ik), .int (nI th), .ref vt, .int (nI tl), .int (nI (ta + 1)), .int yr, .int ys, .int (p_ref (65536 + (p_at tx tl ta - 65))), .int yf, .int ye, .ref vc, .ref vb])), (vt, .inl (cY 0, 60, .inl (m_nf tx)))] H4 := hP
      have hD : va_D A [(mx, .inr (7, [.ref va, .ref vk, .ref vr, .int (nI rl), .ref vs, .int (nI ik), .int (nI th), .ref vt, .int (nI tl), .int (nI (ta + 1)), .int yr, .int ys, .int (p_ref (65536 + (p_at tx tl ta - 65))), .int yf, .int ye, .ref vc, .ref vb])), (vt, .inl (cY 0, 60, .inl (m_nf tx)))] := hD
      refine lv_iconst (v := nI 1) hx hb dX7_readsOperand_39 (by decide) ?_
      subst hQ
      exact m_zret C0 (by decide) hS dX7_readsOperand_40 (u := (ta + 1, p_ref (65536 + (p_at tx tl ta - 65)))) hP (Or.inr ⟨_, rfl, by rw [p_opd, p_rg, if_pos ha], rfl, by omega, by omega⟩)
  · skip
    refine lv_topi (nm_r (congrArg nI (if_neg ha)) ?_)
    refine lv_if_eq (tgt := 41) hx hb dX7_readsOperand_8 (by decide) (fun c8 => ?_) (fun c8 => ?_)
    · refine lv_aload_n hx hb dX7_readsOperand_41 rfl (lv_at hl 0 rfl) ?_
      refine lv_bipush (v := nI 48) hx hb dX7_readsOperand_42 (by decide) ?_
      refine lv_bipush (v := nI 57) hx hb dX7_readsOperand_44 (by decide) ?_
      refine m_callVi (As := [.int (nI 48), .int (nI 57)]) (rest := []) C0 hl hP hD hS (c_X7_isHere l D cY mx va vk vr vs vt vc vb rl ik th tl ta yr ys yo yf ye tx 48 57 (by first | assumption | omega | exact nm_lt _ _ | exact np_lt _ _ | decide) (by first | assumption | omega | exact nm_lt _ _ | exact np_lt _ _ | decide) (by first | assumption | omega | exact nm_lt _ _ | exact np_lt _ _ | decide) (by first | assumption | omega | exact nm_lt _ _ | exact np_lt _ _ | decide) (by first | assumption | omega | exact nm_lt _ _ | exact np_lt _ _ | decide) (by first | assumption | omega | exact nm_lt _ _ | exact np_lt _ _ | decide)) (cwV 2 hts gX7_readsOperand_X7_isHere rfl rfl rfl (by decide +kernel) ⟨Nat.le_of_ble_eq_true rfl, Nat.le_of_ble_eq_true rfl⟩) dX7_readsOperand_46 [0, 1] rfl rfl 0 rfl rfl rfl rfl (Nat.le_of_ble_eq_true rfl) (Nat.zero_le _) (Nat.zero_le _) (fun _ => rfl) (fun r6 u H5 locs hw hP hD hS => ?_)
      try dsimp only at hw
      obtain rfl := hw
      have hP : va_P D vwCl [(mx, .inr (7, [.ref va, .ref vk, .ref vr, .int (nI rl), .ref vs, .int (nI ik), .int (nI th), .ref vt, .int (nI tl), .int (nI ta), .int yr, .int ys, .int yo, .int yf, .int ye, .ref vc, .ref vb])), (vt, .inl (cY 0, 60, .inl (m_nf tx)))] H5 := hP
      have hD : va_D A [(mx, .inr (7, [.ref va, .ref vk, .ref vr, .int (nI rl), .ref vs, .int (nI ik), .int (nI th), .ref vt, .int (nI tl), .int (nI ta), .int yr, .int ys, .int yo, .int yf, .int ye, .ref vc, .ref vb])), (vt, .inl (cY 0, 60, .inl (m_nf tx)))] := hD
      rcases Decidable.em (48 ≤ p_at tx tl ta ∧ p_at tx tl ta ≤ 57) with hd | hd
      · skip
        refine lv_topi (nm_r (congrArg nI (if_pos hd)) ?_)
        refine lv_if_ne (tgt := 54) hx hb dX7_readsOperand_49 (by decide) (fun c49 => ?_) (fun c49 => ?_)
        · have hin := p_at_in (tx := tx) (show 0 < p_at tx tl ta by omega)
          refine lv_aload_n hx hb dX7_readsOperand_54 rfl (lv_at hl 0 rfl) ?_
          refine lv_aload_n hx hb dX7_readsOperand_55 rfl (lv_at hl 0 rfl) ?_
          refine va_get (D := D) (ci := 7) (v := .ref vt) (C := RX7) (T := TX7) (N := 17) hx hb hts hw1 hown hK hP 0 rfl rfl 7 (by decide) hw0 (fun _ h9 => h9) rfl dX7_readsOperand_56 ?_
          refine lv_aload_n hx hb dX7_readsOperand_59 rfl (lv_at hl 0 rfl) ?_
          refine va_get (D := D) (ci := 7) (v := .int (nI ta)) (C := RX7) (T := TX7) (N := 17) hx hb hts hw1 hown hK hP 0 rfl rfl 9 (by decide) hw2 (fun _ h9 => h9) rfl dX7_readsOperand_60 ?_
          refine va_iald hx hb hK hP 1 0 rfl rfl (m_in (n := ta) (by first | assumption | omega) (by decide)) dX7_readsOperand_63 ?_
          refine lv_topi (nm_r (m_ldn (g := tx) (n := ta) (by omega)) ?_)
          refine lv_topi (nm_r (congrArg nI (p_at_of hin).symm) ?_)
          refine lv_bipush (v := nI 48) hx hb dX7_readsOperand_64 (by decide) ?_
          refine lv_isub hx hb dX7_readsOperand_66 ?_
          refine lv_topi (nm_r (pk_sub (by omega)) ?_)
          refine va_put (D := D) (ci := 7) (v := .int (nI ((p_at tx tl ta) - 48))) (ty := .int) (C := RX7) (T := TX7) (N := 17) hx hb hts hw1 tyX7 tyX7_ok nmX7 hown hK hP hD hS 0 rfl rfl 12 (by decide) hw3 (fun _ h9 => h9) rfl (by decide +kernel) rfl rfl (Nat.le_of_ble_eq_true rfl) dX7_readsOperand_67 (fun H7 locs hP hD hS => ?_)
          have hP : va_P D vwCl [(mx, .inr (7, [.ref va, .ref vk, .ref vr, .int (nI rl), .ref vs, .int (nI ik), .int (nI th), .ref vt, .int (nI tl), .int (nI ta), .int yr, .int ys, .int (nI ((p_at tx tl ta) - 48)), .int yf, .int ye, .ref vc, .ref vb])), (vt, .inl (cY 0, 60, .inl (m_nf tx)))] H7 := hP
          have hD : va_D A [(mx, .inr (7, [.ref va, .ref vk, .ref vr, .int (nI rl), .ref vs, .int (nI ik), .int (nI th), .ref vt, .int (nI tl), .int (nI ta), .int yr, .int ys, .int (nI ((p_at tx tl ta) - 48)), .int yf, .int ye, .ref vc, .ref vb])), (vt, .inl (cY 0, 60, .inl (m_nf tx)))] := hD
          refine lv_aload_n hx hb dX7_readsOperand_70 rfl (lv_at hl 0 rfl) ?_
          refine lv_dup hx hb dX7_readsOperand_71 rfl ?_
          refine va_get (D := D) (ci := 7) (v := .int (nI ta)) (C := RX7) (T := TX7) (N := 17) hx hb hts hw1 hown hK hP 0 rfl rfl 9 (by decide) hw2 (fun _ h9 => h9) rfl dX7_readsOperand_72 ?_
          refine lv_iconst (v := nI 1) hx hb dX7_readsOperand_75 (by decide) ?_
          refine lv_iadd hx hb dX7_readsOperand_76 ?_
          refine lv_topi (nm_r (nI_add _ _) ?_)
          refine va_put (D := D) (ci := 7) (v := .int (nI (ta + 1))) (ty := .int) (C := RX7) (T := TX7) (N := 17) hx hb hts hw1 tyX7 tyX7_ok nmX7 hown hK hP hD hS 0 rfl rfl 9 (by decide) hw2 (fun _ h9 => h9) rfl (by decide +kernel) rfl rfl (Nat.le_of_ble_eq_true rfl) dX7_readsOperand_77 (fun H8 locs hP hD hS => ?_)
          have hP : va_P D vwCl [(mx, .inr (7, [.ref va, .ref vk, .ref vr, .int (nI rl), .ref vs, .int (nI ik), .int (nI th), .ref vt, .int (nI tl), .int (nI (ta + 1)), .int yr, .int ys, .int (nI ((p_at tx tl ta) - 48)), .int yf, .int ye, .ref vc, .ref vb])), (vt, .inl (cY 0, 60, .inl (m_nf tx)))] H8 := hP
          have hD : va_D A [(mx, .inr (7, [.ref va, .ref vk, .ref vr, .int (nI rl), .ref vs, .int (nI ik), .int (nI th), .ref vt, .int (nI tl), .int (nI (ta + 1)), .int yr, .int ys, .int (nI ((p_at tx tl ta) - 48)), .int yf, .int ye, .ref vc, .ref vb])), (vt, .inl (cY 0, 60, .inl (m_nf tx)))] := hD
          have lp80_9 : ∀ (nn : Nat) (v : Nat) (k : Nat) (H : Heap) (locs : List Loc) (ls : Array Slot), (v < 65536) → (k ≤ tl) → (p_nl tx tl (tl - k) v k = p_nl tx tl (tl - (ta + 1)) (p_at tx tl ta - 48) (ta + 1)) → tl - k < nn → va_P D vwCl [(mx, .inr (7, [.ref va, .ref vk, .ref vr, .int (nI rl), .ref vs, .int (nI ik), .int (nI th), .ref vt, .int (nI tl), .int (nI k), .int yr, .int ys, .int (nI v), .int yf, .int ye, .ref vc, .ref vb])), (vt, .inl (cY 0, 60, .inl (m_nf tx)))] H → va_D A [(mx, .inr (7, [.ref va, .ref vk, .ref vr, .int (nI rl), .ref vs, .int (nI ik), .int (nI th), .ref vt, .int (nI tl), .int (nI k), .int yr, .int ys, .int (nI v), .int yf, .int ye, .ref vc, .ref vb])), (vt, .inl (cY 0, 60, .inl (m_nf tx)))] → va_S A s.heap H locs → lv_has ls 1 [(0, .ref mx)] → W p l e { frames := 2, cells := 0, slots := 0, locals := 47 } s m ([.ref mx] : List Value).toArray below meth c H locs 0 0 Q (F0 m 80 ls []) := by
            intro nn
            induction nn with
            | zero => intros; omega
            | succ nn ih80 =>
              intro v k H locs ls hv hk heq hmz hP hD hS hl
              refine lv_aload_n hx hb dX7_readsOperand_80 rfl (lv_at hl 0 rfl) ?_
              refine va_get (D := D) (ci := 7) (v := .int (nI v)) (C := RX7) (T := TX7) (N := 17) hx hb hts hw1 hown hK hP 0 rfl rfl 12 (by decide) hw3 (fun _ h9 => h9) rfl dX7_readsOperand_81 ?_
              refine lv_if_le (tgt := 160) hx hb dX7_readsOperand_84 (by decide) (fun c84 => ?_) (fun c84 => ?_)
              · have c84 : v ≤ 0 := (nI_leI (a := v) (b := 0) (by first | omega | exact Nat.lt_of_le_of_lt Nat.and_le_right (by decide) | exact Nat.lt_trans (nm_lt _ _) (by decide) | exact Nat.lt_trans (np_lt _ _) (by decide) | exact Nat.lt_trans (p_at_lt htx) (by decide)) (by first | omega | exact Nat.lt_of_le_of_lt Nat.and_le_right (by decide) | exact Nat.lt_trans (nm_lt _ _) (by decide) | exact Nat.lt_trans (np_lt _ _) (by decide) | exact Nat.lt_trans (p_at_lt htx) (by decide))).mp c84
                refine lv_iconst (v := nI 1) hx hb dX7_readsOperand_160 (by decide) ?_
                subst hQ
                exact m_zret C0 (by decide) hS dX7_readsOperand_161 (u := (k, nI v)) hP (Or.inr ⟨v, rfl, by rw [p_opd, p_rg, if_neg ha, p_num, if_pos hd, ← heq, p_nl_stop tx tl (by omega)], (p_ref_n hv).symm, by omega, hk⟩)
              · have c84 : ¬ (v ≤ 0) := fun qq9 => c84 ((nI_leI (a := v) (b := 0) (by first | omega | exact Nat.lt_of_le_of_lt Nat.and_le_right (by decide) | exact Nat.lt_trans (nm_lt _ _) (by decide) | exact Nat.lt_trans (np_lt _ _) (by decide) | exact Nat.lt_trans (p_at_lt htx) (by decide)) (by first | omega | exact Nat.lt_of_le_of_lt Nat.and_le_right (by decide) | exact Nat.lt_trans (nm_lt _ _) (by decide) | exact Nat.lt_trans (np_lt _ _) (by decide) | exact Nat.lt_trans (p_at_lt htx) (by decide))).mpr qq9)
                refine lv_aload_n hx hb dX7_readsOperand_87 rfl (lv_at hl 0 rfl) ?_
                refine lv_bipush (v := nI 48) hx hb dX7_readsOperand_88 (by decide) ?_
                refine lv_bipush (v := nI 57) hx hb dX7_readsOperand_90 (by decide) ?_
                refine m_callVi (As := [.int (nI 48), .int (nI 57)]) (rest := []) C0 hl hP hD hS (c_X7_isHere l D cY mx va vk vr vs vt vc vb rl ik th tl k yr ys (nI v) yf ye tx 48 57 (by first | assumption | omega | exact nm_lt _ _ | exact np_lt _ _ | decide) (by first | assumption | omega | exact nm_lt _ _ | exact np_lt _ _ | decide) (by first | assumption | omega | exact nm_lt _ _ | exact np_lt _ _ | decide) (by first | assumption | omega | exact nm_lt _ _ | exact np_lt _ _ | decide) (by first | assumption | omega | exact nm_lt _ _ | exact np_lt _ _ | decide) (by first | assumption | omega | exact nm_lt _ _ | exact np_lt _ _ | decide)) (cwV 2 hts gX7_readsOperand_X7_isHere rfl rfl rfl (by decide +kernel) ⟨Nat.le_of_ble_eq_true rfl, Nat.le_of_ble_eq_true rfl⟩) dX7_readsOperand_92 [0, 1] rfl rfl 0 rfl rfl rfl rfl (Nat.le_of_ble_eq_true rfl) (Nat.zero_le _) (Nat.zero_le _) (fun _ => rfl) (fun r11 u H10 locs hw hP hD hS => ?_)
                try dsimp only at hw
                obtain rfl := hw
                have hP : va_P D vwCl [(mx, .inr (7, [.ref va, .ref vk, .ref vr, .int (nI rl), .ref vs, .int (nI ik), .int (nI th), .ref vt, .int (nI tl), .int (nI k), .int yr, .int ys, .int (nI v), .int yf, .int ye, .ref vc, .ref vb])), (vt, .inl (cY 0, 60, .inl (m_nf tx)))] H10 := hP
                have hD : va_D A [(mx, .inr (7, [.ref va, .ref vk, .ref vr, .int (nI rl), .ref vs, .int (nI ik), .int (nI th), .ref vt, .int (nI tl), .int (nI k), .int yr, .int ys, .int (nI v), .int yf, .int ye, .ref vc, .ref vb])), (vt, .inl (cY 0, 60, .inl (m_nf tx)))] := hD
                rcases Decidable.em (48 ≤ p_at tx tl k ∧ p_at tx tl k ≤ 57) with he | he
                · skip
                  refine lv_topi (nm_r (congrArg nI (if_pos he)) ?_)
                  refine lv_if_eq (tgt := 160) hx hb dX7_readsOperand_95 (by decide) (fun c95 => ?_) (fun c95 => ?_)
                  · exact absurd c95 (by decide)
                  · have hin2 := p_at_in (tx := tx) (show 0 < p_at tx tl k by omega)
                    refine lv_bipush (v := nI 10) hx hb dX7_readsOperand_98 (by decide) ?_
                    refine lv_aload_n hx hb dX7_readsOperand_100 rfl (lv_at hl 0 rfl) ?_
                    refine va_get (D := D) (ci := 7) (v := .int (nI v)) (C := RX7) (T := TX7) (N := 17) hx hb hts hw1 hown hK hP 0 rfl rfl 12 (by decide) hw3 (fun _ h9 => h9) rfl dX7_readsOperand_101 ?_
                    refine lv_imul hx hb dX7_readsOperand_104 ?_
                    refine lv_topi (nm_r (pk_mul _ _) ?_)
                    refine lv_aload_n hx hb dX7_readsOperand_105 rfl (lv_at hl 0 rfl) ?_
                    refine va_get (D := D) (ci := 7) (v := .ref vt) (C := RX7) (T := TX7) (N := 17) hx hb hts hw1 hown hK hP 0 rfl rfl 7 (by decide) hw0 (fun _ h9 => h9) rfl dX7_readsOperand_106 ?_
                    refine lv_aload_n hx hb dX7_readsOperand_109 rfl (lv_at hl 0 rfl) ?_
                    refine va_get (D := D) (ci := 7) (v := .int (nI k)) (C := RX7) (T := TX7) (N := 17) hx hb hts hw1 hown hK hP 0 rfl rfl 9 (by decide) hw2 (fun _ h9 => h9) rfl dX7_readsOperand_110 ?_
                    refine va_iald hx hb hK hP 1 0 rfl rfl (m_in (n := k) (by first | assumption | omega) (by decide)) dX7_readsOperand_113 ?_
                    refine lv_topi (nm_r (m_ldn (g := tx) (n := k) (by omega)) ?_)
                    refine lv_topi (nm_r (congrArg nI (p_at_of hin2).symm) ?_)
                    refine lv_iadd hx hb dX7_readsOperand_114 ?_
                    refine lv_topi (nm_r (nI_add _ _) ?_)
                    refine lv_bipush (v := nI 48) hx hb dX7_readsOperand_115 (by decide) ?_
                    refine lv_isub hx hb dX7_readsOperand_117 ?_
                    refine lv_topi (nm_r ((pk_sub (a := 10 * v + p_at tx tl k) (b := 48) (by omega)).trans (congrArg nI (show 10 * v + p_at tx tl k - 48 = 10 * v + (p_at tx tl k - 48) by omega))) ?_)
                    refine lv_ldc hx hb hown hw4 dX7_readsOperand_118 ?_
                    refine lv_topi (nm_r (show ((65535 : Int32)) = nI 65535 from by decide) ?_)
                    refine lv_icmp_gt (tgt := 160) hx hb dX7_readsOperand_120 (by decide) (fun c120 => ?_) (fun c120 => ?_)
                    · have c120 : 65535 < (10 * v + (p_at tx tl k - 48)) := (nI_ltI (a := 65535) (b := (10 * v + (p_at tx tl k - 48))) (by first | omega | exact Nat.lt_of_le_of_lt Nat.and_le_right (by decide) | exact Nat.lt_trans (nm_lt _ _) (by decide) | exact Nat.lt_trans (np_lt _ _) (by decide) | exact Nat.lt_trans (p_at_lt htx) (by decide)) (by first | omega | exact Nat.lt_of_le_of_lt Nat.and_le_right (by decide) | exact Nat.lt_trans (nm_lt _ _) (by decide) | exact Nat.lt_trans (np_lt _ _) (by decide) | exact Nat.lt_trans (p_at_lt htx) (by decide))).mp c120
                      refine lv_iconst (v := nI 1) hx hb dX7_readsOperand_160 (by decide) ?_
                      subst hQ
                      exact m_zret C0 (by decide) hS dX7_readsOperand_161 (u := (k, nI v)) hP (Or.inr ⟨v, rfl, by rw [p_opd, p_rg, if_neg ha, p_num, if_pos hd, ← heq, p_nl_stop tx tl (by omega)], (p_ref_n hv).symm, by omega, hk⟩)
                    · have c120 : ¬ (65535 < (10 * v + (p_at tx tl k - 48))) := fun qq9 => c120 ((nI_ltI (a := 65535) (b := (10 * v + (p_at tx tl k - 48))) (by first | omega | exact Nat.lt_of_le_of_lt Nat.and_le_right (by decide) | exact Nat.lt_trans (nm_lt _ _) (by decide) | exact Nat.lt_trans (np_lt _ _) (by decide) | exact Nat.lt_trans (p_at_lt htx) (by decide)) (by first | omega | exact Nat.lt_of_le_of_lt Nat.and_le_right (by decide) | exact Nat.lt_trans (nm_lt _ _) (by decide) | exact Nat.lt_trans (np_lt _ _) (by decide) | exact Nat.lt_trans (p_at_lt htx) (by decide))).mpr qq9)
                      refine lv_aload_n hx hb dX7_readsOperand_123 rfl (lv_at hl 0 rfl) ?_
                      refine lv_bipush (v := nI 10) hx hb dX7_readsOperand_124 (by decide) ?_
                      refine lv_aload_n hx hb dX7_readsOperand_126 rfl (lv_at hl 0 rfl) ?_
                      refine va_get (D := D) (ci := 7) (v := .int (nI v)) (C := RX7) (T := TX7) (N := 17) hx hb hts hw1 hown hK hP 0 rfl rfl 12 (by decide) hw3 (fun _ h9 => h9) rfl dX7_readsOperand_127 ?_
                      refine lv_imul hx hb dX7_readsOperand_130 ?_
                      refine lv_topi (nm_r (pk_mul _ _) ?_)
                      refine lv_aload_n hx hb dX7_readsOperand_131 rfl (lv_at hl 0 rfl) ?_
                      refine va_get (D := D) (ci := 7) (v := .ref vt) (C := RX7) (T := TX7) (N := 17) hx hb hts hw1 hown hK hP 0 rfl rfl 7 (by decide) hw0 (fun _ h9 => h9) rfl dX7_readsOperand_132 ?_
                      refine lv_aload_n hx hb dX7_readsOperand_135 rfl (lv_at hl 0 rfl) ?_
                      refine va_get (D := D) (ci := 7) (v := .int (nI k)) (C := RX7) (T := TX7) (N := 17) hx hb hts hw1 hown hK hP 0 rfl rfl 9 (by decide) hw2 (fun _ h9 => h9) rfl dX7_readsOperand_136 ?_
                      refine va_iald hx hb hK hP 1 0 rfl rfl (m_in (n := k) (by first | assumption | omega) (by decide)) dX7_readsOperand_139 ?_
                      refine lv_topi (nm_r (m_ldn (g := tx) (n := k) (by omega)) ?_)
                      refine lv_topi (nm_r (congrArg nI (p_at_of hin2).symm) ?_)
                      refine lv_iadd hx hb dX7_readsOperand_140 ?_
                      refine lv_topi (nm_r (nI_add _ _) ?_)
                      refine lv_bipush (v := nI 48) hx hb dX7_readsOperand_141 (by decide) ?_
                      refine lv_isub hx hb dX7_readsOperand_143 ?_
                      refine lv_topi (nm_r ((pk_sub (a := 10 * v + p_at tx tl k) (b := 48) (by omega)).trans (congrArg nI (show 10 * v + p_at tx tl k - 48 = 10 * v + (p_at tx tl k - 48) by omega))) ?_)
                      refine va_put (D := D) (ci := 7) (v := .int (nI (10 * v + (p_at tx tl k - 48)))) (ty := .int) (C := RX7) (T := TX7) (N := 17) hx hb hts hw1 tyX7 tyX7_ok nmX7 hown hK hP hD hS 0 rfl rfl 12 (by decide) hw3 (fun _ h9 => h9) rfl (by decide +kernel) rfl rfl (Nat.le_of_ble_eq_true rfl) dX7_readsOperand_144 (fun H12 locs hP hD hS => ?_)
                      have hP : va_P D vwCl [(mx, .inr (7, [.ref va, .ref vk, .ref vr, .int (nI rl), .ref vs, .int (nI ik), .int (nI th), .ref vt, .int (nI tl), .int (nI k), .int yr, .int ys, .int (nI (10 * v + (p_at tx tl k - 48))), .int yf, .int ye, .ref vc, .ref vb])), (vt, .inl (cY 0, 60, .inl (m_nf tx)))] H12 := hP
                      have hD : va_D A [(mx, .inr (7, [.ref va, .ref vk, .ref vr, .int (nI rl), .ref vs, .int (nI ik), .int (nI th), .ref vt, .int (nI tl), .int (nI k), .int yr, .int ys, .int (nI (10 * v + (p_at tx tl k - 48))), .int yf, .int ye, .ref vc, .ref vb])), (vt, .inl (cY 0, 60, .inl (m_nf tx)))] := hD
                      refine lv_aload_n hx hb dX7_readsOperand_147 rfl (lv_at hl 0 rfl) ?_
                      refine lv_dup hx hb dX7_readsOperand_148 rfl ?_
                      refine va_get (D := D) (ci := 7) (v := .int (nI k)) (C := RX7) (T := TX7) (N := 17) hx hb hts hw1 hown hK hP 0 rfl rfl 9 (by decide) hw2 (fun _ h9 => h9) rfl dX7_readsOperand_149 ?_
                      refine lv_iconst (v := nI 1) hx hb dX7_readsOperand_152 (by decide) ?_
                      refine lv_iadd hx hb dX7_readsOperand_153 ?_
                      refine lv_topi (nm_r (nI_add _ _) ?_)
                      refine va_put (D := D) (ci := 7) (v := .int (nI (k + 1))) (ty := .int) (C := RX7) (T := TX7) (N := 17) hx hb hts hw1 tyX7 tyX7_ok nmX7 hown hK hP hD hS 0 rfl rfl 9 (by decide) hw2 (fun _ h9 => h9) rfl (by decide +kernel) rfl rfl (Nat.le_of_ble_eq_true rfl) dX7_readsOperand_154 (fun H13 locs hP hD hS => ?_)
                      have hP : va_P D vwCl [(mx, .inr (7, [.ref va, .ref vk, .ref vr, .int (nI rl), .ref vs, .int (nI ik), .int (nI th), .ref vt, .int (nI tl), .int (nI (k + 1)), .int yr, .int ys, .int (nI (10 * v + (p_at tx tl k - 48))), .int yf, .int ye, .ref vc, .ref vb])), (vt, .inl (cY 0, 60, .inl (m_nf tx)))] H13 := hP
                      have hD : va_D A [(mx, .inr (7, [.ref va, .ref vk, .ref vr, .int (nI rl), .ref vs, .int (nI ik), .int (nI th), .ref vt, .int (nI tl), .int (nI (k + 1)), .int yr, .int ys, .int (nI (10 * v + (p_at tx tl k - 48))), .int yf, .int ye, .ref vc, .ref vb])), (vt, .inl (cY 0, 60, .inl (m_nf tx)))] := hD
                      refine lv_goto (tgt := 80) hx hb dX7_readsOperand_157 (by decide) ?_
                      exact ih80 (10 * v + (p_at tx tl k - 48)) (k + 1) _ _ ls (by omega) (by omega) ((p_nl_go tx tl (by omega) (by omega)).trans heq) (by omega) hP hD hS (lv_sub hl [0] rfl)
                · skip
                  refine lv_topi (nm_r (congrArg nI (if_neg he)) ?_)
                  refine lv_if_eq (tgt := 160) hx hb dX7_readsOperand_95 (by decide) (fun c95 => ?_) (fun c95 => ?_)
                  · refine lv_iconst (v := nI 1) hx hb dX7_readsOperand_160 (by decide) ?_
                    subst hQ
                    exact m_zret C0 (by decide) hS dX7_readsOperand_161 (u := (k, nI v)) hP (Or.inr ⟨v, rfl, by rw [p_opd, p_rg, if_neg ha, p_num, if_pos hd, ← heq, p_nl_stop tx tl (by omega)], (p_ref_n hv).symm, by omega, hk⟩)
                  · exact absurd c95 (by decide)
          exact lp80_9 _ ((p_at tx tl ta) - 48) (ta + 1) _ _ ls (by omega) (by omega) (rfl) (Nat.lt_succ_self _) hP hD hS (lv_sub hl [0] rfl)
        · exact absurd c49 (by decide)
      · skip
        refine lv_topi (nm_r (congrArg nI (if_neg hd)) ?_)
        refine lv_if_ne (tgt := 54) hx hb dX7_readsOperand_49 (by decide) (fun c49 => ?_) (fun c49 => ?_)
        · exact absurd c49 (by decide)
        · refine lv_iconst (v := nI 0) hx hb dX7_readsOperand_52 (by decide) ?_
          subst hQ
          exact m_zret C0 (by decide) hS dX7_readsOperand_53 (u := (ta, yo)) hP (Or.inl ⟨rfl, by rw [p_opd, p_rg, if_neg ha, p_num, if_neg hd], rfl⟩)
    · exact absurd c8 (by decide)
