set_option maxHeartbeats 4000000 in
set_option maxRecDepth 100000 in
theorem c_X3_isFull (l : Launch) (D : va_G) (cY : Nat → ClassId) (pr tp sp len sc cur : Nat) (tx : Nat → Nat) (hlen : len ≤ 60) (htx : ∀ j, tx j < 65536) : m_Mi l yX3_isFull wsX3_isFull 0 0 D cY [.ref pr] [(pr, .inr (3, [.ref tp, .ref sp, .int (nI len), .int (nI sc), .int (nI cur)])), (tp, .inl (cY 1, 60, .inl (m_nf tx)))] (fun (res : Int32) (u : Unit) => res = nI (if 60 ≤ len then 1 else 0)) (fun (u : Unit) => [(pr, .inr (3, [.ref tp, .ref sp, .int (nI len), .int (nI sc), .int (nI cur)])), (tp, .inl (cY 1, 60, .inl (m_nf tx)))]) := by
  refine m_enterI (cc := cX3_isFull) (maxL := 1) (ret := (some .boolean)) (by decide +kernel) rfl (Nat.le_of_ble_eq_true rfl) ?_
  intro p e s m below meth c A ls C0 hP hD hl
  obtain ⟨hx, hb, hr, hml, hts, hown, hlocks, hK, hA⟩ := id C0
  generalize hQ : MQ below _ _ s 0 0 A = Q
  have hS : va_S A s.heap s.heap [] := va_S.rf
  have hl : lv_has ls 1 [(0, .ref pr)] := hl
  have hw0 := hts (.fieldLink RX3 22 "NimberField$Program" "length" "I") (by decide +kernel)
  have hw1 := (show ∀ w ∈ u_ws RX3 TX3 5, w ∈ wsX3_isFull from by decide +kernel)
  refine lv_aload_n hx hb dX3_isFull_0 rfl (lv_at hl 0 rfl) ?_
  refine va_get (D := D) (ci := 3) (v := .int (nI len)) (C := RX3) (T := TX3) (N := 5) hx hb hts hw1 hown hK hP 0 rfl rfl 2 (by decide) hw0 (fun _ h9 => h9) rfl dX3_isFull_1 ?_
  refine lv_bipush (v := nI 60) hx hb dX3_isFull_4 (by decide) ?_
  refine lv_icmp_lt (tgt := 13) hx hb dX3_isFull_6 (by decide) (fun c6 => ?_) (fun c6 => ?_)
  · have c6 : len < 60 := (nI_ltI (a := len) (b := 60) (by first | omega | exact Nat.lt_of_le_of_lt Nat.and_le_right (by decide) | exact Nat.lt_trans (nm_lt _ _) (by decide) | exact Nat.lt_trans (np_lt _ _) (by decide) | exact Nat.lt_trans (p_at_lt htx) (by decide)) (by first | omega | exact Nat.lt_of_le_of_lt Nat.and_le_right (by decide) | exact Nat.lt_trans (nm_lt _ _) (by decide) | exact Nat.lt_trans (np_lt _ _) (by decide) | exact Nat.lt_trans (p_at_lt htx) (by decide))).mp c6
    refine lv_iconst (v := nI 0) hx hb dX3_isFull_13 (by decide) ?_
    subst hQ
    exact m_zret C0 (by decide) hS dX3_isFull_14 (u := ()) hP (by first | rw [if_pos (by omega)] | rw [if_neg (by omega)])
  · have c6 : ¬ (len < 60) := fun q => c6 ((nI_ltI (a := len) (b := 60) (by first | omega | exact Nat.lt_of_le_of_lt Nat.and_le_right (by decide) | exact Nat.lt_trans (nm_lt _ _) (by decide) | exact Nat.lt_trans (np_lt _ _) (by decide) | exact Nat.lt_trans (p_at_lt htx) (by decide)) (by first | omega | exact Nat.lt_of_le_of_lt Nat.and_le_right (by decide) | exact Nat.lt_trans (nm_lt _ _) (by decide) | exact Nat.lt_trans (np_lt _ _) (by decide) | exact Nat.lt_trans (p_at_lt htx) (by decide))).mpr q)
    refine lv_iconst (v := nI 1) hx hb dX3_isFull_9 (by decide) ?_
    refine lv_goto (tgt := 14) hx hb dX3_isFull_10 (by decide) ?_
    subst hQ
    exact m_zret C0 (by decide) hS dX3_isFull_14 (u := ()) hP (by first | rw [if_pos (by omega)] | rw [if_neg (by omega)])
set_option maxHeartbeats 4000000 in
set_option maxRecDepth 100000 in
theorem c_X3_append (l : Launch) (D : va_G) (cY : Nat → ClassId) (pr tp sp len sc cur : Nat) (tx : Nat → Nat) (ch : Nat) (hlen : len ≤ 60) (htx : ∀ j, tx j < 65536) (hl6 : len < 60) (hch : ch < 65536) : m_Mi l yX3_append wsX3_append 0 0 D cY [.ref pr, .int (nI ch)] [(pr, .inr (3, [.ref tp, .ref sp, .int (nI len), .int (nI sc), .int (nI cur)])), (tp, .inl (cY 1, 60, .inl (m_nf tx)))] (fun (res : Int32) (u : Unit) => res = nI (len + 1)) (fun (u : Unit) => [(pr, .inr (3, [.ref tp, .ref sp, .int (nI (len + 1)), .int (nI sc), .int (nI cur)])), (tp, .inl (cY 1, 60, .inl (m_nf (m_up tx len ch))))]) := by
  refine m_enterI (cc := cX3_append) (maxL := 2) (ret := (some .int)) (by decide +kernel) rfl (Nat.le_of_ble_eq_true rfl) ?_
  intro p e s m below meth c A ls C0 hP hD hl
  obtain ⟨hx, hb, hr, hml, hts, hown, hlocks, hK, hA⟩ := id C0
  generalize hQ : MQ below _ _ s 0 0 A = Q
  have hS : va_S A s.heap s.heap [] := va_S.rf
  have hl : lv_has ls 2 [(0, .ref pr), (1, .int (nI ch))] := hl
  have hw0 := hts (.fieldLink RX3 22 "NimberField$Program" "length" "I") (by decide +kernel)
  have hw1 := (show ∀ w ∈ u_ws RX3 TX3 5, w ∈ wsX3_append from by decide +kernel)
  have hw2 := hts (.fieldLink RX3 9 "NimberField$Program" "text" "[C") (by decide +kernel)
  refine lv_aload_n hx hb dX3_append_0 rfl (lv_at hl 0 rfl) ?_
  refine va_get (D := D) (ci := 3) (v := .int (nI len)) (C := RX3) (T := TX3) (N := 5) hx hb hts hw1 hown hK hP 0 rfl rfl 2 (by decide) hw0 (fun _ h9 => h9) rfl dX3_append_1 ?_
  refine lv_bipush (v := nI 60) hx hb dX3_append_4 (by decide) ?_
  refine lv_icmp_ge (tgt := 29) hx hb dX3_append_6 (by decide) (fun c6 => ?_) (fun c6 => ?_)
  · have c6 : 60 ≤ len := (nI_leI (a := 60) (b := len) (by first | omega | exact Nat.lt_of_le_of_lt Nat.and_le_right (by decide) | exact Nat.lt_trans (nm_lt _ _) (by decide) | exact Nat.lt_trans (np_lt _ _) (by decide) | exact Nat.lt_trans (p_at_lt htx) (by decide)) (by first | omega | exact Nat.lt_of_le_of_lt Nat.and_le_right (by decide) | exact Nat.lt_trans (nm_lt _ _) (by decide) | exact Nat.lt_trans (np_lt _ _) (by decide) | exact Nat.lt_trans (p_at_lt htx) (by decide))).mp c6
    exfalso; omega
  · have c6 : ¬ (60 ≤ len) := fun q => c6 ((nI_leI (a := 60) (b := len) (by first | omega | exact Nat.lt_of_le_of_lt Nat.and_le_right (by decide) | exact Nat.lt_trans (nm_lt _ _) (by decide) | exact Nat.lt_trans (np_lt _ _) (by decide) | exact Nat.lt_trans (p_at_lt htx) (by decide)) (by first | omega | exact Nat.lt_of_le_of_lt Nat.and_le_right (by decide) | exact Nat.lt_trans (nm_lt _ _) (by decide) | exact Nat.lt_trans (np_lt _ _) (by decide) | exact Nat.lt_trans (p_at_lt htx) (by decide))).mpr q)
    refine lv_aload_n hx hb dX3_append_9 rfl (lv_at hl 0 rfl) ?_
    refine va_get (D := D) (ci := 3) (v := .ref tp) (C := RX3) (T := TX3) (N := 5) hx hb hts hw1 hown hK hP 0 rfl rfl 0 (by decide) hw2 (fun _ h9 => h9) rfl dX3_append_10 ?_
    refine lv_aload_n hx hb dX3_append_13 rfl (lv_at hl 0 rfl) ?_
    refine va_get (D := D) (ci := 3) (v := .int (nI len)) (C := RX3) (T := TX3) (N := 5) hx hb hts hw1 hown hK hP 0 rfl rfl 2 (by decide) hw0 (fun _ h9 => h9) rfl dX3_append_14 ?_
    refine lv_iload_n hx hb dX3_append_17 rfl (lv_at hl 1 rfl) ?_
    refine va_cast hx hb hK hP hD hS 1 1 rfl rfl (m_in (n := len) (by first | assumption | omega) (by decide)) dX3_append_18 (fun H1 locs hP hD hS => ?_)
    have hP : va_P D vwCl [(pr, .inr (3, [.ref tp, .ref sp, .int (nI len), .int (nI sc), .int (nI cur)])), (tp, .inl (cY 1, 60, .inl (upd (m_nf tx) (nI len).toNatClampNeg (vp_nar .char (nI ch)))))] H1 := hP
    have hD : va_D A [(pr, .inr (3, [.ref tp, .ref sp, .int (nI len), .int (nI sc), .int (nI cur)])), (tp, .inl (cY 1, 60, .inl (upd (m_nf tx) (nI len).toNatClampNeg (vp_nar .char (nI ch)))))] := hD
    rw [m_nar hch, m_upd (g := tx) (n := len) (v := ch) (by omega)] at hP hD
    have hP : va_P D vwCl [(pr, .inr (3, [.ref tp, .ref sp, .int (nI len), .int (nI sc), .int (nI cur)])), (tp, .inl (cY 1, 60, .inl (m_nf (m_up tx len ch))))] H1 := hP
    have hD : va_D A [(pr, .inr (3, [.ref tp, .ref sp, .int (nI len), .int (nI sc), .int (nI cur)])), (tp, .inl (cY 1, 60, .inl (m_nf (m_up tx len ch))))] := hD
    refine lv_aload_n hx hb dX3_append_19 rfl (lv_at hl 0 rfl) ?_
    refine lv_dup hx hb dX3_append_20 rfl ?_
    refine va_get (D := D) (ci := 3) (v := .int (nI len)) (C := RX3) (T := TX3) (N := 5) hx hb hts hw1 hown hK hP 0 rfl rfl 2 (by decide) hw0 (fun _ h9 => h9) rfl dX3_append_21 ?_
    refine lv_iconst (v := nI 1) hx hb dX3_append_24 (by decide) ?_
    refine lv_iadd hx hb dX3_append_25 ?_
    refine lv_topi (nm_r (nI_add _ _) ?_)
    refine va_put (D := D) (ci := 3) (v := .int (nI (len + 1))) (ty := .int) (C := RX3) (T := TX3) (N := 5) hx hb hts hw1 tyX3 tyX3_ok nmX3 hown hK hP hD hS 0 rfl rfl 2 (by decide) hw0 (fun _ h9 => h9) rfl (by decide +kernel) rfl rfl (Nat.le_of_ble_eq_true rfl) dX3_append_26 (fun H2 locs hP hD hS => ?_)
    have hP : va_P D vwCl [(pr, .inr (3, [.ref tp, .ref sp, .int (nI (len + 1)), .int (nI sc), .int (nI cur)])), (tp, .inl (cY 1, 60, .inl (m_nf (m_up tx len ch))))] H2 := hP
    have hD : va_D A [(pr, .inr (3, [.ref tp, .ref sp, .int (nI (len + 1)), .int (nI sc), .int (nI cur)])), (tp, .inl (cY 1, 60, .inl (m_nf (m_up tx len ch))))] := hD
    refine lv_aload_n hx hb dX3_append_29 rfl (lv_at hl 0 rfl) ?_
    refine va_get (D := D) (ci := 3) (v := .int (nI (len + 1))) (C := RX3) (T := TX3) (N := 5) hx hb hts hw1 hown hK hP 0 rfl rfl 2 (by decide) hw0 (fun _ h9 => h9) rfl dX3_append_30 ?_
    subst hQ
    exact m_iret C0 hS dX3_append_33 (u := ()) hP (by first | trivial | rfl | omega)
set_option maxHeartbeats 4000000 in
set_option maxRecDepth 100000 in
theorem c_X3_empty (l : Launch) (D : va_G) (cY : Nat → ClassId) (pr tp sp len sc cur : Nat) (tx : Nat → Nat) (hlen : len ≤ 60) (htx : ∀ j, tx j < 65536) : m_Mi l yX3_empty wsX3_empty 0 0 D cY [.ref pr] [(pr, .inr (3, [.ref tp, .ref sp, .int (nI len), .int (nI sc), .int (nI cur)])), (tp, .inl (cY 1, 60, .inl (m_nf tx)))] (fun (res : Int32) (u : Unit) => res = nI len) (fun (u : Unit) => [(pr, .inr (3, [.ref tp, .ref sp, .int (nI 0), .int (nI sc), .int (nI cur)])), (tp, .inl (cY 1, 60, .inl (m_nf tx)))]) := by
  refine m_enterI (cc := cX3_empty) (maxL := 2) (ret := (some .int)) (by decide +kernel) rfl (Nat.le_of_ble_eq_true rfl) ?_
  intro p e s m below meth c A ls C0 hP hD hl
  obtain ⟨hx, hb, hr, hml, hts, hown, hlocks, hK, hA⟩ := id C0
  generalize hQ : MQ below _ _ s 0 0 A = Q
  have hS : va_S A s.heap s.heap [] := va_S.rf
  have hl : lv_has ls 2 [(0, .ref pr)] := hl
  have hw0 := hts (.fieldLink RX3 22 "NimberField$Program" "length" "I") (by decide +kernel)
  have hw1 := (show ∀ w ∈ u_ws RX3 TX3 5, w ∈ wsX3_empty from by decide +kernel)
  refine lv_aload_n hx hb dX3_empty_0 rfl (lv_at hl 0 rfl) ?_
  refine va_get (D := D) (ci := 3) (v := .int (nI len)) (C := RX3) (T := TX3) (N := 5) hx hb hts hw1 hown hK hP 0 rfl rfl 2 (by decide) hw0 (fun _ h9 => h9) rfl dX3_empty_1 ?_
  refine lv_istore_n (lv' := [(1, .int (nI len)), (0, .ref pr)]) hx hb dX3_empty_4 rfl hl (by decide) rfl (fun ls hl => ?_)
  refine lv_aload_n hx hb dX3_empty_5 rfl (lv_at hl 1 rfl) ?_
  refine lv_iconst (v := nI 0) hx hb dX3_empty_6 (by decide) ?_
  refine va_put (D := D) (ci := 3) (v := .int (nI 0)) (ty := .int) (C := RX3) (T := TX3) (N := 5) hx hb hts hw1 tyX3 tyX3_ok nmX3 hown hK hP hD hS 0 rfl rfl 2 (by decide) hw0 (fun _ h9 => h9) rfl (by decide +kernel) rfl rfl (Nat.le_of_ble_eq_true rfl) dX3_empty_7 (fun H1 locs hP hD hS => ?_)
  have hP : va_P D vwCl [(pr, .inr (3, [.ref tp, .ref sp, .int (nI 0), .int (nI sc), .int (nI cur)])), (tp, .inl (cY 1, 60, .inl (m_nf tx)))] H1 := hP
  have hD : va_D A [(pr, .inr (3, [.ref tp, .ref sp, .int (nI 0), .int (nI sc), .int (nI cur)])), (tp, .inl (cY 1, 60, .inl (m_nf tx)))] := hD
  refine lv_iload_n hx hb dX3_empty_10 rfl (lv_at hl 0 rfl) ?_
  subst hQ
  exact m_iret C0 hS dX3_empty_11 (u := ()) hP (by first | trivial | rfl | omega)
set_option maxHeartbeats 4000000 in
set_option maxRecDepth 100000 in
theorem c_X3_current (l : Launch) (D : va_G) (cY : Nat → ClassId) (pr tp sp len sc cur : Nat) (tx : Nat → Nat) (hlen : len ≤ 60) (htx : ∀ j, tx j < 65536) (hcur : cur ≤ len) : m_Mi l yX3_current wsX3_current 0 0 D cY [.ref pr] [(pr, .inr (3, [.ref tp, .ref sp, .int (nI len), .int (nI sc), .int (nI cur)])), (tp, .inl (cY 1, 60, .inl (m_nf tx)))] (fun (res : Int32) (u : Unit) => res = nI (p_at tx len cur)) (fun (u : Unit) => [(pr, .inr (3, [.ref tp, .ref sp, .int (nI len), .int (nI sc), .int (nI cur)])), (tp, .inl (cY 1, 60, .inl (m_nf tx)))]) := by
  refine m_enterI (cc := cX3_current) (maxL := 1) (ret := (some .char)) (by decide +kernel) rfl (Nat.le_of_ble_eq_true rfl) ?_
  intro p e s m below meth c A ls C0 hP hD hl
  obtain ⟨hx, hb, hr, hml, hts, hown, hlocks, hK, hA⟩ := id C0
  generalize hQ : MQ below _ _ s 0 0 A = Q
  have hS : va_S A s.heap s.heap [] := va_S.rf
  have hl : lv_has ls 1 [(0, .ref pr)] := hl
  have hw0 := hts (.fieldLink RX3 26 "NimberField$Program" "cursor" "I") (by decide +kernel)
  have hw1 := (show ∀ w ∈ u_ws RX3 TX3 5, w ∈ wsX3_current from by decide +kernel)
  have hw2 := hts (.fieldLink RX3 22 "NimberField$Program" "length" "I") (by decide +kernel)
  have hw3 := hts (.fieldLink RX3 9 "NimberField$Program" "text" "[C") (by decide +kernel)
  refine lv_aload_n hx hb dX3_current_0 rfl (lv_at hl 0 rfl) ?_
  refine va_get (D := D) (ci := 3) (v := .int (nI cur)) (C := RX3) (T := TX3) (N := 5) hx hb hts hw1 hown hK hP 0 rfl rfl 4 (by decide) hw0 (fun _ h9 => h9) rfl dX3_current_1 ?_
  refine lv_if_lt (tgt := 39) hx hb dX3_current_4 (by decide) (fun c4 => ?_) (fun c4 => ?_)
  · have c4 : cur < 0 := (nI_ltI (a := cur) (b := 0) (by first | omega | exact Nat.lt_of_le_of_lt Nat.and_le_right (by decide) | exact Nat.lt_trans (nm_lt _ _) (by decide) | exact Nat.lt_trans (np_lt _ _) (by decide) | exact Nat.lt_trans (p_at_lt htx) (by decide)) (by first | omega | exact Nat.lt_of_le_of_lt Nat.and_le_right (by decide) | exact Nat.lt_trans (nm_lt _ _) (by decide) | exact Nat.lt_trans (np_lt _ _) (by decide) | exact Nat.lt_trans (p_at_lt htx) (by decide))).mp c4
    exfalso; omega
  · have c4 : ¬ (cur < 0) := fun q => c4 ((nI_ltI (a := cur) (b := 0) (by first | omega | exact Nat.lt_of_le_of_lt Nat.and_le_right (by decide) | exact Nat.lt_trans (nm_lt _ _) (by decide) | exact Nat.lt_trans (np_lt _ _) (by decide) | exact Nat.lt_trans (p_at_lt htx) (by decide)) (by first | omega | exact Nat.lt_of_le_of_lt Nat.and_le_right (by decide) | exact Nat.lt_trans (nm_lt _ _) (by decide) | exact Nat.lt_trans (np_lt _ _) (by decide) | exact Nat.lt_trans (p_at_lt htx) (by decide))).mpr q)
    refine lv_aload_n hx hb dX3_current_7 rfl (lv_at hl 0 rfl) ?_
    refine va_get (D := D) (ci := 3) (v := .int (nI cur)) (C := RX3) (T := TX3) (N := 5) hx hb hts hw1 hown hK hP 0 rfl rfl 4 (by decide) hw0 (fun _ h9 => h9) rfl dX3_current_8 ?_
    refine lv_aload_n hx hb dX3_current_11 rfl (lv_at hl 0 rfl) ?_
    refine va_get (D := D) (ci := 3) (v := .int (nI len)) (C := RX3) (T := TX3) (N := 5) hx hb hts hw1 hown hK hP 0 rfl rfl 2 (by decide) hw2 (fun _ h9 => h9) rfl dX3_current_12 ?_
    refine lv_icmp_ge (tgt := 39) hx hb dX3_current_15 (by decide) (fun c15 => ?_) (fun c15 => ?_)
    · have c15 : len ≤ cur := (nI_leI (a := len) (b := cur) (by first | omega | exact Nat.lt_of_le_of_lt Nat.and_le_right (by decide) | exact Nat.lt_trans (nm_lt _ _) (by decide) | exact Nat.lt_trans (np_lt _ _) (by decide) | exact Nat.lt_trans (p_at_lt htx) (by decide)) (by first | omega | exact Nat.lt_of_le_of_lt Nat.and_le_right (by decide) | exact Nat.lt_trans (nm_lt _ _) (by decide) | exact Nat.lt_trans (np_lt _ _) (by decide) | exact Nat.lt_trans (p_at_lt htx) (by decide))).mp c15
      refine lv_iconst (v := nI 0) hx hb dX3_current_39 (by decide) ?_
      subst hQ
      exact m_zret C0 (by first | exact (pk_charN (htx _)).1 | decide) hS dX3_current_40 (u := ()) hP (by rw [p_at]; first | rw [if_pos (by omega)] | rw [if_neg (by omega)])
    · have c15 : ¬ (len ≤ cur) := fun q => c15 ((nI_leI (a := len) (b := cur) (by first | omega | exact Nat.lt_of_le_of_lt Nat.and_le_right (by decide) | exact Nat.lt_trans (nm_lt _ _) (by decide) | exact Nat.lt_trans (np_lt _ _) (by decide) | exact Nat.lt_trans (p_at_lt htx) (by decide)) (by first | omega | exact Nat.lt_of_le_of_lt Nat.and_le_right (by decide) | exact Nat.lt_trans (nm_lt _ _) (by decide) | exact Nat.lt_trans (np_lt _ _) (by decide) | exact Nat.lt_trans (p_at_lt htx) (by decide))).mpr q)
      refine lv_aload_n hx hb dX3_current_18 rfl (lv_at hl 0 rfl) ?_
      refine va_get (D := D) (ci := 3) (v := .int (nI cur)) (C := RX3) (T := TX3) (N := 5) hx hb hts hw1 hown hK hP 0 rfl rfl 4 (by decide) hw0 (fun _ h9 => h9) rfl dX3_current_19 ?_
      refine lv_bipush (v := nI 60) hx hb dX3_current_22 (by decide) ?_
      refine lv_icmp_ge (tgt := 39) hx hb dX3_current_24 (by decide) (fun c24 => ?_) (fun c24 => ?_)
      · have c24 : 60 ≤ cur := (nI_leI (a := 60) (b := cur) (by first | omega | exact Nat.lt_of_le_of_lt Nat.and_le_right (by decide) | exact Nat.lt_trans (nm_lt _ _) (by decide) | exact Nat.lt_trans (np_lt _ _) (by decide) | exact Nat.lt_trans (p_at_lt htx) (by decide)) (by first | omega | exact Nat.lt_of_le_of_lt Nat.and_le_right (by decide) | exact Nat.lt_trans (nm_lt _ _) (by decide) | exact Nat.lt_trans (np_lt _ _) (by decide) | exact Nat.lt_trans (p_at_lt htx) (by decide))).mp c24
        exfalso; omega
      · have c24 : ¬ (60 ≤ cur) := fun q => c24 ((nI_leI (a := 60) (b := cur) (by first | omega | exact Nat.lt_of_le_of_lt Nat.and_le_right (by decide) | exact Nat.lt_trans (nm_lt _ _) (by decide) | exact Nat.lt_trans (np_lt _ _) (by decide) | exact Nat.lt_trans (p_at_lt htx) (by decide)) (by first | omega | exact Nat.lt_of_le_of_lt Nat.and_le_right (by decide) | exact Nat.lt_trans (nm_lt _ _) (by decide) | exact Nat.lt_trans (np_lt _ _) (by decide) | exact Nat.lt_trans (p_at_lt htx) (by decide))).mpr q)
        refine lv_aload_n hx hb dX3_current_27 rfl (lv_at hl 0 rfl) ?_
        refine va_get (D := D) (ci := 3) (v := .ref tp) (C := RX3) (T := TX3) (N := 5) hx hb hts hw1 hown hK hP 0 rfl rfl 0 (by decide) hw3 (fun _ h9 => h9) rfl dX3_current_28 ?_
        refine lv_aload_n hx hb dX3_current_31 rfl (lv_at hl 0 rfl) ?_
        refine va_get (D := D) (ci := 3) (v := .int (nI cur)) (C := RX3) (T := TX3) (N := 5) hx hb hts hw1 hown hK hP 0 rfl rfl 4 (by decide) hw0 (fun _ h9 => h9) rfl dX3_current_32 ?_
        refine va_cald hx hb hK hP 1 1 rfl rfl (m_in (n := cur) (by first | assumption | omega) (by decide)) dX3_current_35 ?_
        refine lv_topi (nm_r (m_ldn (g := tx) (n := cur) (by omega)) ?_)
        refine lv_goto (tgt := 40) hx hb dX3_current_36 (by decide) ?_
        subst hQ
        exact m_zret C0 (by first | exact (pk_charN (htx _)).1 | decide) hS dX3_current_40 (u := ()) hP (by rw [p_at]; first | rw [if_pos (by omega)] | rw [if_neg (by omega)])
set_option maxHeartbeats 4000000 in
set_option maxRecDepth 100000 in
theorem c_X3_digitOf (l : Launch) (D : va_G) (cY : Nat → ClassId) (ch : Nat) (hch : ch < 65536) : m_Mi l yX3_digitOf wsX3_digitOf 0 0 D cY [.int (nI ch)] [] (fun (res : Int32) (u : Unit) => res = p_dg ch) (fun (u : Unit) => []) := by
  refine m_enterI (cc := cX3_digitOf) (maxL := 1) (ret := (some .int)) (by decide +kernel) rfl (Nat.le_of_ble_eq_true rfl) ?_
  intro p e s m below meth c A ls C0 hP hD hl
  obtain ⟨hx, hb, hr, hml, hts, hown, hlocks, hK, hA⟩ := id C0
  generalize hQ : MQ below _ _ s 0 0 A = Q
  have hS : va_S A s.heap s.heap [] := va_S.rf
  have hl : lv_has ls 1 [(0, .int (nI ch))] := hl
  refine lv_iload_n hx hb dX3_digitOf_0 rfl (lv_at hl 0 rfl) ?_
  refine lv_bipush (v := nI 48) hx hb dX3_digitOf_1 (by decide) ?_
  refine lv_icmp_lt (tgt := 12) hx hb dX3_digitOf_3 (by decide) (fun c3 => ?_) (fun c3 => ?_)
  · have c3 : ch < 48 := (nI_ltI (a := ch) (b := 48) (by first | omega | exact Nat.lt_of_le_of_lt Nat.and_le_right (by decide) | exact Nat.lt_trans (nm_lt _ _) (by decide) | exact Nat.lt_trans (np_lt _ _) (by decide) | exact Nat.lt_trans (p_at_lt htx) (by decide)) (by first | omega | exact Nat.lt_of_le_of_lt Nat.and_le_right (by decide) | exact Nat.lt_trans (nm_lt _ _) (by decide) | exact Nat.lt_trans (np_lt _ _) (by decide) | exact Nat.lt_trans (p_at_lt htx) (by decide))).mp c3
    refine lv_iconst (v := (-1)) hx hb dX3_digitOf_12 (by decide) ?_
    refine lv_goto (tgt := 20) hx hb dX3_digitOf_13 (by decide) ?_
    subst hQ
    exact m_iret C0 hS dX3_digitOf_20 (u := ()) hP (by rw [p_dg]; first | rw [if_pos (by omega)] | rw [if_neg (by omega)])
  · have c3 : ¬ (ch < 48) := fun q => c3 ((nI_ltI (a := ch) (b := 48) (by first | omega | exact Nat.lt_of_le_of_lt Nat.and_le_right (by decide) | exact Nat.lt_trans (nm_lt _ _) (by decide) | exact Nat.lt_trans (np_lt _ _) (by decide) | exact Nat.lt_trans (p_at_lt htx) (by decide)) (by first | omega | exact Nat.lt_of_le_of_lt Nat.and_le_right (by decide) | exact Nat.lt_trans (nm_lt _ _) (by decide) | exact Nat.lt_trans (np_lt _ _) (by decide) | exact Nat.lt_trans (p_at_lt htx) (by decide))).mpr q)
    refine lv_iload_n hx hb dX3_digitOf_6 rfl (lv_at hl 0 rfl) ?_
    refine lv_bipush (v := nI 57) hx hb dX3_digitOf_7 (by decide) ?_
    refine lv_icmp_le (tgt := 16) hx hb dX3_digitOf_9 (by decide) (fun c9 => ?_) (fun c9 => ?_)
    · have c9 : ch ≤ 57 := (nI_leI (a := ch) (b := 57) (by first | omega | exact Nat.lt_of_le_of_lt Nat.and_le_right (by decide) | exact Nat.lt_trans (nm_lt _ _) (by decide) | exact Nat.lt_trans (np_lt _ _) (by decide) | exact Nat.lt_trans (p_at_lt htx) (by decide)) (by first | omega | exact Nat.lt_of_le_of_lt Nat.and_le_right (by decide) | exact Nat.lt_trans (nm_lt _ _) (by decide) | exact Nat.lt_trans (np_lt _ _) (by decide) | exact Nat.lt_trans (p_at_lt htx) (by decide))).mp c9
      refine lv_iload_n hx hb dX3_digitOf_16 rfl (lv_at hl 0 rfl) ?_
      refine lv_bipush (v := nI 48) hx hb dX3_digitOf_17 (by decide) ?_
      refine lv_isub hx hb dX3_digitOf_19 ?_
      refine lv_topi (nm_r (pk_sub (by omega)) ?_)
      subst hQ
      exact m_iret C0 hS dX3_digitOf_20 (u := ()) hP (by rw [p_dg]; first | rw [if_pos (by omega)] | rw [if_neg (by omega)])
    · have c9 : ¬ (ch ≤ 57) := fun q => c9 ((nI_leI (a := ch) (b := 57) (by first | omega | exact Nat.lt_of_le_of_lt Nat.and_le_right (by decide) | exact Nat.lt_trans (nm_lt _ _) (by decide) | exact Nat.lt_trans (np_lt _ _) (by decide) | exact Nat.lt_trans (p_at_lt htx) (by decide)) (by first | omega | exact Nat.lt_of_le_of_lt Nat.and_le_right (by decide) | exact Nat.lt_trans (nm_lt _ _) (by decide) | exact Nat.lt_trans (np_lt _ _) (by decide) | exact Nat.lt_trans (p_at_lt htx) (by decide))).mpr q)
      refine lv_iconst (v := (-1)) hx hb dX3_digitOf_12 (by decide) ?_
      refine lv_goto (tgt := 20) hx hb dX3_digitOf_13 (by decide) ?_
      subst hQ
      exact m_iret C0 hS dX3_digitOf_20 (u := ()) hP (by rw [p_dg]; first | rw [if_pos (by omega)] | rw [if_neg (by omega)])
set_option maxHeartbeats 4000000 in
set_option maxRecDepth 100000 in
theorem c_X3_skip (l : Launch) (D : va_G) (cY : Nat → ClassId) (pr tp sp len sc cur : Nat) (tx : Nat → Nat) (ch : Nat) (hlen : len ≤ 60) (htx : ∀ j, tx j < 65536) (hcur : cur ≤ len) (hc0 : 0 < ch) (hch : ch < 65536) : m_Mi l yX3_skip wsX3_skip 1 20 D cY [.ref pr, .int (nI ch)] [(pr, .inr (3, [.ref tp, .ref sp, .int (nI len), .int (nI sc), .int (nI cur)])), (tp, .inl (cY 1, 60, .inl (m_nf tx)))] (fun (res : Int32) (u : Nat) => (res = nI 1 ∧ p_at tx len cur = ch ∧ u = cur + 1 ∧ cur < len) ∨ (res = nI 0 ∧ ¬ p_at tx len cur = ch ∧ u = cur)) (fun (u : Nat) => [(pr, .inr (3, [.ref tp, .ref sp, .int (nI len), .int (nI sc), .int (nI u)])), (tp, .inl (cY 1, 60, .inl (m_nf tx)))]) := by
  refine m_enterI (cc := cX3_skip) (maxL := 2) (ret := (some .boolean)) (by decide +kernel) rfl (Nat.le_of_ble_eq_true rfl) ?_
  intro p e s m below meth c A ls C0 hP hD hl
  obtain ⟨hx, hb, hr, hml, hts, hown, hlocks, hK, hA⟩ := id C0
  generalize hQ : MQ below _ _ s 0 0 A = Q
  have hS : va_S A s.heap s.heap [] := va_S.rf
  have hl : lv_has ls 2 [(0, .ref pr), (1, .int (nI ch))] := hl
  have hw0 := hts (.fieldLink RX3 26 "NimberField$Program" "cursor" "I") (by decide +kernel)
  have hw1 := (show ∀ w ∈ u_ws RX3 TX3 5, w ∈ wsX3_skip from by decide +kernel)
  refine lv_aload_n hx hb dX3_skip_0 rfl (lv_at hl 0 rfl) ?_
  refine m_callVi (As := []) (rest := []) C0 hl hP hD hS (c_X3_current l D cY pr tp sp len sc cur tx (by first | assumption | omega | exact nm_lt _ _ | exact np_lt _ _ | decide) (by first | assumption | omega | exact nm_lt _ _ | exact np_lt _ _ | decide) (by first | assumption | omega | exact nm_lt _ _ | exact np_lt _ _ | decide)) (cwV 0 hts gX3_skip_X3_current rfl rfl rfl (by decide +kernel) ⟨Nat.le_of_ble_eq_true rfl, Nat.le_of_ble_eq_true rfl⟩) dX3_skip_1 [0, 1] rfl rfl 0 rfl rfl rfl rfl (Nat.le_of_ble_eq_true rfl) (Nat.zero_le _) (Nat.zero_le _) (fun _ => rfl) (fun r2 u H1 locs hw hP hD hS => ?_)
  try dsimp only at hw
  obtain rfl := hw
  have hP : va_P D vwCl [(pr, .inr (3, [.ref tp, .ref sp, .int (nI len), .int (nI sc), .int (nI cur)])), (tp, .inl (cY 1, 60, .inl (m_nf tx)))] H1 := hP
  have hD : va_D A [(pr, .inr (3, [.ref tp, .ref sp, .int (nI len), .int (nI sc), .int (nI cur)])), (tp, .inl (cY 1, 60, .inl (m_nf tx)))] := hD
  refine lv_iload_n hx hb dX3_skip_4 rfl (lv_at hl 1 rfl) ?_
  refine lv_icmp_eq (tgt := 10) hx hb dX3_skip_5 (by decide) (fun c5 => ?_) (fun c5 => ?_)
  · have c5 : (p_at tx len cur) = ch := (nI_eq (a := (p_at tx len cur)) (b := ch) (by first | omega | exact Nat.lt_of_le_of_lt Nat.and_le_right (by decide) | exact Nat.lt_trans (nm_lt _ _) (by decide) | exact Nat.lt_trans (np_lt _ _) (by decide) | exact Nat.lt_trans (p_at_lt htx) (by decide)) (by first | omega | exact Nat.lt_of_le_of_lt Nat.and_le_right (by decide) | exact Nat.lt_trans (nm_lt _ _) (by decide) | exact Nat.lt_trans (np_lt _ _) (by decide) | exact Nat.lt_trans (p_at_lt htx) (by decide))).mp c5
    refine lv_aload_n hx hb dX3_skip_10 rfl (lv_at hl 0 rfl) ?_
    refine lv_dup hx hb dX3_skip_11 rfl ?_
    refine va_get (D := D) (ci := 3) (v := .int (nI cur)) (C := RX3) (T := TX3) (N := 5) hx hb hts hw1 hown hK hP 0 rfl rfl 4 (by decide) hw0 (fun _ h9 => h9) rfl dX3_skip_12 ?_
    refine lv_iconst (v := nI 1) hx hb dX3_skip_15 (by decide) ?_
    refine lv_iadd hx hb dX3_skip_16 ?_
    refine lv_topi (nm_r (nI_add _ _) ?_)
    refine va_put (D := D) (ci := 3) (v := .int (nI (cur + 1))) (ty := .int) (C := RX3) (T := TX3) (N := 5) hx hb hts hw1 tyX3 tyX3_ok nmX3 hown hK hP hD hS 0 rfl rfl 4 (by decide) hw0 (fun _ h9 => h9) rfl (by decide +kernel) rfl rfl (Nat.le_of_ble_eq_true rfl) dX3_skip_17 (fun H3 locs hP hD hS => ?_)
    have hP : va_P D vwCl [(pr, .inr (3, [.ref tp, .ref sp, .int (nI len), .int (nI sc), .int (nI (cur + 1))])), (tp, .inl (cY 1, 60, .inl (m_nf tx)))] H3 := hP
    have hD : va_D A [(pr, .inr (3, [.ref tp, .ref sp, .int (nI len), .int (nI sc), .int (nI (cur + 1))])), (tp, .inl (cY 1, 60, .inl (m_nf tx)))] := hD
    refine lv_iconst (v := nI 1) hx hb dX3_skip_20 (by decide) ?_
    subst hQ
    exact m_zret C0 (by decide) hS dX3_skip_21 (u := cur + 1) hP (Or.inl ⟨rfl, c5, rfl, p_at_in (tx := tx) (by omega)⟩)
  · have c5 : ¬ ((p_at tx len cur) = ch) := fun q => c5 ((nI_eq (a := (p_at tx len cur)) (b := ch) (by first | omega | exact Nat.lt_of_le_of_lt Nat.and_le_right (by decide) | exact Nat.lt_trans (nm_lt _ _) (by decide) | exact Nat.lt_trans (np_lt _ _) (by decide) | exact Nat.lt_trans (p_at_lt htx) (by decide)) (by first | omega | exact Nat.lt_of_le_of_lt Nat.and_le_right (by decide) | exact Nat.lt_trans (nm_lt _ _) (by decide) | exact Nat.lt_trans (np_lt _ _) (by decide) | exact Nat.lt_trans (p_at_lt htx) (by decide))).mpr q)
    refine lv_iconst (v := nI 0) hx hb dX3_skip_8 (by decide) ?_
    subst hQ
    exact m_zret C0 (by decide) hS dX3_skip_9 (u := cur) hP (Or.inr ⟨rfl, c5, rfl⟩)
set_option maxHeartbeats 4000000 in
set_option maxRecDepth 100000 in
theorem c_X3_readRegister (l : Launch) (D : va_G) (cY : Nat → ClassId) (pr tp sp len sc cur : Nat) (tx : Nat → Nat) (hlen : len ≤ 60) (htx : ∀ j, tx j < 65536) (hcur : cur ≤ len) : m_Mi l yX3_readRegister wsX3_readRegister 1 20 D cY [.ref pr] [(pr, .inr (3, [.ref tp, .ref sp, .int (nI len), .int (nI sc), .int (nI cur)])), (tp, .inl (cY 1, 60, .inl (m_nf tx)))] (fun (res : Int32) (u : Nat) => (res = -1 ∧ p_rg (p_at tx len cur) = none ∧ u = cur) ∨ (∃ x, res = nI x ∧ p_rg (p_at tx len cur) = some x ∧ x < 8 ∧ u = cur + 1 ∧ cur < len)) (fun (u : Nat) => [(pr, .inr (3, [.ref tp, .ref sp, .int (nI len), .int (nI sc), .int (nI u)])), (tp, .inl (cY 1, 60, .inl (m_nf tx)))]) := by
  refine m_enterI (cc := cX3_readRegister) (maxL := 2) (ret := (some .int)) (by decide +kernel) rfl (Nat.le_of_ble_eq_true rfl) ?_
  intro p e s m below meth c A ls C0 hP hD hl
  obtain ⟨hx, hb, hr, hml, hts, hown, hlocks, hK, hA⟩ := id C0
  generalize hQ : MQ below _ _ s 0 0 A = Q
  have hS : va_S A s.heap s.heap [] := va_S.rf
  have hl : lv_has ls 2 [(0, .ref pr)] := hl
  have hw0 := hts (.fieldLink RX3 26 "NimberField$Program" "cursor" "I") (by decide +kernel)
  have hw1 := (show ∀ w ∈ u_ws RX3 TX3 5, w ∈ wsX3_readRegister from by decide +kernel)
  have hpa := p_at_lt (tx := tx) (len := len) (k := cur) htx
  refine lv_aload_n hx hb dX3_readRegister_0 rfl (lv_at hl 0 rfl) ?_
  refine m_callVi (As := []) (rest := []) C0 hl hP hD hS (c_X3_current l D cY pr tp sp len sc cur tx (by first | assumption | omega | exact nm_lt _ _ | exact np_lt _ _ | decide) (by first | assumption | omega | exact nm_lt _ _ | exact np_lt _ _ | decide) (by first | assumption | omega | exact nm_lt _ _ | exact np_lt _ _ | decide)) (cwV 0 hts gX3_readRegister_X3_current rfl rfl rfl (by decide +kernel) ⟨Nat.le_of_ble_eq_true rfl, Nat.le_of_ble_eq_true rfl⟩) dX3_readRegister_1 [0, 1] rfl rfl 0 rfl rfl rfl rfl (Nat.le_of_ble_eq_true rfl) (Nat.zero_le _) (Nat.zero_le _) (fun _ => rfl) (fun r2 u H1 locs hw hP hD hS => ?_)
  try dsimp only at hw
  obtain rfl := hw
  have hP : va_P D vwCl [(pr, .inr (3, [.ref tp, .ref sp, .int (nI len), .int (nI sc), .int (nI cur)])), (tp, .inl (cY 1, 60, .inl (m_nf tx)))] H1 := hP
  have hD : va_D A [(pr, .inr (3, [.ref tp, .ref sp, .int (nI len), .int (nI sc), .int (nI cur)])), (tp, .inl (cY 1, 60, .inl (m_nf tx)))] := hD
  refine lv_bipush (v := nI 65) hx hb dX3_readRegister_4 (by decide) ?_
  rcases Nat.lt_or_ge (p_at tx len cur) 65 with hq | hq
  · skip
    refine lv_isub hx hb dX3_readRegister_6 ?_
    refine lv_topi (nm_r (rfl) ?_)
    refine lv_istore_n (lv' := [(1, .int (nI (p_at tx len cur) - nI 65)), (0, .ref pr)]) hx hb dX3_readRegister_7 rfl hl (by decide) rfl (fun ls hl => ?_)
    refine lv_iload_n hx hb dX3_readRegister_8 rfl (lv_at hl 0 rfl) ?_
    refine lv_if_lt (tgt := 18) hx hb dX3_readRegister_9 (by decide) (fun c9 => ?_) (fun c9 => ?_)
    · have c9 := c9
      refine lv_iconst (v := (-1)) hx hb dX3_readRegister_18 (by decide) ?_
      subst hQ
      exact m_iret C0 hS dX3_readRegister_19 (u := cur) hP (Or.inl ⟨rfl, by rw [p_rg, if_neg (by omega)], rfl⟩)
    · have c9 := c9
      exfalso; exact c9 (pk_sneg (by decide) hq)
  · skip
    refine lv_isub hx hb dX3_readRegister_6 ?_
    refine lv_topi (nm_r (pk_sub hq) ?_)
    refine lv_istore_n (lv' := [(1, .int (nI (p_at tx len cur - 65))), (0, .ref pr)]) hx hb dX3_readRegister_7 rfl hl (by decide) rfl (fun ls hl => ?_)
    refine lv_iload_n hx hb dX3_readRegister_8 rfl (lv_at hl 0 rfl) ?_
    refine lv_if_lt (tgt := 18) hx hb dX3_readRegister_9 (by decide) (fun c9 => ?_) (fun c9 => ?_)
    · have c9 : (p_at tx len cur - 65) < 0 := (nI_ltI (a := (p_at tx len cur - 65)) (b := 0) (by first | omega | exact Nat.lt_of_le_of_lt Nat.and_le_right (by decide) | exact Nat.lt_trans (nm_lt _ _) (by decide) | exact Nat.lt_trans (np_lt _ _) (by decide) | exact Nat.lt_trans (p_at_lt htx) (by decide)) (by first | omega | exact Nat.lt_of_le_of_lt Nat.and_le_right (by decide) | exact Nat.lt_trans (nm_lt _ _) (by decide) | exact Nat.lt_trans (np_lt _ _) (by decide) | exact Nat.lt_trans (p_at_lt htx) (by decide))).mp c9
      exfalso; omega
    · have c9 : ¬ ((p_at tx len cur - 65) < 0) := fun q => c9 ((nI_ltI (a := (p_at tx len cur - 65)) (b := 0) (by first | omega | exact Nat.lt_of_le_of_lt Nat.and_le_right (by decide) | exact Nat.lt_trans (nm_lt _ _) (by decide) | exact Nat.lt_trans (np_lt _ _) (by decide) | exact Nat.lt_trans (p_at_lt htx) (by decide)) (by first | omega | exact Nat.lt_of_le_of_lt Nat.and_le_right (by decide) | exact Nat.lt_trans (nm_lt _ _) (by decide) | exact Nat.lt_trans (np_lt _ _) (by decide) | exact Nat.lt_trans (p_at_lt htx) (by decide))).mpr q)
      refine lv_iload_n hx hb dX3_readRegister_12 rfl (lv_at hl 0 rfl) ?_
      refine lv_bipush (v := nI 8) hx hb dX3_readRegister_13 (by decide) ?_
      refine lv_icmp_lt (tgt := 20) hx hb dX3_readRegister_15 (by decide) (fun c15 => ?_) (fun c15 => ?_)
      · have c15 : (p_at tx len cur - 65) < 8 := (nI_ltI (a := (p_at tx len cur - 65)) (b := 8) (by first | omega | exact Nat.lt_of_le_of_lt Nat.and_le_right (by decide) | exact Nat.lt_trans (nm_lt _ _) (by decide) | exact Nat.lt_trans (np_lt _ _) (by decide) | exact Nat.lt_trans (p_at_lt htx) (by decide)) (by first | omega | exact Nat.lt_of_le_of_lt Nat.and_le_right (by decide) | exact Nat.lt_trans (nm_lt _ _) (by decide) | exact Nat.lt_trans (np_lt _ _) (by decide) | exact Nat.lt_trans (p_at_lt htx) (by decide))).mp c15
        refine lv_aload_n hx hb dX3_readRegister_20 rfl (lv_at hl 1 rfl) ?_
        refine lv_dup hx hb dX3_readRegister_21 rfl ?_
        refine va_get (D := D) (ci := 3) (v := .int (nI cur)) (C := RX3) (T := TX3) (N := 5) hx hb hts hw1 hown hK hP 0 rfl rfl 4 (by decide) hw0 (fun _ h9 => h9) rfl dX3_readRegister_22 ?_
        refine lv_iconst (v := nI 1) hx hb dX3_readRegister_25 (by decide) ?_
        refine lv_iadd hx hb dX3_readRegister_26 ?_
        refine lv_topi (nm_r (nI_add _ _) ?_)
        refine va_put (D := D) (ci := 3) (v := .int (nI (cur + 1))) (ty := .int) (C := RX3) (T := TX3) (N := 5) hx hb hts hw1 tyX3 tyX3_ok nmX3 hown hK hP hD hS 0 rfl rfl 4 (by decide) hw0 (fun _ h9 => h9) rfl (by decide +kernel) rfl rfl (Nat.le_of_ble_eq_true rfl) dX3_readRegister_27 (fun H3 locs hP hD hS => ?_)
        have hP : va_P D vwCl [(pr, .inr (3, [.ref tp, .ref sp, .int (nI len), .int (nI sc), .int (nI (cur + 1))])), (tp, .inl (cY 1, 60, .inl (m_nf tx)))] H3 := hP
        have hD : va_D A [(pr, .inr (3, [.ref tp, .ref sp, .int (nI len), .int (nI sc), .int (nI (cur + 1))])), (tp, .inl (cY 1, 60, .inl (m_nf tx)))] := hD
        refine lv_iload_n hx hb dX3_readRegister_30 rfl (lv_at hl 0 rfl) ?_
        subst hQ
        exact m_iret C0 hS dX3_readRegister_31 (u := cur + 1) hP (Or.inr ⟨_, rfl, by rw [p_rg, if_pos (by omega)], by omega, rfl, p_at_in (tx := tx) (by omega)⟩)
      · have c15 : ¬ ((p_at tx len cur - 65) < 8) := fun q => c15 ((nI_ltI (a := (p_at tx len cur - 65)) (b := 8) (by first | omega | exact Nat.lt_of_le_of_lt Nat.and_le_right (by decide) | exact Nat.lt_trans (nm_lt _ _) (by decide) | exact Nat.lt_trans (np_lt _ _) (by decide) | exact Nat.lt_trans (p_at_lt htx) (by decide)) (by first | omega | exact Nat.lt_of_le_of_lt Nat.and_le_right (by decide) | exact Nat.lt_trans (nm_lt _ _) (by decide) | exact Nat.lt_trans (np_lt _ _) (by decide) | exact Nat.lt_trans (p_at_lt htx) (by decide))).mpr q)
        refine lv_iconst (v := (-1)) hx hb dX3_readRegister_18 (by decide) ?_
        subst hQ
        exact m_iret C0 hS dX3_readRegister_19 (u := cur) hP (Or.inl ⟨rfl, by rw [p_rg, if_neg (by omega)], rfl⟩)
set_option maxHeartbeats 4000000 in
set_option maxRecDepth 100000 in
theorem c_X3_readNumber (l : Launch) (D : va_G) (cY : Nat → ClassId) (pr tp sp len sc cur : Nat) (tx : Nat → Nat) (hlen : len ≤ 60) (htx : ∀ j, tx j < 65536) (hcur : cur ≤ len) : m_Mi l yX3_readNumber wsX3_readNumber 1 20 D cY [.ref pr] [(pr, .inr (3, [.ref tp, .ref sp, .int (nI len), .int (nI sc), .int (nI cur)])), (tp, .inl (cY 1, 60, .inl (m_nf tx)))] (fun (res : Int32) (u : Nat) => (res = -1 ∧ p_num tx len cur = none ∧ u = cur) ∨ (∃ v, res = nI v ∧ v < 65536 ∧ p_num tx len cur = some (v, u) ∧ u ≤ len)) (fun (u : Nat) => [(pr, .inr (3, [.ref tp, .ref sp, .int (nI len), .int (nI sc), .int (nI u)])), (tp, .inl (cY 1, 60, .inl (m_nf tx)))]) := by
  refine m_enterI (cc := cX3_readNumber) (maxL := 3) (ret := (some .int)) (by decide +kernel) rfl (Nat.le_of_ble_eq_true rfl) ?_
  intro p e s m below meth c A ls C0 hP hD hl
  obtain ⟨hx, hb, hr, hml, hts, hown, hlocks, hK, hA⟩ := id C0
  generalize hQ : MQ below _ _ s 0 0 A = Q
  have hS : va_S A s.heap s.heap [] := va_S.rf
  have hl : lv_has ls 3 [(0, .ref pr)] := hl
  have hw0 := hts (.fieldLink RX3 26 "NimberField$Program" "cursor" "I") (by decide +kernel)
  have hw1 := (show ∀ w ∈ u_ws RX3 TX3 5, w ∈ wsX3_readNumber from by decide +kernel)
  have hw2 := hts (.fieldLink RX3 22 "NimberField$Program" "length" "I") (by decide +kernel)
  have hw3 := hts (.constant RX3 77 (65535)) (by decide +kernel)
  refine lv_aload_n hx hb dX3_readNumber_0 rfl (lv_at hl 0 rfl) ?_
  refine m_callVi (As := []) (rest := []) C0 hl hP hD hS (c_X3_current l D cY pr tp sp len sc cur tx (by first | assumption | omega | exact nm_lt _ _ | exact np_lt _ _ | decide) (by first | assumption | omega | exact nm_lt _ _ | exact np_lt _ _ | decide) (by first | assumption | omega | exact nm_lt _ _ | exact np_lt _ _ | decide)) (cwV 0 hts gX3_readNumber_X3_current rfl rfl rfl (by decide +kernel) ⟨Nat.le_of_ble_eq_true rfl, Nat.le_of_ble_eq_true rfl⟩) dX3_readNumber_1 [0, 1] rfl rfl 0 rfl rfl rfl rfl (Nat.le_of_ble_eq_true rfl) (Nat.zero_le _) (Nat.zero_le _) (fun _ => rfl) (fun r2 u H1 locs hw hP hD hS => ?_)
  try dsimp only at hw
  obtain rfl := hw
  have hP : va_P D vwCl [(pr, .inr (3, [.ref tp, .ref sp, .int (nI len), .int (nI sc), .int (nI cur)])), (tp, .inl (cY 1, 60, .inl (m_nf tx)))] H1 := hP
  have hD : va_D A [(pr, .inr (3, [.ref tp, .ref sp, .int (nI len), .int (nI sc), .int (nI cur)])), (tp, .inl (cY 1, 60, .inl (m_nf tx)))] := hD
  refine m_callSi (As := [.int (nI (p_at tx len cur))]) (rest := []) C0 hl hP hD hS (c_X3_digitOf l D cY (p_at tx len cur) (p_at_lt htx)) (va_cwS 1 hts gX3_readNumber_X3_digitOf rfl rfl rfl (by decide +kernel) ⟨Nat.le_of_ble_eq_true rfl, Nat.le_of_ble_eq_true rfl⟩) dX3_readNumber_4 [] rfl rfl rfl (Nat.le_of_ble_eq_true rfl) (Nat.zero_le _) (Nat.zero_le _) (fun _ => rfl) (fun r4 u H3 locs hw hP hD hS => ?_)
  try dsimp only at hw
  obtain rfl := hw
  have hP : va_P D vwCl [(pr, .inr (3, [.ref tp, .ref sp, .int (nI len), .int (nI sc), .int (nI cur)])), (tp, .inl (cY 1, 60, .inl (m_nf tx)))] H3 := hP
  have hD : va_D A [(pr, .inr (3, [.ref tp, .ref sp, .int (nI len), .int (nI sc), .int (nI cur)])), (tp, .inl (cY 1, 60, .inl (m_nf tx)))] := hD
  rcases Decidable.em (48 ≤ p_at tx len cur ∧ p_at tx len cur ≤ 57) with hq | hq
  · skip
    refine lv_topi (nm_r (p_dg_t hq) ?_)
    refine lv_istore_n (lv' := [(1, .int (nI (p_at tx len cur - 48))), (0, .ref pr)]) hx hb dX3_readNumber_7 rfl hl (by decide) rfl (fun ls hl => ?_)
    refine lv_iload_n hx hb dX3_readNumber_8 rfl (lv_at hl 0 rfl) ?_
    refine lv_iconst (v := (-1)) hx hb dX3_readNumber_9 (by decide) ?_
    refine lv_icmp_ne (tgt := 15) hx hb dX3_readNumber_10 (by decide) (fun c10 => ?_) (fun c10 => ?_)
    · have c10 := c10
      refine lv_aload_n hx hb dX3_readNumber_15 rfl (lv_at hl 1 rfl) ?_
      refine lv_dup hx hb dX3_readNumber_16 rfl ?_
      refine va_get (D := D) (ci := 3) (v := .int (nI cur)) (C := RX3) (T := TX3) (N := 5) hx hb hts hw1 hown hK hP 0 rfl rfl 4 (by decide) hw0 (fun _ h9 => h9) rfl dX3_readNumber_17 ?_
      refine lv_iconst (v := nI 1) hx hb dX3_readNumber_20 (by decide) ?_
      refine lv_iadd hx hb dX3_readNumber_21 ?_
      refine lv_topi (nm_r (nI_add _ _) ?_)
      refine va_put (D := D) (ci := 3) (v := .int (nI (cur + 1))) (ty := .int) (C := RX3) (T := TX3) (N := 5) hx hb hts hw1 tyX3 tyX3_ok nmX3 hown hK hP hD hS 0 rfl rfl 4 (by decide) hw0 (fun _ h9 => h9) rfl (by decide +kernel) rfl rfl (Nat.le_of_ble_eq_true rfl) dX3_readNumber_22 (fun H5 locs hP hD hS => ?_)
      have hP : va_P D vwCl [(pr, .inr (3, [.ref tp, .ref sp, .int (nI len), .int (nI sc), .int (nI (cur + 1))])), (tp, .inl (cY 1, 60, .inl (m_nf tx)))] H5 := hP
      have hD : va_D A [(pr, .inr (3, [.ref tp, .ref sp, .int (nI len), .int (nI sc), .int (nI (cur + 1))])), (tp, .inl (cY 1, 60, .inl (m_nf tx)))] := hD
      have lp25_6 : ∀ (nn : Nat) (v : Nat) (k : Nat) (H : Heap) (locs : List Loc) (ls : Array Slot), (v < 65536) → (k ≤ len) → (p_nl tx len (len - k) v k = p_nl tx len (len - (cur + 1)) (p_at tx len cur - 48) (cur + 1)) → len - k < nn → va_P D vwCl [(pr, .inr (3, [.ref tp, .ref sp, .int (nI len), .int (nI sc), .int (nI k)])), (tp, .inl (cY 1, 60, .inl (m_nf tx)))] H → va_D A [(pr, .inr (3, [.ref tp, .ref sp, .int (nI len), .int (nI sc), .int (nI k)])), (tp, .inl (cY 1, 60, .inl (m_nf tx)))] → va_S A s.heap H locs → lv_has ls 3 [(0, .ref pr), (1, .int (nI v))] → W p l e { frames := 1, cells := 0, slots := 0, locals := 20 } s m ([.ref pr] : List Value).toArray below meth c H locs 0 0 Q (F0 m 25 ls []) := by
        intro nn
        induction nn with
        | zero => intros; omega
        | succ nn ih25 =>
          intro v k H locs ls hv hk heq hmz hP hD hS hl
          refine lv_aload_n hx hb dX3_readNumber_25 rfl (lv_at hl 0 rfl) ?_
          refine va_get (D := D) (ci := 3) (v := .int (nI k)) (C := RX3) (T := TX3) (N := 5) hx hb hts hw1 hown hK hP 0 rfl rfl 4 (by decide) hw0 (fun _ h9 => h9) rfl dX3_readNumber_26 ?_
          refine lv_aload_n hx hb dX3_readNumber_29 rfl (lv_at hl 0 rfl) ?_
          refine va_get (D := D) (ci := 3) (v := .int (nI len)) (C := RX3) (T := TX3) (N := 5) hx hb hts hw1 hown hK hP 0 rfl rfl 2 (by decide) hw2 (fun _ h9 => h9) rfl dX3_readNumber_30 ?_
          refine lv_icmp_ge (tgt := 86) hx hb dX3_readNumber_33 (by decide) (fun c33 => ?_) (fun c33 => ?_)
          · have c33 : len ≤ k := (nI_leI (a := len) (b := k) (by first | omega | exact Nat.lt_of_le_of_lt Nat.and_le_right (by decide) | exact Nat.lt_trans (nm_lt _ _) (by decide) | exact Nat.lt_trans (np_lt _ _) (by decide) | exact Nat.lt_trans (p_at_lt htx) (by decide)) (by first | omega | exact Nat.lt_of_le_of_lt Nat.and_le_right (by decide) | exact Nat.lt_trans (nm_lt _ _) (by decide) | exact Nat.lt_trans (np_lt _ _) (by decide) | exact Nat.lt_trans (p_at_lt htx) (by decide))).mp c33
            refine lv_iload_n hx hb dX3_readNumber_86 rfl (lv_at hl 1 rfl) ?_
            subst hQ
            exact m_iret C0 hS dX3_readNumber_87 (u := k) hP (Or.inr ⟨v, rfl, hv, by rw [p_num, if_pos hq, ← heq]; first | rw [p_nl_stop tx len (by omega)] | (rw [show len - k = 0 by omega]; rfl), hk⟩)
          · have c33 : ¬ (len ≤ k) := fun q => c33 ((nI_leI (a := len) (b := k) (by first | omega | exact Nat.lt_of_le_of_lt Nat.and_le_right (by decide) | exact Nat.lt_trans (nm_lt _ _) (by decide) | exact Nat.lt_trans (np_lt _ _) (by decide) | exact Nat.lt_trans (p_at_lt htx) (by decide)) (by first | omega | exact Nat.lt_of_le_of_lt Nat.and_le_right (by decide) | exact Nat.lt_trans (nm_lt _ _) (by decide) | exact Nat.lt_trans (np_lt _ _) (by decide) | exact Nat.lt_trans (p_at_lt htx) (by decide))).mpr q)
            refine lv_iload_n hx hb dX3_readNumber_36 rfl (lv_at hl 1 rfl) ?_
            refine lv_if_le (tgt := 86) hx hb dX3_readNumber_37 (by decide) (fun c37 => ?_) (fun c37 => ?_)
            · have c37 : v ≤ 0 := (nI_leI (a := v) (b := 0) (by first | omega | exact Nat.lt_of_le_of_lt Nat.and_le_right (by decide) | exact Nat.lt_trans (nm_lt _ _) (by decide) | exact Nat.lt_trans (np_lt _ _) (by decide) | exact Nat.lt_trans (p_at_lt htx) (by decide)) (by first | omega | exact Nat.lt_of_le_of_lt Nat.and_le_right (by decide) | exact Nat.lt_trans (nm_lt _ _) (by decide) | exact Nat.lt_trans (np_lt _ _) (by decide) | exact Nat.lt_trans (p_at_lt htx) (by decide))).mp c37
              refine lv_iload_n hx hb dX3_readNumber_86 rfl (lv_at hl 1 rfl) ?_
              subst hQ
              exact m_iret C0 hS dX3_readNumber_87 (u := k) hP (Or.inr ⟨v, rfl, hv, by rw [p_num, if_pos hq, ← heq]; first | rw [p_nl_stop tx len (by omega)] | (rw [show len - k = 0 by omega]; rfl), hk⟩)
            · have c37 : ¬ (v ≤ 0) := fun q => c37 ((nI_leI (a := v) (b := 0) (by first | omega | exact Nat.lt_of_le_of_lt Nat.and_le_right (by decide) | exact Nat.lt_trans (nm_lt _ _) (by decide) | exact Nat.lt_trans (np_lt _ _) (by decide) | exact Nat.lt_trans (p_at_lt htx) (by decide)) (by first | omega | exact Nat.lt_of_le_of_lt Nat.and_le_right (by decide) | exact Nat.lt_trans (nm_lt _ _) (by decide) | exact Nat.lt_trans (np_lt _ _) (by decide) | exact Nat.lt_trans (p_at_lt htx) (by decide))).mpr q)
              refine lv_aload_n hx hb dX3_readNumber_40 rfl (lv_at hl 0 rfl) ?_
              refine m_callVi (As := []) (rest := []) C0 hl hP hD hS (c_X3_current l D cY pr tp sp len sc k tx (by first | assumption | omega | exact nm_lt _ _ | exact np_lt _ _ | decide) (by first | assumption | omega | exact nm_lt _ _ | exact np_lt _ _ | decide) (by first | assumption | omega | exact nm_lt _ _ | exact np_lt _ _ | decide)) (cwV 0 hts gX3_readNumber_X3_current rfl rfl rfl (by decide +kernel) ⟨Nat.le_of_ble_eq_true rfl, Nat.le_of_ble_eq_true rfl⟩) dX3_readNumber_41 [0, 1] rfl rfl 0 rfl rfl rfl rfl (Nat.le_of_ble_eq_true rfl) (Nat.zero_le _) (Nat.zero_le _) (fun _ => rfl) (fun r8 u H7 locs hw hP hD hS => ?_)
              try dsimp only at hw
              obtain rfl := hw
              have hP : va_P D vwCl [(pr, .inr (3, [.ref tp, .ref sp, .int (nI len), .int (nI sc), .int (nI k)])), (tp, .inl (cY 1, 60, .inl (m_nf tx)))] H7 := hP
              have hD : va_D A [(pr, .inr (3, [.ref tp, .ref sp, .int (nI len), .int (nI sc), .int (nI k)])), (tp, .inl (cY 1, 60, .inl (m_nf tx)))] := hD
              refine m_callSi (As := [.int (nI (p_at tx len k))]) (rest := []) C0 hl hP hD hS (c_X3_digitOf l D cY (p_at tx len k) (p_at_lt htx)) (va_cwS 1 hts gX3_readNumber_X3_digitOf rfl rfl rfl (by decide +kernel) ⟨Nat.le_of_ble_eq_true rfl, Nat.le_of_ble_eq_true rfl⟩) dX3_readNumber_44 [] rfl rfl rfl (Nat.le_of_ble_eq_true rfl) (Nat.zero_le _) (Nat.zero_le _) (fun _ => rfl) (fun r10 u H9 locs hw hP hD hS => ?_)
              try dsimp only at hw
              obtain rfl := hw
              have hP : va_P D vwCl [(pr, .inr (3, [.ref tp, .ref sp, .int (nI len), .int (nI sc), .int (nI k)])), (tp, .inl (cY 1, 60, .inl (m_nf tx)))] H9 := hP
              have hD : va_D A [(pr, .inr (3, [.ref tp, .ref sp, .int (nI len), .int (nI sc), .int (nI k)])), (tp, .inl (cY 1, 60, .inl (m_nf tx)))] := hD
              rcases Decidable.em (48 ≤ p_at tx len k ∧ p_at tx len k ≤ 57) with hq2 | hq2
              · skip
                refine lv_topi (nm_r (p_dg_t hq2) ?_)
                refine lv_istore_n (lv' := [(2, .int (nI (p_at tx len k - 48))), (0, .ref pr), (1, .int (nI v))]) hx hb dX3_readNumber_47 rfl hl (by decide) rfl (fun ls hl => ?_)
                refine lv_iload_n hx hb dX3_readNumber_48 rfl (lv_at hl 0 rfl) ?_
                refine lv_iconst (v := (-1)) hx hb dX3_readNumber_49 (by decide) ?_
                refine lv_icmp_eq (tgt := 64) hx hb dX3_readNumber_50 (by decide) (fun c50 => ?_) (fun c50 => ?_)
                · have c50 := c50
                  exfalso; exact n_nem1 (by omega) c50
                · have c50 := c50
                  refine lv_bipush (v := nI 10) hx hb dX3_readNumber_53 (by decide) ?_
                  refine lv_iload_n hx hb dX3_readNumber_55 rfl (lv_at hl 2 rfl) ?_
                  refine lv_imul hx hb dX3_readNumber_56 ?_
                  refine lv_topi (nm_r (pk_mul _ _) ?_)
                  refine lv_iload_n hx hb dX3_readNumber_57 rfl (lv_at hl 0 rfl) ?_
                  refine lv_iadd hx hb dX3_readNumber_58 ?_
                  refine lv_topi (nm_r (nI_add _ _) ?_)
                  refine lv_ldc hx hb hown hw3 dX3_readNumber_59 ?_
                  refine lv_topi (nm_r (show ((65535 : Int32)) = nI 65535 from by decide) ?_)
                  refine lv_icmp_le (tgt := 66) hx hb dX3_readNumber_61 (by decide) (fun c61 => ?_) (fun c61 => ?_)
                  · have c61 : ((10 * v) + (p_at tx len k - 48)) ≤ 65535 := (nI_leI (a := ((10 * v) + (p_at tx len k - 48))) (b := 65535) (by first | omega | exact Nat.lt_of_le_of_lt Nat.and_le_right (by decide) | exact Nat.lt_trans (nm_lt _ _) (by decide) | exact Nat.lt_trans (np_lt _ _) (by decide) | exact Nat.lt_trans (p_at_lt htx) (by decide)) (by first | omega | exact Nat.lt_of_le_of_lt Nat.and_le_right (by decide) | exact Nat.lt_trans (nm_lt _ _) (by decide) | exact Nat.lt_trans (np_lt _ _) (by decide) | exact Nat.lt_trans (p_at_lt htx) (by decide))).mp c61
                    refine lv_bipush (v := nI 10) hx hb dX3_readNumber_66 (by decide) ?_
                    refine lv_iload_n hx hb dX3_readNumber_68 rfl (lv_at hl 2 rfl) ?_
                    refine lv_imul hx hb dX3_readNumber_69 ?_
                    refine lv_topi (nm_r (pk_mul _ _) ?_)
                    refine lv_iload_n hx hb dX3_readNumber_70 rfl (lv_at hl 0 rfl) ?_
                    refine lv_iadd hx hb dX3_readNumber_71 ?_
                    refine lv_topi (nm_r (nI_add _ _) ?_)
                    refine lv_istore_n (lv' := [(1, .int (nI ((10 * v) + (p_at tx len k - 48)))), (2, .int (nI (p_at tx len k - 48))), (0, .ref pr)]) hx hb dX3_readNumber_72 rfl hl (by decide) rfl (fun ls hl => ?_)
                    refine lv_aload_n hx hb dX3_readNumber_73 rfl (lv_at hl 2 rfl) ?_
                    refine lv_dup hx hb dX3_readNumber_74 rfl ?_
                    refine va_get (D := D) (ci := 3) (v := .int (nI k)) (C := RX3) (T := TX3) (N := 5) hx hb hts hw1 hown hK hP 0 rfl rfl 4 (by decide) hw0 (fun _ h9 => h9) rfl dX3_readNumber_75 ?_
                    refine lv_iconst (v := nI 1) hx hb dX3_readNumber_78 (by decide) ?_
                    refine lv_iadd hx hb dX3_readNumber_79 ?_
                    refine lv_topi (nm_r (nI_add _ _) ?_)
                    refine va_put (D := D) (ci := 3) (v := .int (nI (k + 1))) (ty := .int) (C := RX3) (T := TX3) (N := 5) hx hb hts hw1 tyX3 tyX3_ok nmX3 hown hK hP hD hS 0 rfl rfl 4 (by decide) hw0 (fun _ h9 => h9) rfl (by decide +kernel) rfl rfl (Nat.le_of_ble_eq_true rfl) dX3_readNumber_80 (fun H11 locs hP hD hS => ?_)
                    have hP : va_P D vwCl [(pr, .inr (3, [.ref tp, .ref sp, .int (nI len), .int (nI sc), .int (nI (k + 1))])), (tp, .inl (cY 1, 60, .inl (m_nf tx)))] H11 := hP
                    have hD : va_D A [(pr, .inr (3, [.ref tp, .ref sp, .int (nI len), .int (nI sc), .int (nI (k + 1))])), (tp, .inl (cY 1, 60, .inl (m_nf tx)))] := hD
                    refine lv_goto (tgt := 25) hx hb dX3_readNumber_83 (by decide) ?_
                    exact ih25 ((10 * v) + (p_at tx len k - 48)) (k + 1) _ _ ls (by omega) (by first | assumption | omega) ((p_nl_go tx len (by omega) (by omega)).trans heq) (by omega) hP hD hS (lv_sub hl [2, 0] rfl)
                  · have c61 : ¬ (((10 * v) + (p_at tx len k - 48)) ≤ 65535) := fun q => c61 ((nI_leI (a := ((10 * v) + (p_at tx len k - 48))) (b := 65535) (by first | omega | exact Nat.lt_of_le_of_lt Nat.and_le_right (by decide) | exact Nat.lt_trans (nm_lt _ _) (by decide) | exact Nat.lt_trans (np_lt _ _) (by decide) | exact Nat.lt_trans (p_at_lt htx) (by decide)) (by first | omega | exact Nat.lt_of_le_of_lt Nat.and_le_right (by decide) | exact Nat.lt_trans (nm_lt _ _) (by decide) | exact Nat.lt_trans (np_lt _ _) (by decide) | exact Nat.lt_trans (p_at_lt htx) (by decide))).mpr q)
                    refine lv_iload_n hx hb dX3_readNumber_64 rfl (lv_at hl 2 rfl) ?_
                    subst hQ
                    exact m_iret C0 hS dX3_readNumber_65 (u := k) hP (Or.inr ⟨v, rfl, hv, by rw [p_num, if_pos hq, ← heq, p_nl_stop tx len (by omega)], hk⟩)
              · skip
                refine lv_topi (nm_r (p_dg_f hq2) ?_)
                refine lv_istore_n (lv' := [(2, .int (-1)), (0, .ref pr), (1, .int (nI v))]) hx hb dX3_readNumber_47 rfl hl (by decide) rfl (fun ls hl => ?_)
                refine lv_iload_n hx hb dX3_readNumber_48 rfl (lv_at hl 0 rfl) ?_
                refine lv_iconst (v := (-1)) hx hb dX3_readNumber_49 (by decide) ?_
                refine lv_icmp_eq (tgt := 64) hx hb dX3_readNumber_50 (by decide) (fun c50 => ?_) (fun c50 => ?_)
                · have c50 := c50
                  refine lv_iload_n hx hb dX3_readNumber_64 rfl (lv_at hl 2 rfl) ?_
                  subst hQ
                  exact m_iret C0 hS dX3_readNumber_65 (u := k) hP (Or.inr ⟨v, rfl, hv, by rw [p_num, if_pos hq, ← heq, p_nl_stop tx len (by omega)], hk⟩)
                · have c50 := c50
                  exfalso; exact c50 rfl
      exact lp25_6 _ (p_at tx len cur - 48) (cur + 1) _ _ ls (by first | assumption | omega) (p_at_in (tx := tx) (by omega)) (rfl) (Nat.lt_succ_self _) hP hD hS (lv_sub hl [1, 0] rfl)
    · have c10 := c10
      exfalso; exact n_nem1 (by omega) c10
  · skip
    refine lv_topi (nm_r (p_dg_f hq) ?_)
    refine lv_istore_n (lv' := [(1, .int (-1)), (0, .ref pr)]) hx hb dX3_readNumber_7 rfl hl (by decide) rfl (fun ls hl => ?_)
    refine lv_iload_n hx hb dX3_readNumber_8 rfl (lv_at hl 0 rfl) ?_
    refine lv_iconst (v := (-1)) hx hb dX3_readNumber_9 (by decide) ?_
    refine lv_icmp_ne (tgt := 15) hx hb dX3_readNumber_10 (by decide) (fun c10 => ?_) (fun c10 => ?_)
    · have c10 := c10
      exfalso; exact c10 rfl
    · have c10 := c10
      refine lv_iconst (v := (-1)) hx hb dX3_readNumber_13 (by decide) ?_
      subst hQ
      exact m_iret C0 hS dX3_readNumber_14 (u := cur) hP (Or.inl ⟨rfl, by rw [p_num, if_neg hq], rfl⟩)
set_option maxHeartbeats 4000000 in
set_option maxRecDepth 100000 in
theorem c_X3_readOperand (l : Launch) (D : va_G) (cY : Nat → ClassId) (pr tp sp len sc cur : Nat) (tx : Nat → Nat) (hlen : len ≤ 60) (htx : ∀ j, tx j < 65536) (hcur : cur ≤ len) : m_Mi l yX3_readOperand wsX3_readOperand 2 42 D cY [.ref pr] [(pr, .inr (3, [.ref tp, .ref sp, .int (nI len), .int (nI sc), .int (nI cur)])), (tp, .inl (cY 1, 60, .inl (m_nf tx)))] (fun (res : Int32) (u : Nat) => (res = -1 ∧ p_opd tx len cur = none ∧ u = cur) ∨ (∃ v, res = nI v ∧ v < 65544 ∧ p_opd tx len cur = some (v, u) ∧ u ≤ len)) (fun (u : Nat) => [(pr, .inr (3, [.ref tp, .ref sp, .int (nI len), .int (nI sc), .int (nI u)])), (tp, .inl (cY 1, 60, .inl (m_nf tx)))]) := by
  refine m_enterI (cc := cX3_readOperand) (maxL := 2) (ret := (some .int)) (by decide +kernel) rfl (Nat.le_of_ble_eq_true rfl) ?_
  intro p e s m below meth c A ls C0 hP hD hl
  obtain ⟨hx, hb, hr, hml, hts, hown, hlocks, hK, hA⟩ := id C0
  generalize hQ : MQ below _ _ s 0 0 A = Q
  have hS : va_S A s.heap s.heap [] := va_S.rf
  have hl : lv_has ls 2 [(0, .ref pr)] := hl
  have hw0 := hts (.constant RX3 72 (65536)) (by decide +kernel)
  refine lv_aload_n hx hb dX3_readOperand_0 rfl (lv_at hl 0 rfl) ?_
  refine m_callVi (As := []) (rest := []) C0 hl hP hD hS (c_X3_readRegister l D cY pr tp sp len sc cur tx (by first | assumption | omega | exact nm_lt _ _ | exact np_lt _ _ | decide) (by first | assumption | omega | exact nm_lt _ _ | exact np_lt _ _ | decide) (by first | assumption | omega | exact nm_lt _ _ | exact np_lt _ _ | decide)) (cwV 0 hts gX3_readOperand_X3_readRegister rfl rfl rfl (by decide +kernel) ⟨Nat.le_of_ble_eq_true rfl, Nat.le_of_ble_eq_true rfl⟩) dX3_readOperand_1 [0, 1] rfl rfl 0 rfl rfl rfl rfl (Nat.le_of_ble_eq_true rfl) (Nat.zero_le _) (Nat.zero_le _) (fun _ => rfl) (fun r3 u H1 locs hw hP hD hS => ?_)
  obtain ⟨cur9_2, rfl⟩ : ∃ z, z = u := ⟨_, rfl⟩
  try dsimp only at hw
  have hq4 := hw; clear hw
  have hP : va_P D vwCl [(pr, .inr (3, [.ref tp, .ref sp, .int (nI len), .int (nI sc), .int (nI cur9_2)])), (tp, .inl (cY 1, 60, .inl (m_nf tx)))] H1 := hP
  have hD : va_D A [(pr, .inr (3, [.ref tp, .ref sp, .int (nI len), .int (nI sc), .int (nI cur9_2)])), (tp, .inl (cY 1, 60, .inl (m_nf tx)))] := hD
  rcases hq4 with ⟨rfl, hz1, hz2⟩ | ⟨x, rfl, hz1, hx8, hz3, hz4⟩
  · skip
    rw [hz2] at hP hD
    have hP : va_P D vwCl [(pr, .inr (3, [.ref tp, .ref sp, .int (nI len), .int (nI sc), .int (nI cur)])), (tp, .inl (cY 1, 60, .inl (m_nf tx)))] H1 := hP
    have hD : va_D A [(pr, .inr (3, [.ref tp, .ref sp, .int (nI len), .int (nI sc), .int (nI cur)])), (tp, .inl (cY 1, 60, .inl (m_nf tx)))] := hD
    refine lv_istore_n (lv' := [(1, .int (-1)), (0, .ref pr)]) hx hb dX3_readOperand_4 rfl hl (by decide) rfl (fun ls hl => ?_)
    refine lv_iload_n hx hb dX3_readOperand_5 rfl (lv_at hl 0 rfl) ?_
    refine lv_iconst (v := (-1)) hx hb dX3_readOperand_6 (by decide) ?_
    refine lv_icmp_ne (tgt := 17) hx hb dX3_readOperand_7 (by decide) (fun c7 => ?_) (fun c7 => ?_)
    · have c7 := c7
      exfalso; exact c7 rfl
    · have c7 := c7
      refine lv_aload_n hx hb dX3_readOperand_10 rfl (lv_at hl 1 rfl) ?_
      refine m_callVi (As := []) (rest := []) C0 hl hP hD hS (c_X3_readNumber l D cY pr tp sp len sc cur tx (by first | assumption | omega | exact nm_lt _ _ | exact np_lt _ _ | decide) (by first | assumption | omega | exact nm_lt _ _ | exact np_lt _ _ | decide) (by first | assumption | omega | exact nm_lt _ _ | exact np_lt _ _ | decide)) (cwV 0 hts gX3_readOperand_X3_readNumber rfl rfl rfl (by decide +kernel) ⟨Nat.le_of_ble_eq_true rfl, Nat.le_of_ble_eq_true rfl⟩) dX3_readOperand_11 [0, 1] rfl rfl 0 rfl rfl rfl rfl (Nat.le_of_ble_eq_true rfl) (Nat.zero_le _) (Nat.zero_le _) (fun _ => rfl) (fun r7 u H5 locs hw hP hD hS => ?_)
      obtain ⟨cur9_6, rfl⟩ : ∃ z, z = u := ⟨_, rfl⟩
      try dsimp only at hw
      have hq8 := hw; clear hw
      have hP : va_P D vwCl [(pr, .inr (3, [.ref tp, .ref sp, .int (nI len), .int (nI sc), .int (nI cur9_6)])), (tp, .inl (cY 1, 60, .inl (m_nf tx)))] H5 := hP
      have hD : va_D A [(pr, .inr (3, [.ref tp, .ref sp, .int (nI len), .int (nI sc), .int (nI cur9_6)])), (tp, .inl (cY 1, 60, .inl (m_nf tx)))] := hD
      rcases hq8 with ⟨rfl, hn1, hn2⟩ | ⟨v, rfl, hv, hn1, hn2⟩
      · skip
        rw [hn2] at hP hD
        have hP : va_P D vwCl [(pr, .inr (3, [.ref tp, .ref sp, .int (nI len), .int (nI sc), .int (nI cur)])), (tp, .inl (cY 1, 60, .inl (m_nf tx)))] H5 := hP
        have hD : va_D A [(pr, .inr (3, [.ref tp, .ref sp, .int (nI len), .int (nI sc), .int (nI cur)])), (tp, .inl (cY 1, 60, .inl (m_nf tx)))] := hD
        refine lv_goto (tgt := 21) hx hb dX3_readOperand_14 (by decide) ?_
        subst hQ
        exact m_iret C0 hS dX3_readOperand_21 (u := cur) hP (Or.inl ⟨rfl, by rw [p_opd, hz1]; exact hn1, rfl⟩)
      · skip
        refine lv_goto (tgt := 21) hx hb dX3_readOperand_14 (by decide) ?_
        subst hQ
        exact m_iret C0 hS dX3_readOperand_21 (u := cur9_6) hP (Or.inr ⟨v, rfl, by omega, by rw [p_opd, hz1]; exact hn1, hn2⟩)
  · skip
    rw [hz3] at hP hD
    have hP : va_P D vwCl [(pr, .inr (3, [.ref tp, .ref sp, .int (nI len), .int (nI sc), .int (nI (cur + 1))])), (tp, .inl (cY 1, 60, .inl (m_nf tx)))] H1 := hP
    have hD : va_D A [(pr, .inr (3, [.ref tp, .ref sp, .int (nI len), .int (nI sc), .int (nI (cur + 1))])), (tp, .inl (cY 1, 60, .inl (m_nf tx)))] := hD
    refine lv_istore_n (lv' := [(1, .int (nI x)), (0, .ref pr)]) hx hb dX3_readOperand_4 rfl hl (by decide) rfl (fun ls hl => ?_)
    refine lv_iload_n hx hb dX3_readOperand_5 rfl (lv_at hl 0 rfl) ?_
    refine lv_iconst (v := (-1)) hx hb dX3_readOperand_6 (by decide) ?_
    refine lv_icmp_ne (tgt := 17) hx hb dX3_readOperand_7 (by decide) (fun c7 => ?_) (fun c7 => ?_)
    · have c7 := c7
      refine lv_ldc hx hb hown hw0 dX3_readOperand_17 ?_
      refine lv_topi (nm_r (show ((65536 : Int32)) = nI 65536 from by decide) ?_)
      refine lv_iload_n hx hb dX3_readOperand_19 rfl (lv_at hl 0 rfl) ?_
      refine lv_iadd hx hb dX3_readOperand_20 ?_
      refine lv_topi (nm_r (nI_add _ _) ?_)
      subst hQ
      exact m_iret C0 hS dX3_readOperand_21 (u := cur + 1) hP (Or.inr ⟨_, rfl, by omega, by rw [p_opd, hz1], by omega⟩)
    · have c7 := c7
      exfalso; exact n_nem1 (by omega) c7
set_option maxHeartbeats 4000000 in
set_option maxRecDepth 100000 in
theorem c_X3_readTarget (l : Launch) (D : va_G) (cY : Nat → ClassId) (pr tp sp len sc cur : Nat) (tx : Nat → Nat) (q : Nat) (t g fi se : Int32) (hlen : len ≤ 60) (htx : ∀ j, tx j < 65536) (hcur : cur ≤ len) : m_Mi l yX3_readTarget wsX3_readTarget 2 41 D cY [.ref pr, .ref q] [(pr, .inr (3, [.ref tp, .ref sp, .int (nI len), .int (nI sc), .int (nI cur)])), (tp, .inl (cY 1, 60, .inl (m_nf tx))), (q, .inr (5, [.int t, .int g, .int fi, .int se]))] (fun (res : Int32) (u : Nat × Int32) => (res = nI 0 ∧ p_tgt tx len cur = .inl u.1 ∧ u.1 ≤ len) ∨ (∃ x, res = nI 1 ∧ p_tgt tx len cur = .inr (x, u.1) ∧ u.2 = nI x ∧ x < 8 ∧ u.1 ≤ len)) (fun (u : Nat × Int32) => [(pr, .inr (3, [.ref tp, .ref sp, .int (nI len), .int (nI sc), .int (nI u.1)])), (tp, .inl (cY 1, 60, .inl (m_nf tx))), (q, .inr (5, [.int u.2, .int g, .int fi, .int se]))]) := by
  refine m_enterI (cc := cX3_readTarget) (maxL := 3) (ret := (some .boolean)) (by decide +kernel) rfl (Nat.le_of_ble_eq_true rfl) ?_
  intro p e s m below meth c A ls C0 hP hD hl
  obtain ⟨hx, hb, hr, hml, hts, hown, hlocks, hK, hA⟩ := id C0
  generalize hQ : MQ below _ _ s 0 0 A = Q
  have hS : va_S A s.heap s.heap [] := va_S.rf
  have hl : lv_has ls 3 [(0, .ref pr), (1, .ref q)] := hl
  refine lv_aload_n hx hb dX3_readTarget_0 rfl (lv_at hl 0 rfl) ?_
  refine m_callVi (As := []) (rest := []) C0 hl hP hD hS (c_X3_readRegister l D cY pr tp sp len sc cur tx (by first | assumption | omega | exact nm_lt _ _ | exact np_lt _ _ | decide) (by first | assumption | omega | exact nm_lt _ _ | exact np_lt _ _ | decide) (by first | assumption | omega | exact nm_lt _ _ | exact np_lt _ _ | decide)) (cwV 0 hts gX3_readTarget_X3_readRegister rfl rfl rfl (by decide +kernel) ⟨Nat.le_of_ble_eq_true rfl, Nat.le_of_ble_eq_true rfl⟩) dX3_readTarget_1 [0, 1] rfl rfl 0 rfl rfl rfl rfl (Nat.le_of_ble_eq_true rfl) (Nat.zero_le _) (Nat.zero_le _) (fun _ => rfl) (fun r3 u H1 locs hw hP hD hS => ?_)
  obtain ⟨cur9_2, rfl⟩ : ∃ z, z = u := ⟨_, rfl⟩
  try dsimp only at hw
  have hq4 := hw; clear hw
  have hP : va_P D vwCl [(pr, .inr (3, [.ref tp, .ref sp, .int (nI len), .int (nI sc), .int (nI cur9_2)])), (tp, .inl (cY 1, 60, .inl (m_nf tx))), (q, .inr (5, [.int t, .int g, .int fi, .int se]))] H1 := hP
  have hD : va_D A [(pr, .inr (3, [.ref tp, .ref sp, .int (nI len), .int (nI sc), .int (nI cur9_2)])), (tp, .inl (cY 1, 60, .inl (m_nf tx))), (q, .inr (5, [.int t, .int g, .int fi, .int se]))] := hD
  rcases hq4 with ⟨rfl, hz1, hz2⟩ | ⟨x, rfl, hz1, hx8, hz3, hz4⟩
  · skip
    rw [hz2] at hP hD
    have hP : va_P D vwCl [(pr, .inr (3, [.ref tp, .ref sp, .int (nI len), .int (nI sc), .int (nI cur)])), (tp, .inl (cY 1, 60, .inl (m_nf tx))), (q, .inr (5, [.int t, .int g, .int fi, .int se]))] H1 := hP
    have hD : va_D A [(pr, .inr (3, [.ref tp, .ref sp, .int (nI len), .int (nI sc), .int (nI cur)])), (tp, .inl (cY 1, 60, .inl (m_nf tx))), (q, .inr (5, [.int t, .int g, .int fi, .int se]))] := hD
    refine lv_istore_n (lv' := [(2, .int (-1)), (0, .ref pr), (1, .ref q)]) hx hb dX3_readTarget_4 rfl hl (by decide) rfl (fun ls hl => ?_)
    refine lv_aload_n hx hb dX3_readTarget_5 rfl (lv_at hl 2 rfl) ?_
    refine lv_iload_n hx hb dX3_readTarget_6 rfl (lv_at hl 0 rfl) ?_
    refine m_callVv (As := [.int (-1)]) (rest := []) C0 hl hP hD hS (c_X5_setTarget l D cY q t g fi se (-1) ) (cwV 1 hts gX3_readTarget_X5_setTarget rfl rfl rfl (by decide +kernel) ⟨Nat.le_of_ble_eq_true rfl, Nat.le_of_ble_eq_true rfl⟩) dX3_readTarget_7 [2] rfl rfl 2 rfl rfl rfl rfl (Nat.le_of_ble_eq_true rfl) (Nat.zero_le _) (Nat.zero_le _) (fun _ => rfl) (fun u H5 locs hw hP hD hS => ?_)
    try dsimp only at hw
    clear hw
    have hP : va_P D vwCl [(pr, .inr (3, [.ref tp, .ref sp, .int (nI len), .int (nI sc), .int (nI cur)])), (tp, .inl (cY 1, 60, .inl (m_nf tx))), (q, .inr (5, [.int (-1), .int g, .int fi, .int se]))] H5 := hP
    have hD : va_D A [(pr, .inr (3, [.ref tp, .ref sp, .int (nI len), .int (nI sc), .int (nI cur)])), (tp, .inl (cY 1, 60, .inl (m_nf tx))), (q, .inr (5, [.int (-1), .int g, .int fi, .int se]))] := hD
    refine lv_iload_n hx hb dX3_readTarget_10 rfl (lv_at hl 0 rfl) ?_
    refine lv_iconst (v := (-1)) hx hb dX3_readTarget_11 (by decide) ?_
    refine lv_icmp_eq (tgt := 28) hx hb dX3_readTarget_12 (by decide) (fun c12 => ?_) (fun c12 => ?_)
    · have c12 := c12
      refine lv_iconst (v := nI 0) hx hb dX3_readTarget_28 (by decide) ?_
      subst hQ
      exact m_zret C0 (by decide) hS dX3_readTarget_29 (u := (cur, -1)) hP (Or.inl ⟨rfl, by simp only [p_tgt, hz1], hcur⟩)
    · have c12 := c12
      exfalso; exact c12 rfl
  · skip
    rw [hz3] at hP hD
    have hP : va_P D vwCl [(pr, .inr (3, [.ref tp, .ref sp, .int (nI len), .int (nI sc), .int (nI (cur + 1))])), (tp, .inl (cY 1, 60, .inl (m_nf tx))), (q, .inr (5, [.int t, .int g, .int fi, .int se]))] H1 := hP
    have hD : va_D A [(pr, .inr (3, [.ref tp, .ref sp, .int (nI len), .int (nI sc), .int (nI (cur + 1))])), (tp, .inl (cY 1, 60, .inl (m_nf tx))), (q, .inr (5, [.int t, .int g, .int fi, .int se]))] := hD
    refine lv_istore_n (lv' := [(2, .int (nI x)), (0, .ref pr), (1, .ref q)]) hx hb dX3_readTarget_4 rfl hl (by decide) rfl (fun ls hl => ?_)
    refine lv_aload_n hx hb dX3_readTarget_5 rfl (lv_at hl 2 rfl) ?_
    refine lv_iload_n hx hb dX3_readTarget_6 rfl (lv_at hl 0 rfl) ?_
    refine m_callVv (As := [.int (nI x)]) (rest := []) C0 hl hP hD hS (c_X5_setTarget l D cY q t g fi se (nI x) ) (cwV 1 hts gX3_readTarget_X5_setTarget rfl rfl rfl (by decide +kernel) ⟨Nat.le_of_ble_eq_true rfl, Nat.le_of_ble_eq_true rfl⟩) dX3_readTarget_7 [2] rfl rfl 2 rfl rfl rfl rfl (Nat.le_of_ble_eq_true rfl) (Nat.zero_le _) (Nat.zero_le _) (fun _ => rfl) (fun u H6 locs hw hP hD hS => ?_)
    try dsimp only at hw
    clear hw
    have hP : va_P D vwCl [(pr, .inr (3, [.ref tp, .ref sp, .int (nI len), .int (nI sc), .int (nI (cur + 1))])), (tp, .inl (cY 1, 60, .inl (m_nf tx))), (q, .inr (5, [.int (nI x), .int g, .int fi, .int se]))] H6 := hP
    have hD : va_D A [(pr, .inr (3, [.ref tp, .ref sp, .int (nI len), .int (nI sc), .int (nI (cur + 1))])), (tp, .inl (cY 1, 60, .inl (m_nf tx))), (q, .inr (5, [.int (nI x), .int g, .int fi, .int se]))] := hD
    refine lv_iload_n hx hb dX3_readTarget_10 rfl (lv_at hl 0 rfl) ?_
    refine lv_iconst (v := (-1)) hx hb dX3_readTarget_11 (by decide) ?_
    refine lv_icmp_eq (tgt := 28) hx hb dX3_readTarget_12 (by decide) (fun c12 => ?_) (fun c12 => ?_)
    · have c12 := c12
      exfalso; exact n_nem1 (by omega) c12
    · have c12 := c12
      refine lv_aload_n hx hb dX3_readTarget_15 rfl (lv_at hl 1 rfl) ?_
      refine lv_bipush (v := nI 61) hx hb dX3_readTarget_16 (by decide) ?_
      refine m_callVi (As := [.int (nI 61)]) (rest := []) C0 hl hP hD hS (c_X3_skip l D cY pr tp sp len sc (cur + 1) tx 61 (by first | assumption | omega | exact nm_lt _ _ | exact np_lt _ _ | decide) (by first | assumption | omega | exact nm_lt _ _ | exact np_lt _ _ | decide) (by first | assumption | omega | exact nm_lt _ _ | exact np_lt _ _ | decide) (by first | assumption | omega | exact nm_lt _ _ | exact np_lt _ _ | decide) (by first | assumption | omega | exact nm_lt _ _ | exact np_lt _ _ | decide)) (cwV 1 hts gX3_readTarget_X3_skip rfl rfl rfl (by decide +kernel) ⟨Nat.le_of_ble_eq_true rfl, Nat.le_of_ble_eq_true rfl⟩) dX3_readTarget_18 [0, 1] rfl rfl 0 rfl rfl rfl rfl (Nat.le_of_ble_eq_true rfl) (Nat.zero_le _) (Nat.zero_le _) (fun _ => rfl) (fun r9 u H7 locs hw hP hD hS => ?_)
      obtain ⟨cur9_8, rfl⟩ : ∃ z, z = u := ⟨_, rfl⟩
      try dsimp only at hw
      have hq10 := hw; clear hw
      have hP : va_P D vwCl [(pr, .inr (3, [.ref tp, .ref sp, .int (nI len), .int (nI sc), .int (nI cur9_8)])), (tp, .inl (cY 1, 60, .inl (m_nf tx))), (q, .inr (5, [.int (nI x), .int g, .int fi, .int se]))] H7 := hP
      have hD : va_D A [(pr, .inr (3, [.ref tp, .ref sp, .int (nI len), .int (nI sc), .int (nI cur9_8)])), (tp, .inl (cY 1, 60, .inl (m_nf tx))), (q, .inr (5, [.int (nI x), .int g, .int fi, .int se]))] := hD
      rcases hq10 with ⟨rfl, hk1, hk3, hk4⟩ | ⟨rfl, hk1, hk3⟩
      · skip
        rw [hk3] at hP hD
        have hP : va_P D vwCl [(pr, .inr (3, [.ref tp, .ref sp, .int (nI len), .int (nI sc), .int (nI ((cur + 1) + 1))])), (tp, .inl (cY 1, 60, .inl (m_nf tx))), (q, .inr (5, [.int (nI x), .int g, .int fi, .int se]))] H7 := hP
        have hD : va_D A [(pr, .inr (3, [.ref tp, .ref sp, .int (nI len), .int (nI sc), .int (nI ((cur + 1) + 1))])), (tp, .inl (cY 1, 60, .inl (m_nf tx))), (q, .inr (5, [.int (nI x), .int g, .int fi, .int se]))] := hD
        refine lv_if_eq (tgt := 28) hx hb dX3_readTarget_21 (by decide) (fun c21 => ?_) (fun c21 => ?_)
        · exact absurd c21 (by decide)
        · refine lv_iconst (v := nI 1) hx hb dX3_readTarget_24 (by decide) ?_
          refine lv_goto (tgt := 29) hx hb dX3_readTarget_25 (by decide) ?_
          subst hQ
          exact m_zret C0 (by decide) hS dX3_readTarget_29 (u := (cur + 1 + 1, nI x)) hP (Or.inr ⟨x, rfl, by simp only [p_tgt, hz1, if_pos hk1], rfl, hx8, by omega⟩)
      · skip
        rw [hk3] at hP hD
        have hP : va_P D vwCl [(pr, .inr (3, [.ref tp, .ref sp, .int (nI len), .int (nI sc), .int (nI (cur + 1))])), (tp, .inl (cY 1, 60, .inl (m_nf tx))), (q, .inr (5, [.int (nI x), .int g, .int fi, .int se]))] H7 := hP
        have hD : va_D A [(pr, .inr (3, [.ref tp, .ref sp, .int (nI len), .int (nI sc), .int (nI (cur + 1))])), (tp, .inl (cY 1, 60, .inl (m_nf tx))), (q, .inr (5, [.int (nI x), .int g, .int fi, .int se]))] := hD
        refine lv_if_eq (tgt := 28) hx hb dX3_readTarget_21 (by decide) (fun c21 => ?_) (fun c21 => ?_)
        · refine lv_iconst (v := nI 0) hx hb dX3_readTarget_28 (by decide) ?_
          subst hQ
          exact m_zret C0 (by decide) hS dX3_readTarget_29 (u := (cur + 1, nI x)) hP (Or.inl ⟨rfl, by simp only [p_tgt, hz1, if_neg hk1], by omega⟩)
        · exact absurd c21 (by decide)
set_option maxHeartbeats 4000000 in
set_option maxRecDepth 100000 in
theorem c_X3_readRightSide (l : Launch) (D : va_G) (cY : Nat → ClassId) (pr tp sp len sc cur : Nat) (tx : Nat → Nat) (q : Nat) (t g fi se : Int32) (hlen : len ≤ 60) (htx : ∀ j, tx j < 65536) (hcur : cur ≤ len) : m_Mi l yX3_readRightSide wsX3_readRightSide 3 63 D cY [.ref pr, .ref q] [(pr, .inr (3, [.ref tp, .ref sp, .int (nI len), .int (nI sc), .int (nI cur)])), (tp, .inl (cY 1, 60, .inl (m_nf tx))), (q, .inr (5, [.int t, .int g, .int fi, .int se]))] (fun (res : Int32) (u : Nat × Int32 × Int32 × Int32) => (res = nI 0 ∧ p_rhs tx len cur = .inl u.1 ∧ u.1 ≤ len) ∨ (∃ a b d, res = nI 1 ∧ p_rhs tx len cur = .inr (a, b, d, u.1) ∧ u.2.1 = nI a ∧ u.2.2.1 = nI b ∧ u.2.2.2 = nI d ∧ a < 65536 ∧ b < 65544 ∧ d < 65544 ∧ u.1 ≤ len)) (fun (u : Nat × Int32 × Int32 × Int32) => [(pr, .inr (3, [.ref tp, .ref sp, .int (nI len), .int (nI sc), .int (nI u.1)])), (tp, .inl (cY 1, 60, .inl (m_nf tx))), (q, .inr (5, [.int t, .int u.2.1, .int u.2.2.1, .int u.2.2.2]))]) := by
  refine m_enterI (cc := cX3_readRightSide) (maxL := 5) (ret := (some .boolean)) (by decide +kernel) rfl (Nat.le_of_ble_eq_true rfl) ?_
  intro p e s m below meth c A ls C0 hP hD hl
  obtain ⟨hx, hb, hr, hml, hts, hown, hlocks, hK, hA⟩ := id C0
  generalize hQ : MQ below _ _ s 0 0 A = Q
  have hS : va_S A s.heap s.heap [] := va_S.rf
  have hl : lv_has ls 5 [(0, .ref pr), (1, .ref q)] := hl
  have hw0 := hts (.fieldLink RX3 26 "NimberField$Program" "cursor" "I") (by decide +kernel)
  have hw1 := (show ∀ w ∈ u_ws RX3 TX3 5, w ∈ wsX3_readRightSide from by decide +kernel)
  refine lv_aload_n hx hb dX3_readRightSide_0 rfl (lv_at hl 0 rfl) ?_
  refine m_callVi (As := []) (rest := []) C0 hl hP hD hS (c_X3_current l D cY pr tp sp len sc cur tx (by first | assumption | omega | exact nm_lt _ _ | exact np_lt _ _ | decide) (by first | assumption | omega | exact nm_lt _ _ | exact np_lt _ _ | decide) (by first | assumption | omega | exact nm_lt _ _ | exact np_lt _ _ | decide)) (cwV 0 hts gX3_readRightSide_X3_current rfl rfl rfl (by decide +kernel) ⟨Nat.le_of_ble_eq_true rfl, Nat.le_of_ble_eq_true rfl⟩) dX3_readRightSide_1 [0, 1] rfl rfl 0 rfl rfl rfl rfl (Nat.le_of_ble_eq_true rfl) (Nat.zero_le _) (Nat.zero_le _) (fun _ => rfl) (fun r2 u H1 locs hw hP hD hS => ?_)
  try dsimp only at hw
  obtain rfl := hw
  have hP : va_P D vwCl [(pr, .inr (3, [.ref tp, .ref sp, .int (nI len), .int (nI sc), .int (nI cur)])), (tp, .inl (cY 1, 60, .inl (m_nf tx))), (q, .inr (5, [.int t, .int g, .int fi, .int se]))] H1 := hP
  have hD : va_D A [(pr, .inr (3, [.ref tp, .ref sp, .int (nI len), .int (nI sc), .int (nI cur)])), (tp, .inl (cY 1, 60, .inl (m_nf tx))), (q, .inr (5, [.int t, .int g, .int fi, .int se]))] := hD
  refine lv_istore_n (lv' := [(2, .int (nI (p_at tx len cur))), (0, .ref pr), (1, .ref q)]) hx hb dX3_readRightSide_4 rfl hl (by decide) rfl (fun ls hl => ?_)
  refine lv_iload_n hx hb dX3_readRightSide_5 rfl (lv_at hl 0 rfl) ?_
  refine lv_bipush (v := nI 126) hx hb dX3_readRightSide_6 (by decide) ?_
  refine lv_icmp_eq (tgt := 17) hx hb dX3_readRightSide_8 (by decide) (fun c8 => ?_) (fun c8 => ?_)
  · have c8 : (p_at tx len cur) = 126 := (nI_eq (a := (p_at tx len cur)) (b := 126) (by first | omega | exact Nat.lt_of_le_of_lt Nat.and_le_right (by decide) | exact Nat.lt_trans (nm_lt _ _) (by decide) | exact Nat.lt_trans (np_lt _ _) (by decide) | exact Nat.lt_trans (p_at_lt htx) (by decide)) (by first | omega | exact Nat.lt_of_le_of_lt Nat.and_le_right (by decide) | exact Nat.lt_trans (nm_lt _ _) (by decide) | exact Nat.lt_trans (np_lt _ _) (by decide) | exact Nat.lt_trans (p_at_lt htx) (by decide))).mp c8
    refine lv_aload_n hx hb dX3_readRightSide_17 rfl (lv_at hl 1 rfl) ?_
    refine lv_dup hx hb dX3_readRightSide_18 rfl ?_
    refine va_get (D := D) (ci := 3) (v := .int (nI cur)) (C := RX3) (T := TX3) (N := 5) hx hb hts hw1 hown hK hP 0 rfl rfl 4 (by decide) hw0 (fun _ h9 => h9) rfl dX3_readRightSide_19 ?_
    refine lv_iconst (v := nI 1) hx hb dX3_readRightSide_22 (by decide) ?_
    refine lv_iadd hx hb dX3_readRightSide_23 ?_
    refine lv_topi (nm_r (nI_add _ _) ?_)
    refine va_put (D := D) (ci := 3) (v := .int (nI (cur + 1))) (ty := .int) (C := RX3) (T := TX3) (N := 5) hx hb hts hw1 tyX3 tyX3_ok nmX3 hown hK hP hD hS 0 rfl rfl 4 (by decide) hw0 (fun _ h9 => h9) rfl (by decide +kernel) rfl rfl (Nat.le_of_ble_eq_true rfl) dX3_readRightSide_24 (fun H3 locs hP hD hS => ?_)
    have hP : va_P D vwCl [(pr, .inr (3, [.ref tp, .ref sp, .int (nI len), .int (nI sc), .int (nI (cur + 1))])), (tp, .inl (cY 1, 60, .inl (m_nf tx))), (q, .inr (5, [.int t, .int g, .int fi, .int se]))] H3 := hP
    have hD : va_D A [(pr, .inr (3, [.ref tp, .ref sp, .int (nI len), .int (nI sc), .int (nI (cur + 1))])), (tp, .inl (cY 1, 60, .inl (m_nf tx))), (q, .inr (5, [.int t, .int g, .int fi, .int se]))] := hD
    refine lv_aload_n hx hb dX3_readRightSide_27 rfl (lv_at hl 1 rfl) ?_
    refine m_callVi (As := []) (rest := []) C0 hl hP hD hS (c_X3_readOperand l D cY pr tp sp len sc (cur + 1) tx (by first | assumption | omega | exact nm_lt _ _ | exact np_lt _ _ | decide) (by first | assumption | omega | exact nm_lt _ _ | exact np_lt _ _ | decide) (p_at_in (tx := tx) (by omega))) (cwV 0 hts gX3_readRightSide_X3_readOperand rfl rfl rfl (by decide +kernel) ⟨Nat.le_of_ble_eq_true rfl, Nat.le_of_ble_eq_true rfl⟩) dX3_readRightSide_28 [0, 1] rfl rfl 0 rfl rfl rfl rfl (Nat.le_of_ble_eq_true rfl) (Nat.zero_le _) (Nat.zero_le _) (fun _ => rfl) (fun r6 u H4 locs hw hP hD hS => ?_)
    obtain ⟨cur9_5, rfl⟩ : ∃ z, z = u := ⟨_, rfl⟩
    try dsimp only at hw
    have hq7 := hw; clear hw
    have hP : va_P D vwCl [(pr, .inr (3, [.ref tp, .ref sp, .int (nI len), .int (nI sc), .int (nI cur9_5)])), (tp, .inl (cY 1, 60, .inl (m_nf tx))), (q, .inr (5, [.int t, .int g, .int fi, .int se]))] H4 := hP
    have hD : va_D A [(pr, .inr (3, [.ref tp, .ref sp, .int (nI len), .int (nI sc), .int (nI cur9_5)])), (tp, .inl (cY 1, 60, .inl (m_nf tx))), (q, .inr (5, [.int t, .int g, .int fi, .int se]))] := hD
    rcases hq7 with ⟨rfl, ha1, ha2⟩ | ⟨va, rfl, hva, ha1, ha2⟩
    · skip
      rw [ha2] at hP hD
      have hP : va_P D vwCl [(pr, .inr (3, [.ref tp, .ref sp, .int (nI len), .int (nI sc), .int (nI (cur + 1))])), (tp, .inl (cY 1, 60, .inl (m_nf tx))), (q, .inr (5, [.int t, .int g, .int fi, .int se]))] H4 := hP
      have hD : va_D A [(pr, .inr (3, [.ref tp, .ref sp, .int (nI len), .int (nI sc), .int (nI (cur + 1))])), (tp, .inl (cY 1, 60, .inl (m_nf tx))), (q, .inr (5, [.int t, .int g, .int fi, .int se]))] := hD
      refine lv_istore_n (lv' := [(3, .int (-1)), (2, .int (nI (p_at tx len cur))), (0, .ref pr), (1, .ref q)]) hx hb dX3_readRightSide_31 rfl hl (by decide) rfl (fun ls hl => ?_)
      refine lv_aload_n hx hb dX3_readRightSide_32 rfl (lv_at hl 3 rfl) ?_
      refine lv_iload_n hx hb dX3_readRightSide_33 rfl (lv_at hl 1 rfl) ?_
      refine lv_iload_n hx hb dX3_readRightSide_34 rfl (lv_at hl 0 rfl) ?_
      refine lv_iconst (v := nI 0) hx hb dX3_readRightSide_35 (by decide) ?_
      refine m_callVv (As := [.int (nI (p_at tx len cur)), .int (-1), .int (nI 0)]) (rest := []) C0 hl hP hD hS (c_X5_setRightSide l D cY q t g fi se (p_at tx len cur) (-1) (nI 0) (p_at_lt htx)) (cwV 3 hts gX3_readRightSide_X5_setRightSide rfl rfl rfl (by decide +kernel) ⟨Nat.le_of_ble_eq_true rfl, Nat.le_of_ble_eq_true rfl⟩) dX3_readRightSide_36 [2] rfl rfl 2 rfl rfl rfl rfl (Nat.le_of_ble_eq_true rfl) (Nat.zero_le _) (Nat.zero_le _) (fun _ => rfl) (fun u H8 locs hw hP hD hS => ?_)
      try dsimp only at hw
      clear hw
      have hP : va_P D vwCl [(pr, .inr (3, [.ref tp, .ref sp, .int (nI len), .int (nI sc), .int (nI (cur + 1))])), (tp, .inl (cY 1, 60, .inl (m_nf tx))), (q, .inr (5, [.int t, .int (nI (p_at tx len cur)), .int (-1), .int (nI 0)]))] H8 := hP
      have hD : va_D A [(pr, .inr (3, [.ref tp, .ref sp, .int (nI len), .int (nI sc), .int (nI (cur + 1))])), (tp, .inl (cY 1, 60, .inl (m_nf tx))), (q, .inr (5, [.int t, .int (nI (p_at tx len cur)), .int (-1), .int (nI 0)]))] := hD
      refine lv_iload_n hx hb dX3_readRightSide_39 rfl (lv_at hl 0 rfl) ?_
      refine lv_iconst (v := (-1)) hx hb dX3_readRightSide_40 (by decide) ?_
      refine lv_icmp_eq (tgt := 48) hx hb dX3_readRightSide_41 (by decide) (fun c41 => ?_) (fun c41 => ?_)
      · have c41 := c41
        refine lv_iconst (v := nI 0) hx hb dX3_readRightSide_48 (by decide) ?_
        have hone : p_at tx len cur = 126 ∨ p_at tx len cur = 37 := by omega
        subst hQ
        exact m_zret C0 (by decide) hS dX3_readRightSide_49 (u := ((cur + 1), nI (p_at tx len cur), (-1), nI 0)) hP (Or.inl ⟨rfl, by simp only [p_rhs, if_pos hone, ha1], p_at_in (tx := tx) (by omega)⟩)
      · have c41 := c41
        exfalso; exact c41 rfl
    · skip
      refine lv_istore_n (lv' := [(3, .int (nI va)), (2, .int (nI (p_at tx len cur))), (0, .ref pr), (1, .ref q)]) hx hb dX3_readRightSide_31 rfl hl (by decide) rfl (fun ls hl => ?_)
      refine lv_aload_n hx hb dX3_readRightSide_32 rfl (lv_at hl 3 rfl) ?_
      refine lv_iload_n hx hb dX3_readRightSide_33 rfl (lv_at hl 1 rfl) ?_
      refine lv_iload_n hx hb dX3_readRightSide_34 rfl (lv_at hl 0 rfl) ?_
      refine lv_iconst (v := nI 0) hx hb dX3_readRightSide_35 (by decide) ?_
      refine m_callVv (As := [.int (nI (p_at tx len cur)), .int (nI va), .int (nI 0)]) (rest := []) C0 hl hP hD hS (c_X5_setRightSide l D cY q t g fi se (p_at tx len cur) (nI va) (nI 0) (p_at_lt htx)) (cwV 3 hts gX3_readRightSide_X5_setRightSide rfl rfl rfl (by decide +kernel) ⟨Nat.le_of_ble_eq_true rfl, Nat.le_of_ble_eq_true rfl⟩) dX3_readRightSide_36 [2] rfl rfl 2 rfl rfl rfl rfl (Nat.le_of_ble_eq_true rfl) (Nat.zero_le _) (Nat.zero_le _) (fun _ => rfl) (fun u H9 locs hw hP hD hS => ?_)
      try dsimp only at hw
      clear hw
      have hP : va_P D vwCl [(pr, .inr (3, [.ref tp, .ref sp, .int (nI len), .int (nI sc), .int (nI cur9_5)])), (tp, .inl (cY 1, 60, .inl (m_nf tx))), (q, .inr (5, [.int t, .int (nI (p_at tx len cur)), .int (nI va), .int (nI 0)]))] H9 := hP
      have hD : va_D A [(pr, .inr (3, [.ref tp, .ref sp, .int (nI len), .int (nI sc), .int (nI cur9_5)])), (tp, .inl (cY 1, 60, .inl (m_nf tx))), (q, .inr (5, [.int t, .int (nI (p_at tx len cur)), .int (nI va), .int (nI 0)]))] := hD
      refine lv_iload_n hx hb dX3_readRightSide_39 rfl (lv_at hl 0 rfl) ?_
      refine lv_iconst (v := (-1)) hx hb dX3_readRightSide_40 (by decide) ?_
      refine lv_icmp_eq (tgt := 48) hx hb dX3_readRightSide_41 (by decide) (fun c41 => ?_) (fun c41 => ?_)
      · have c41 := c41
        exfalso; exact n_nem1 (by omega) c41
      · have c41 := c41
        refine lv_iconst (v := nI 1) hx hb dX3_readRightSide_44 (by decide) ?_
        refine lv_goto (tgt := 49) hx hb dX3_readRightSide_45 (by decide) ?_
        have hone : p_at tx len cur = 126 ∨ p_at tx len cur = 37 := by omega
        subst hQ
        exact m_zret C0 (by decide) hS dX3_readRightSide_49 (u := (cur9_5, nI (p_at tx len cur), nI va, nI 0)) hP (Or.inr ⟨_, va, 0, rfl, by simp only [p_rhs, if_pos hone, ha1], rfl, rfl, rfl, p_at_lt htx, hva, by decide, ha2⟩)
  · have c8 : ¬ ((p_at tx len cur) = 126) := fun q => c8 ((nI_eq (a := (p_at tx len cur)) (b := 126) (by first | omega | exact Nat.lt_of_le_of_lt Nat.and_le_right (by decide) | exact Nat.lt_trans (nm_lt _ _) (by decide) | exact Nat.lt_trans (np_lt _ _) (by decide) | exact Nat.lt_trans (p_at_lt htx) (by decide)) (by first | omega | exact Nat.lt_of_le_of_lt Nat.and_le_right (by decide) | exact Nat.lt_trans (nm_lt _ _) (by decide) | exact Nat.lt_trans (np_lt _ _) (by decide) | exact Nat.lt_trans (p_at_lt htx) (by decide))).mpr q)
    refine lv_iload_n hx hb dX3_readRightSide_11 rfl (lv_at hl 0 rfl) ?_
    refine lv_bipush (v := nI 37) hx hb dX3_readRightSide_12 (by decide) ?_
    refine lv_icmp_ne (tgt := 50) hx hb dX3_readRightSide_14 (by decide) (fun c14 => ?_) (fun c14 => ?_)
    · have c14 : ¬ ((p_at tx len cur) = 37) := fun q => c14 ((nI_eq (a := (p_at tx len cur)) (b := 37) (by first | omega | exact Nat.lt_of_le_of_lt Nat.and_le_right (by decide) | exact Nat.lt_trans (nm_lt _ _) (by decide) | exact Nat.lt_trans (np_lt _ _) (by decide) | exact Nat.lt_trans (p_at_lt htx) (by decide)) (by first | omega | exact Nat.lt_of_le_of_lt Nat.and_le_right (by decide) | exact Nat.lt_trans (nm_lt _ _) (by decide) | exact Nat.lt_trans (np_lt _ _) (by decide) | exact Nat.lt_trans (p_at_lt htx) (by decide))).mpr q)
      refine lv_aload_n hx hb dX3_readRightSide_50 rfl (lv_at hl 1 rfl) ?_
      refine m_callVi (As := []) (rest := []) C0 hl hP hD hS (c_X3_readOperand l D cY pr tp sp len sc cur tx (by first | assumption | omega | exact nm_lt _ _ | exact np_lt _ _ | decide) (by first | assumption | omega | exact nm_lt _ _ | exact np_lt _ _ | decide) (by first | assumption | omega | exact nm_lt _ _ | exact np_lt _ _ | decide)) (cwV 0 hts gX3_readRightSide_X3_readOperand rfl rfl rfl (by decide +kernel) ⟨Nat.le_of_ble_eq_true rfl, Nat.le_of_ble_eq_true rfl⟩) dX3_readRightSide_51 [0, 1] rfl rfl 0 rfl rfl rfl rfl (Nat.le_of_ble_eq_true rfl) (Nat.zero_le _) (Nat.zero_le _) (fun _ => rfl) (fun r12 u H10 locs hw hP hD hS => ?_)
      obtain ⟨cur9_11, rfl⟩ : ∃ z, z = u := ⟨_, rfl⟩
      try dsimp only at hw
      have hq13 := hw; clear hw
      have hP : va_P D vwCl [(pr, .inr (3, [.ref tp, .ref sp, .int (nI len), .int (nI sc), .int (nI cur9_11)])), (tp, .inl (cY 1, 60, .inl (m_nf tx))), (q, .inr (5, [.int t, .int g, .int fi, .int se]))] H10 := hP
      have hD : va_D A [(pr, .inr (3, [.ref tp, .ref sp, .int (nI len), .int (nI sc), .int (nI cur9_11)])), (tp, .inl (cY 1, 60, .inl (m_nf tx))), (q, .inr (5, [.int t, .int g, .int fi, .int se]))] := hD
      rcases hq13 with ⟨rfl, hb1, hb2⟩ | ⟨vb, rfl, hvb, hb1, hb2⟩
      · skip
        rw [hb2] at hP hD
        have hP : va_P D vwCl [(pr, .inr (3, [.ref tp, .ref sp, .int (nI len), .int (nI sc), .int (nI cur)])), (tp, .inl (cY 1, 60, .inl (m_nf tx))), (q, .inr (5, [.int t, .int g, .int fi, .int se]))] H10 := hP
        have hD : va_D A [(pr, .inr (3, [.ref tp, .ref sp, .int (nI len), .int (nI sc), .int (nI cur)])), (tp, .inl (cY 1, 60, .inl (m_nf tx))), (q, .inr (5, [.int t, .int g, .int fi, .int se]))] := hD
        refine lv_istore_n (lv' := [(3, .int (-1)), (2, .int (nI (p_at tx len cur))), (0, .ref pr), (1, .ref q)]) hx hb dX3_readRightSide_54 rfl hl (by decide) rfl (fun ls hl => ?_)
        refine lv_iload_n hx hb dX3_readRightSide_55 rfl (lv_at hl 0 rfl) ?_
        refine lv_iconst (v := (-1)) hx hb dX3_readRightSide_56 (by decide) ?_
        refine lv_icmp_ne (tgt := 62) hx hb dX3_readRightSide_57 (by decide) (fun c57 => ?_) (fun c57 => ?_)
        · have c57 := c57
          exfalso; exact c57 rfl
        · have c57 := c57
          refine lv_iconst (v := nI 0) hx hb dX3_readRightSide_60 (by decide) ?_
          have hone : ¬ (p_at tx len cur = 126 ∨ p_at tx len cur = 37) := by omega
          subst hQ
          exact m_zret C0 (by decide) hS dX3_readRightSide_61 (u := (cur, g, fi, se)) hP (Or.inl ⟨rfl, by simp only [p_rhs, if_neg hone, hb1], hcur⟩)
      · skip
        refine lv_istore_n (lv' := [(3, .int (nI vb)), (2, .int (nI (p_at tx len cur))), (0, .ref pr), (1, .ref q)]) hx hb dX3_readRightSide_54 rfl hl (by decide) rfl (fun ls hl => ?_)
        refine lv_iload_n hx hb dX3_readRightSide_55 rfl (lv_at hl 0 rfl) ?_
        refine lv_iconst (v := (-1)) hx hb dX3_readRightSide_56 (by decide) ?_
        refine lv_icmp_ne (tgt := 62) hx hb dX3_readRightSide_57 (by decide) (fun c57 => ?_) (fun c57 => ?_)
        · have c57 := c57
          refine lv_aload_n hx hb dX3_readRightSide_62 rfl (lv_at hl 2 rfl) ?_
          refine m_callVi (As := []) (rest := []) C0 hl hP hD hS (c_X3_current l D cY pr tp sp len sc cur9_11 tx (by first | assumption | omega | exact nm_lt _ _ | exact np_lt _ _ | decide) (by first | assumption | omega | exact nm_lt _ _ | exact np_lt _ _ | decide) (by first | assumption | omega | exact nm_lt _ _ | exact np_lt _ _ | decide)) (cwV 0 hts gX3_readRightSide_X3_current rfl rfl rfl (by decide +kernel) ⟨Nat.le_of_ble_eq_true rfl, Nat.le_of_ble_eq_true rfl⟩) dX3_readRightSide_63 [0, 1] rfl rfl 0 rfl rfl rfl rfl (Nat.le_of_ble_eq_true rfl) (Nat.zero_le _) (Nat.zero_le _) (fun _ => rfl) (fun r15 u H14 locs hw hP hD hS => ?_)
          try dsimp only at hw
          obtain rfl := hw
          have hP : va_P D vwCl [(pr, .inr (3, [.ref tp, .ref sp, .int (nI len), .int (nI sc), .int (nI cur9_11)])), (tp, .inl (cY 1, 60, .inl (m_nf tx))), (q, .inr (5, [.int t, .int g, .int fi, .int se]))] H14 := hP
          have hD : va_D A [(pr, .inr (3, [.ref tp, .ref sp, .int (nI len), .int (nI sc), .int (nI cur9_11)])), (tp, .inl (cY 1, 60, .inl (m_nf tx))), (q, .inr (5, [.int t, .int g, .int fi, .int se]))] := hD
          refine lv_istore_n (lv' := [(2, .int (nI (p_at tx len cur9_11))), (3, .int (nI vb)), (0, .ref pr), (1, .ref q)]) hx hb dX3_readRightSide_66 rfl hl (by decide) rfl (fun ls hl => ?_)
          refine lv_iload_n hx hb dX3_readRightSide_67 rfl (lv_at hl 0 rfl) ?_
          refine lv_bipush (v := nI 43) hx hb dX3_readRightSide_68 (by decide) ?_
          refine lv_icmp_eq (tgt := 100) hx hb dX3_readRightSide_70 (by decide) (fun c70 => ?_) (fun c70 => ?_)
          · have c70 : (p_at tx len cur9_11) = 43 := (nI_eq (a := (p_at tx len cur9_11)) (b := 43) (by first | omega | exact Nat.lt_of_le_of_lt Nat.and_le_right (by decide) | exact Nat.lt_trans (nm_lt _ _) (by decide) | exact Nat.lt_trans (np_lt _ _) (by decide) | exact Nat.lt_trans (p_at_lt htx) (by decide)) (by first | omega | exact Nat.lt_of_le_of_lt Nat.and_le_right (by decide) | exact Nat.lt_trans (nm_lt _ _) (by decide) | exact Nat.lt_trans (np_lt _ _) (by decide) | exact Nat.lt_trans (p_at_lt htx) (by decide))).mp c70
            refine lv_aload_n hx hb dX3_readRightSide_100 rfl (lv_at hl 2 rfl) ?_
            refine lv_dup hx hb dX3_readRightSide_101 rfl ?_
            refine va_get (D := D) (ci := 3) (v := .int (nI cur9_11)) (C := RX3) (T := TX3) (N := 5) hx hb hts hw1 hown hK hP 0 rfl rfl 4 (by decide) hw0 (fun _ h9 => h9) rfl dX3_readRightSide_102 ?_
            refine lv_iconst (v := nI 1) hx hb dX3_readRightSide_105 (by decide) ?_
            refine lv_iadd hx hb dX3_readRightSide_106 ?_
            refine lv_topi (nm_r (nI_add _ _) ?_)
            refine va_put (D := D) (ci := 3) (v := .int (nI (cur9_11 + 1))) (ty := .int) (C := RX3) (T := TX3) (N := 5) hx hb hts hw1 tyX3 tyX3_ok nmX3 hown hK hP hD hS 0 rfl rfl 4 (by decide) hw0 (fun _ h9 => h9) rfl (by decide +kernel) rfl rfl (Nat.le_of_ble_eq_true rfl) dX3_readRightSide_107 (fun H16 locs hP hD hS => ?_)
            have hP : va_P D vwCl [(pr, .inr (3, [.ref tp, .ref sp, .int (nI len), .int (nI sc), .int (nI (cur9_11 + 1))])), (tp, .inl (cY 1, 60, .inl (m_nf tx))), (q, .inr (5, [.int t, .int g, .int fi, .int se]))] H16 := hP
            have hD : va_D A [(pr, .inr (3, [.ref tp, .ref sp, .int (nI len), .int (nI sc), .int (nI (cur9_11 + 1))])), (tp, .inl (cY 1, 60, .inl (m_nf tx))), (q, .inr (5, [.int t, .int g, .int fi, .int se]))] := hD
            refine lv_aload_n hx hb dX3_readRightSide_110 rfl (lv_at hl 2 rfl) ?_
            refine m_callVi (As := []) (rest := []) C0 hl hP hD hS (c_X3_readOperand l D cY pr tp sp len sc (cur9_11 + 1) tx (by first | assumption | omega | exact nm_lt _ _ | exact np_lt _ _ | decide) (by first | assumption | omega | exact nm_lt _ _ | exact np_lt _ _ | decide) (p_at_in (tx := tx) (by omega))) (cwV 0 hts gX3_readRightSide_X3_readOperand rfl rfl rfl (by decide +kernel) ⟨Nat.le_of_ble_eq_true rfl, Nat.le_of_ble_eq_true rfl⟩) dX3_readRightSide_111 [0, 1] rfl rfl 0 rfl rfl rfl rfl (Nat.le_of_ble_eq_true rfl) (Nat.zero_le _) (Nat.zero_le _) (fun _ => rfl) (fun r19 u H17 locs hw hP hD hS => ?_)
            obtain ⟨cur9_18, rfl⟩ : ∃ z, z = u := ⟨_, rfl⟩
            try dsimp only at hw
            have hq20 := hw; clear hw
            have hP : va_P D vwCl [(pr, .inr (3, [.ref tp, .ref sp, .int (nI len), .int (nI sc), .int (nI cur9_18)])), (tp, .inl (cY 1, 60, .inl (m_nf tx))), (q, .inr (5, [.int t, .int g, .int fi, .int se]))] H17 := hP
            have hD : va_D A [(pr, .inr (3, [.ref tp, .ref sp, .int (nI len), .int (nI sc), .int (nI cur9_18)])), (tp, .inl (cY 1, 60, .inl (m_nf tx))), (q, .inr (5, [.int t, .int g, .int fi, .int se]))] := hD
            rcases hq20 with ⟨rfl, hw1, hw2⟩ | ⟨vw, rfl, hvw, hw1, hw2⟩
            · skip
              rw [hw2] at hP hD
              have hP : va_P D vwCl [(pr, .inr (3, [.ref tp, .ref sp, .int (nI len), .int (nI sc), .int (nI (cur9_11 + 1))])), (tp, .inl (cY 1, 60, .inl (m_nf tx))), (q, .inr (5, [.int t, .int g, .int fi, .int se]))] H17 := hP
              have hD : va_D A [(pr, .inr (3, [.ref tp, .ref sp, .int (nI len), .int (nI sc), .int (nI (cur9_11 + 1))])), (tp, .inl (cY 1, 60, .inl (m_nf tx))), (q, .inr (5, [.int t, .int g, .int fi, .int se]))] := hD
              refine lv_istore (lv' := [(4, .int (-1)), (2, .int (nI (p_at tx len cur9_11))), (3, .int (nI vb)), (0, .ref pr), (1, .ref q)]) hx hb dX3_readRightSide_114 hl (by decide) rfl (fun ls hl => ?_)
              refine lv_aload_n hx hb dX3_readRightSide_116 rfl (lv_at hl 4 rfl) ?_
              refine lv_iload_n hx hb dX3_readRightSide_117 rfl (lv_at hl 1 rfl) ?_
              refine lv_iload_n hx hb dX3_readRightSide_118 rfl (lv_at hl 2 rfl) ?_
              refine lv_iload hx hb dX3_readRightSide_119 (lv_at hl 0 rfl) ?_
              refine m_callVv (As := [.int (nI (p_at tx len cur9_11)), .int (nI vb), .int (-1)]) (rest := []) C0 hl hP hD hS (c_X5_setRightSide l D cY q t g fi se (p_at tx len cur9_11) (nI vb) (-1) (p_at_lt htx)) (cwV 3 hts gX3_readRightSide_X5_setRightSide rfl rfl rfl (by decide +kernel) ⟨Nat.le_of_ble_eq_true rfl, Nat.le_of_ble_eq_true rfl⟩) dX3_readRightSide_121 [2] rfl rfl 2 rfl rfl rfl rfl (Nat.le_of_ble_eq_true rfl) (Nat.zero_le _) (Nat.zero_le _) (fun _ => rfl) (fun u H21 locs hw hP hD hS => ?_)
              try dsimp only at hw
              clear hw
              have hP : va_P D vwCl [(pr, .inr (3, [.ref tp, .ref sp, .int (nI len), .int (nI sc), .int (nI (cur9_11 + 1))])), (tp, .inl (cY 1, 60, .inl (m_nf tx))), (q, .inr (5, [.int t, .int (nI (p_at tx len cur9_11)), .int (nI vb), .int (-1)]))] H21 := hP
              have hD : va_D A [(pr, .inr (3, [.ref tp, .ref sp, .int (nI len), .int (nI sc), .int (nI (cur9_11 + 1))])), (tp, .inl (cY 1, 60, .inl (m_nf tx))), (q, .inr (5, [.int t, .int (nI (p_at tx len cur9_11)), .int (nI vb), .int (-1)]))] := hD
              refine lv_iload hx hb dX3_readRightSide_124 (lv_at hl 0 rfl) ?_
              refine lv_iconst (v := (-1)) hx hb dX3_readRightSide_126 (by decide) ?_
              refine lv_icmp_eq (tgt := 134) hx hb dX3_readRightSide_127 (by decide) (fun c127 => ?_) (fun c127 => ?_)
              · have c127 := c127
                refine lv_iconst (v := nI 0) hx hb dX3_readRightSide_134 (by decide) ?_
                have hone : ¬ (p_at tx len cur = 126 ∨ p_at tx len cur = 37) := by omega
                have htwo : p_at tx len cur9_11 = 43 ∨ p_at tx len cur9_11 = 42 ∨ p_at tx len cur9_11 = 47 ∨ p_at tx len cur9_11 = 94 := by omega
                subst hQ
                exact m_zret C0 (by decide) hS dX3_readRightSide_135 (u := ((cur9_11 + 1), nI (p_at tx len cur9_11), nI vb, (-1))) hP (Or.inl ⟨rfl, by simp only [p_rhs, if_neg hone, hb1, if_pos htwo, hw1], p_at_in (tx := tx) (by omega)⟩)
              · have c127 := c127
                exfalso; exact c127 rfl
            · skip
              refine lv_istore (lv' := [(4, .int (nI vw)), (2, .int (nI (p_at tx len cur9_11))), (3, .int (nI vb)), (0, .ref pr), (1, .ref q)]) hx hb dX3_readRightSide_114 hl (by decide) rfl (fun ls hl => ?_)
              refine lv_aload_n hx hb dX3_readRightSide_116 rfl (lv_at hl 4 rfl) ?_
              refine lv_iload_n hx hb dX3_readRightSide_117 rfl (lv_at hl 1 rfl) ?_
              refine lv_iload_n hx hb dX3_readRightSide_118 rfl (lv_at hl 2 rfl) ?_
              refine lv_iload hx hb dX3_readRightSide_119 (lv_at hl 0 rfl) ?_
              refine m_callVv (As := [.int (nI (p_at tx len cur9_11)), .int (nI vb), .int (nI vw)]) (rest := []) C0 hl hP hD hS (c_X5_setRightSide l D cY q t g fi se (p_at tx len cur9_11) (nI vb) (nI vw) (p_at_lt htx)) (cwV 3 hts gX3_readRightSide_X5_setRightSide rfl rfl rfl (by decide +kernel) ⟨Nat.le_of_ble_eq_true rfl, Nat.le_of_ble_eq_true rfl⟩) dX3_readRightSide_121 [2] rfl rfl 2 rfl rfl rfl rfl (Nat.le_of_ble_eq_true rfl) (Nat.zero_le _) (Nat.zero_le _) (fun _ => rfl) (fun u H22 locs hw hP hD hS => ?_)
              try dsimp only at hw
              clear hw
              have hP : va_P D vwCl [(pr, .inr (3, [.ref tp, .ref sp, .int (nI len), .int (nI sc), .int (nI cur9_18)])), (tp, .inl (cY 1, 60, .inl (m_nf tx))), (q, .inr (5, [.int t, .int (nI (p_at tx len cur9_11)), .int (nI vb), .int (nI vw)]))] H22 := hP
              have hD : va_D A [(pr, .inr (3, [.ref tp, .ref sp, .int (nI len), .int (nI sc), .int (nI cur9_18)])), (tp, .inl (cY 1, 60, .inl (m_nf tx))), (q, .inr (5, [.int t, .int (nI (p_at tx len cur9_11)), .int (nI vb), .int (nI vw)]))] := hD
              refine lv_iload hx hb dX3_readRightSide_124 (lv_at hl 0 rfl) ?_
              refine lv_iconst (v := (-1)) hx hb dX3_readRightSide_126 (by decide) ?_
              refine lv_icmp_eq (tgt := 134) hx hb dX3_readRightSide_127 (by decide) (fun c127 => ?_) (fun c127 => ?_)
              · have c127 := c127
                exfalso; exact n_nem1 (by omega) c127
              · have c127 := c127
                refine lv_iconst (v := nI 1) hx hb dX3_readRightSide_130 (by decide) ?_
                refine lv_goto (tgt := 135) hx hb dX3_readRightSide_131 (by decide) ?_
                have hone : ¬ (p_at tx len cur = 126 ∨ p_at tx len cur = 37) := by omega
                have htwo : p_at tx len cur9_11 = 43 ∨ p_at tx len cur9_11 = 42 ∨ p_at tx len cur9_11 = 47 ∨ p_at tx len cur9_11 = 94 := by omega
                subst hQ
                exact m_zret C0 (by decide) hS dX3_readRightSide_135 (u := (cur9_18, nI (p_at tx len cur9_11), nI vb, nI vw)) hP (Or.inr ⟨_, vb, vw, rfl, by simp only [p_rhs, if_neg hone, hb1, if_pos htwo, hw1], rfl, rfl, rfl, p_at_lt htx, hvb, hvw, hw2⟩)
          · have c70 : ¬ ((p_at tx len cur9_11) = 43) := fun q => c70 ((nI_eq (a := (p_at tx len cur9_11)) (b := 43) (by first | omega | exact Nat.lt_of_le_of_lt Nat.and_le_right (by decide) | exact Nat.lt_trans (nm_lt _ _) (by decide) | exact Nat.lt_trans (np_lt _ _) (by decide) | exact Nat.lt_trans (p_at_lt htx) (by decide)) (by first | omega | exact Nat.lt_of_le_of_lt Nat.and_le_right (by decide) | exact Nat.lt_trans (nm_lt _ _) (by decide) | exact Nat.lt_trans (np_lt _ _) (by decide) | exact Nat.lt_trans (p_at_lt htx) (by decide))).mpr q)
            refine lv_iload_n hx hb dX3_readRightSide_73 rfl (lv_at hl 0 rfl) ?_
            refine lv_bipush (v := nI 42) hx hb dX3_readRightSide_74 (by decide) ?_
            refine lv_icmp_eq (tgt := 100) hx hb dX3_readRightSide_76 (by decide) (fun c76 => ?_) (fun c76 => ?_)
            · have c76 : (p_at tx len cur9_11) = 42 := (nI_eq (a := (p_at tx len cur9_11)) (b := 42) (by first | omega | exact Nat.lt_of_le_of_lt Nat.and_le_right (by decide) | exact Nat.lt_trans (nm_lt _ _) (by decide) | exact Nat.lt_trans (np_lt _ _) (by decide) | exact Nat.lt_trans (p_at_lt htx) (by decide)) (by first | omega | exact Nat.lt_of_le_of_lt Nat.and_le_right (by decide) | exact Nat.lt_trans (nm_lt _ _) (by decide) | exact Nat.lt_trans (np_lt _ _) (by decide) | exact Nat.lt_trans (p_at_lt htx) (by decide))).mp c76
              refine lv_aload_n hx hb dX3_readRightSide_100 rfl (lv_at hl 2 rfl) ?_
              refine lv_dup hx hb dX3_readRightSide_101 rfl ?_
              refine va_get (D := D) (ci := 3) (v := .int (nI cur9_11)) (C := RX3) (T := TX3) (N := 5) hx hb hts hw1 hown hK hP 0 rfl rfl 4 (by decide) hw0 (fun _ h9 => h9) rfl dX3_readRightSide_102 ?_
              refine lv_iconst (v := nI 1) hx hb dX3_readRightSide_105 (by decide) ?_
              refine lv_iadd hx hb dX3_readRightSide_106 ?_
              refine lv_topi (nm_r (nI_add _ _) ?_)
              refine va_put (D := D) (ci := 3) (v := .int (nI (cur9_11 + 1))) (ty := .int) (C := RX3) (T := TX3) (N := 5) hx hb hts hw1 tyX3 tyX3_ok nmX3 hown hK hP hD hS 0 rfl rfl 4 (by decide) hw0 (fun _ h9 => h9) rfl (by decide +kernel) rfl rfl (Nat.le_of_ble_eq_true rfl) dX3_readRightSide_107 (fun H23 locs hP hD hS => ?_)
              have hP : va_P D vwCl [(pr, .inr (3, [.ref tp, .ref sp, .int (nI len), .int (nI sc), .int (nI (cur9_11 + 1))])), (tp, .inl (cY 1, 60, .inl (m_nf tx))), (q, .inr (5, [.int t, .int g, .int fi, .int se]))] H23 := hP
              have hD : va_D A [(pr, .inr (3, [.ref tp, .ref sp, .int (nI len), .int (nI sc), .int (nI (cur9_11 + 1))])), (tp, .inl (cY 1, 60, .inl (m_nf tx))), (q, .inr (5, [.int t, .int g, .int fi, .int se]))] := hD
              refine lv_aload_n hx hb dX3_readRightSide_110 rfl (lv_at hl 2 rfl) ?_
              refine m_callVi (As := []) (rest := []) C0 hl hP hD hS (c_X3_readOperand l D cY pr tp sp len sc (cur9_11 + 1) tx (by first | assumption | omega | exact nm_lt _ _ | exact np_lt _ _ | decide) (by first | assumption | omega | exact nm_lt _ _ | exact np_lt _ _ | decide) (p_at_in (tx := tx) (by omega))) (cwV 0 hts gX3_readRightSide_X3_readOperand rfl rfl rfl (by decide +kernel) ⟨Nat.le_of_ble_eq_true rfl, Nat.le_of_ble_eq_true rfl⟩) dX3_readRightSide_111 [0, 1] rfl rfl 0 rfl rfl rfl rfl (Nat.le_of_ble_eq_true rfl) (Nat.zero_le _) (Nat.zero_le _) (fun _ => rfl) (fun r26 u H24 locs hw hP hD hS => ?_)
              obtain ⟨cur9_25, rfl⟩ : ∃ z, z = u := ⟨_, rfl⟩
              try dsimp only at hw
              have hq27 := hw; clear hw
              have hP : va_P D vwCl [(pr, .inr (3, [.ref tp, .ref sp, .int (nI len), .int (nI sc), .int (nI cur9_25)])), (tp, .inl (cY 1, 60, .inl (m_nf tx))), (q, .inr (5, [.int t, .int g, .int fi, .int se]))] H24 := hP
              have hD : va_D A [(pr, .inr (3, [.ref tp, .ref sp, .int (nI len), .int (nI sc), .int (nI cur9_25)])), (tp, .inl (cY 1, 60, .inl (m_nf tx))), (q, .inr (5, [.int t, .int g, .int fi, .int se]))] := hD
              rcases hq27 with ⟨rfl, hw1, hw2⟩ | ⟨vw, rfl, hvw, hw1, hw2⟩
              · skip
                rw [hw2] at hP hD
                have hP : va_P D vwCl [(pr, .inr (3, [.ref tp, .ref sp, .int (nI len), .int (nI sc), .int (nI (cur9_11 + 1))])), (tp, .inl (cY 1, 60, .inl (m_nf tx))), (q, .inr (5, [.int t, .int g, .int fi, .int se]))] H24 := hP
                have hD : va_D A [(pr, .inr (3, [.ref tp, .ref sp, .int (nI len), .int (nI sc), .int (nI (cur9_11 + 1))])), (tp, .inl (cY 1, 60, .inl (m_nf tx))), (q, .inr (5, [.int t, .int g, .int fi, .int se]))] := hD
                refine lv_istore (lv' := [(4, .int (-1)), (2, .int (nI (p_at tx len cur9_11))), (3, .int (nI vb)), (0, .ref pr), (1, .ref q)]) hx hb dX3_readRightSide_114 hl (by decide) rfl (fun ls hl => ?_)
                refine lv_aload_n hx hb dX3_readRightSide_116 rfl (lv_at hl 4 rfl) ?_
                refine lv_iload_n hx hb dX3_readRightSide_117 rfl (lv_at hl 1 rfl) ?_
                refine lv_iload_n hx hb dX3_readRightSide_118 rfl (lv_at hl 2 rfl) ?_
                refine lv_iload hx hb dX3_readRightSide_119 (lv_at hl 0 rfl) ?_
                refine m_callVv (As := [.int (nI (p_at tx len cur9_11)), .int (nI vb), .int (-1)]) (rest := []) C0 hl hP hD hS (c_X5_setRightSide l D cY q t g fi se (p_at tx len cur9_11) (nI vb) (-1) (p_at_lt htx)) (cwV 3 hts gX3_readRightSide_X5_setRightSide rfl rfl rfl (by decide +kernel) ⟨Nat.le_of_ble_eq_true rfl, Nat.le_of_ble_eq_true rfl⟩) dX3_readRightSide_121 [2] rfl rfl 2 rfl rfl rfl rfl (Nat.le_of_ble_eq_true rfl) (Nat.zero_le _) (Nat.zero_le _) (fun _ => rfl) (fun u H28 locs hw hP hD hS => ?_)
                try dsimp only at hw
                clear hw
                have hP : va_P D vwCl [(pr, .inr (3, [.ref tp, .ref sp, .int (nI len), .int (nI sc), .int (nI (cur9_11 + 1))])), (tp, .inl (cY 1, 60, .inl (m_nf tx))), (q, .inr (5, [.int t, .int (nI (p_at tx len cur9_11)), .int (nI vb), .int (-1)]))] H28 := hP
                have hD : va_D A [(pr, .inr (3, [.ref tp, .ref sp, .int (nI len), .int (nI sc), .int (nI (cur9_11 + 1))])), (tp, .inl (cY 1, 60, .inl (m_nf tx))), (q, .inr (5, [.int t, .int (nI (p_at tx len cur9_11)), .int (nI vb), .int (-1)]))] := hD
                refine lv_iload hx hb dX3_readRightSide_124 (lv_at hl 0 rfl) ?_
                refine lv_iconst (v := (-1)) hx hb dX3_readRightSide_126 (by decide) ?_
                refine lv_icmp_eq (tgt := 134) hx hb dX3_readRightSide_127 (by decide) (fun c127 => ?_) (fun c127 => ?_)
                · have c127 := c127
                  refine lv_iconst (v := nI 0) hx hb dX3_readRightSide_134 (by decide) ?_
                  have hone : ¬ (p_at tx len cur = 126 ∨ p_at tx len cur = 37) := by omega
                  have htwo : p_at tx len cur9_11 = 43 ∨ p_at tx len cur9_11 = 42 ∨ p_at tx len cur9_11 = 47 ∨ p_at tx len cur9_11 = 94 := by omega
                  subst hQ
                  exact m_zret C0 (by decide) hS dX3_readRightSide_135 (u := ((cur9_11 + 1), nI (p_at tx len cur9_11), nI vb, (-1))) hP (Or.inl ⟨rfl, by simp only [p_rhs, if_neg hone, hb1, if_pos htwo, hw1], p_at_in (tx := tx) (by omega)⟩)
                · have c127 := c127
                  exfalso; exact c127 rfl
              · skip
                refine lv_istore (lv' := [(4, .int (nI vw)), (2, .int (nI (p_at tx len cur9_11))), (3, .int (nI vb)), (0, .ref pr), (1, .ref q)]) hx hb dX3_readRightSide_114 hl (by decide) rfl (fun ls hl => ?_)
                refine lv_aload_n hx hb dX3_readRightSide_116 rfl (lv_at hl 4 rfl) ?_
                refine lv_iload_n hx hb dX3_readRightSide_117 rfl (lv_at hl 1 rfl) ?_
                refine lv_iload_n hx hb dX3_readRightSide_118 rfl (lv_at hl 2 rfl) ?_
                refine lv_iload hx hb dX3_readRightSide_119 (lv_at hl 0 rfl) ?_
                refine m_callVv (As := [.int (nI (p_at tx len cur9_11)), .int (nI vb), .int (nI vw)]) (rest := []) C0 hl hP hD hS (c_X5_setRightSide l D cY q t g fi se (p_at tx len cur9_11) (nI vb) (nI vw) (p_at_lt htx)) (cwV 3 hts gX3_readRightSide_X5_setRightSide rfl rfl rfl (by decide +kernel) ⟨Nat.le_of_ble_eq_true rfl, Nat.le_of_ble_eq_true rfl⟩) dX3_readRightSide_121 [2] rfl rfl 2 rfl rfl rfl rfl (Nat.le_of_ble_eq_true rfl) (Nat.zero_le _) (Nat.zero_le _) (fun _ => rfl) (fun u H29 locs hw hP hD hS => ?_)
                try dsimp only at hw
                clear hw
                have hP : va_P D vwCl [(pr, .inr (3, [.ref tp, .ref sp, .int (nI len), .int (nI sc), .int (nI cur9_25)])), (tp, .inl (cY 1, 60, .inl (m_nf tx))), (q, .inr (5, [.int t, .int (nI (p_at tx len cur9_11)), .int (nI vb), .int (nI vw)]))] H29 := hP
                have hD : va_D A [(pr, .inr (3, [.ref tp, .ref sp, .int (nI len), .int (nI sc), .int (nI cur9_25)])), (tp, .inl (cY 1, 60, .inl (m_nf tx))), (q, .inr (5, [.int t, .int (nI (p_at tx len cur9_11)), .int (nI vb), .int (nI vw)]))] := hD
                refine lv_iload hx hb dX3_readRightSide_124 (lv_at hl 0 rfl) ?_
                refine lv_iconst (v := (-1)) hx hb dX3_readRightSide_126 (by decide) ?_
                refine lv_icmp_eq (tgt := 134) hx hb dX3_readRightSide_127 (by decide) (fun c127 => ?_) (fun c127 => ?_)
                · have c127 := c127
                  exfalso; exact n_nem1 (by omega) c127
                · have c127 := c127
                  refine lv_iconst (v := nI 1) hx hb dX3_readRightSide_130 (by decide) ?_
                  refine lv_goto (tgt := 135) hx hb dX3_readRightSide_131 (by decide) ?_
                  have hone : ¬ (p_at tx len cur = 126 ∨ p_at tx len cur = 37) := by omega
                  have htwo : p_at tx len cur9_11 = 43 ∨ p_at tx len cur9_11 = 42 ∨ p_at tx len cur9_11 = 47 ∨ p_at tx len cur9_11 = 94 := by omega
                  subst hQ
                  exact m_zret C0 (by decide) hS dX3_readRightSide_135 (u := (cur9_25, nI (p_at tx len cur9_11), nI vb, nI vw)) hP (Or.inr ⟨_, vb, vw, rfl, by simp only [p_rhs, if_neg hone, hb1, if_pos htwo, hw1], rfl, rfl, rfl, p_at_lt htx, hvb, hvw, hw2⟩)
            · have c76 : ¬ ((p_at tx len cur9_11) = 42) := fun q => c76 ((nI_eq (a := (p_at tx len cur9_11)) (b := 42) (by first | omega | exact Nat.lt_of_le_of_lt Nat.and_le_right (by decide) | exact Nat.lt_trans (nm_lt _ _) (by decide) | exact Nat.lt_trans (np_lt _ _) (by decide) | exact Nat.lt_trans (p_at_lt htx) (by decide)) (by first | omega | exact Nat.lt_of_le_of_lt Nat.and_le_right (by decide) | exact Nat.lt_trans (nm_lt _ _) (by decide) | exact Nat.lt_trans (np_lt _ _) (by decide) | exact Nat.lt_trans (p_at_lt htx) (by decide))).mpr q)
              refine lv_iload_n hx hb dX3_readRightSide_79 rfl (lv_at hl 0 rfl) ?_
              refine lv_bipush (v := nI 47) hx hb dX3_readRightSide_80 (by decide) ?_
              refine lv_icmp_eq (tgt := 100) hx hb dX3_readRightSide_82 (by decide) (fun c82 => ?_) (fun c82 => ?_)
              · have c82 : (p_at tx len cur9_11) = 47 := (nI_eq (a := (p_at tx len cur9_11)) (b := 47) (by first | omega | exact Nat.lt_of_le_of_lt Nat.and_le_right (by decide) | exact Nat.lt_trans (nm_lt _ _) (by decide) | exact Nat.lt_trans (np_lt _ _) (by decide) | exact Nat.lt_trans (p_at_lt htx) (by decide)) (by first | omega | exact Nat.lt_of_le_of_lt Nat.and_le_right (by decide) | exact Nat.lt_trans (nm_lt _ _) (by decide) | exact Nat.lt_trans (np_lt _ _) (by decide) | exact Nat.lt_trans (p_at_lt htx) (by decide))).mp c82
                refine lv_aload_n hx hb dX3_readRightSide_100 rfl (lv_at hl 2 rfl) ?_
                refine lv_dup hx hb dX3_readRightSide_101 rfl ?_
                refine va_get (D := D) (ci := 3) (v := .int (nI cur9_11)) (C := RX3) (T := TX3) (N := 5) hx hb hts hw1 hown hK hP 0 rfl rfl 4 (by decide) hw0 (fun _ h9 => h9) rfl dX3_readRightSide_102 ?_
                refine lv_iconst (v := nI 1) hx hb dX3_readRightSide_105 (by decide) ?_
                refine lv_iadd hx hb dX3_readRightSide_106 ?_
                refine lv_topi (nm_r (nI_add _ _) ?_)
                refine va_put (D := D) (ci := 3) (v := .int (nI (cur9_11 + 1))) (ty := .int) (C := RX3) (T := TX3) (N := 5) hx hb hts hw1 tyX3 tyX3_ok nmX3 hown hK hP hD hS 0 rfl rfl 4 (by decide) hw0 (fun _ h9 => h9) rfl (by decide +kernel) rfl rfl (Nat.le_of_ble_eq_true rfl) dX3_readRightSide_107 (fun H30 locs hP hD hS => ?_)
                have hP : va_P D vwCl [(pr, .inr (3, [.ref tp, .ref sp, .int (nI len), .int (nI sc), .int (nI (cur9_11 + 1))])), (tp, .inl (cY 1, 60, .inl (m_nf tx))), (q, .inr (5, [.int t, .int g, .int fi, .int se]))] H30 := hP
                have hD : va_D A [(pr, .inr (3, [.ref tp, .ref sp, .int (nI len), .int (nI sc), .int (nI (cur9_11 + 1))])), (tp, .inl (cY 1, 60, .inl (m_nf tx))), (q, .inr (5, [.int t, .int g, .int fi, .int se]))] := hD
                refine lv_aload_n hx hb dX3_readRightSide_110 rfl (lv_at hl 2 rfl) ?_
                refine m_callVi (As := []) (rest := []) C0 hl hP hD hS (c_X3_readOperand l D cY pr tp sp len sc (cur9_11 + 1) tx (by first | assumption | omega | exact nm_lt _ _ | exact np_lt _ _ | decide) (by first | assumption | omega | exact nm_lt _ _ | exact np_lt _ _ | decide) (p_at_in (tx := tx) (by omega))) (cwV 0 hts gX3_readRightSide_X3_readOperand rfl rfl rfl (by decide +kernel) ⟨Nat.le_of_ble_eq_true rfl, Nat.le_of_ble_eq_true rfl⟩) dX3_readRightSide_111 [0, 1] rfl rfl 0 rfl rfl rfl rfl (Nat.le_of_ble_eq_true rfl) (Nat.zero_le _) (Nat.zero_le _) (fun _ => rfl) (fun r33 u H31 locs hw hP hD hS => ?_)
                obtain ⟨cur9_32, rfl⟩ : ∃ z, z = u := ⟨_, rfl⟩
                try dsimp only at hw
                have hq34 := hw; clear hw
                have hP : va_P D vwCl [(pr, .inr (3, [.ref tp, .ref sp, .int (nI len), .int (nI sc), .int (nI cur9_32)])), (tp, .inl (cY 1, 60, .inl (m_nf tx))), (q, .inr (5, [.int t, .int g, .int fi, .int se]))] H31 := hP
                have hD : va_D A [(pr, .inr (3, [.ref tp, .ref sp, .int (nI len), .int (nI sc), .int (nI cur9_32)])), (tp, .inl (cY 1, 60, .inl (m_nf tx))), (q, .inr (5, [.int t, .int g, .int fi, .int se]))] := hD
                rcases hq34 with ⟨rfl, hw1, hw2⟩ | ⟨vw, rfl, hvw, hw1, hw2⟩
                · skip
                  rw [hw2] at hP hD
                  have hP : va_P D vwCl [(pr, .inr (3, [.ref tp, .ref sp, .int (nI len), .int (nI sc), .int (nI (cur9_11 + 1))])), (tp, .inl (cY 1, 60, .inl (m_nf tx))), (q, .inr (5, [.int t, .int g, .int fi, .int se]))] H31 := hP
                  have hD : va_D A [(pr, .inr (3, [.ref tp, .ref sp, .int (nI len), .int (nI sc), .int (nI (cur9_11 + 1))])), (tp, .inl (cY 1, 60, .inl (m_nf tx))), (q, .inr (5, [.int t, .int g, .int fi, .int se]))] := hD
                  refine lv_istore (lv' := [(4, .int (-1)), (2, .int (nI (p_at tx len cur9_11))), (3, .int (nI vb)), (0, .ref pr), (1, .ref q)]) hx hb dX3_readRightSide_114 hl (by decide) rfl (fun ls hl => ?_)
                  refine lv_aload_n hx hb dX3_readRightSide_116 rfl (lv_at hl 4 rfl) ?_
                  refine lv_iload_n hx hb dX3_readRightSide_117 rfl (lv_at hl 1 rfl) ?_
                  refine lv_iload_n hx hb dX3_readRightSide_118 rfl (lv_at hl 2 rfl) ?_
                  refine lv_iload hx hb dX3_readRightSide_119 (lv_at hl 0 rfl) ?_
                  refine m_callVv (As := [.int (nI (p_at tx len cur9_11)), .int (nI vb), .int (-1)]) (rest := []) C0 hl hP hD hS (c_X5_setRightSide l D cY q t g fi se (p_at tx len cur9_11) (nI vb) (-1) (p_at_lt htx)) (cwV 3 hts gX3_readRightSide_X5_setRightSide rfl rfl rfl (by decide +kernel) ⟨Nat.le_of_ble_eq_true rfl, Nat.le_of_ble_eq_true rfl⟩) dX3_readRightSide_121 [2] rfl rfl 2 rfl rfl rfl rfl (Nat.le_of_ble_eq_true rfl) (Nat.zero_le _) (Nat.zero_le _) (fun _ => rfl) (fun u H35 locs hw hP hD hS => ?_)
                  try dsimp only at hw
                  clear hw
                  have hP : va_P D vwCl [(pr, .inr (3, [.ref tp, .ref sp, .int (nI len), .int (nI sc), .int (nI (cur9_11 + 1))])), (tp, .inl (cY 1, 60, .inl (m_nf tx))), (q, .inr (5, [.int t, .int (nI (p_at tx len cur9_11)), .int (nI vb), .int (-1)]))] H35 := hP
                  have hD : va_D A [(pr, .inr (3, [.ref tp, .ref sp, .int (nI len), .int (nI sc), .int (nI (cur9_11 + 1))])), (tp, .inl (cY 1, 60, .inl (m_nf tx))), (q, .inr (5, [.int t, .int (nI (p_at tx len cur9_11)), .int (nI vb), .int (-1)]))] := hD
                  refine lv_iload hx hb dX3_readRightSide_124 (lv_at hl 0 rfl) ?_
                  refine lv_iconst (v := (-1)) hx hb dX3_readRightSide_126 (by decide) ?_
                  refine lv_icmp_eq (tgt := 134) hx hb dX3_readRightSide_127 (by decide) (fun c127 => ?_) (fun c127 => ?_)
                  · have c127 := c127
                    refine lv_iconst (v := nI 0) hx hb dX3_readRightSide_134 (by decide) ?_
                    have hone : ¬ (p_at tx len cur = 126 ∨ p_at tx len cur = 37) := by omega
                    have htwo : p_at tx len cur9_11 = 43 ∨ p_at tx len cur9_11 = 42 ∨ p_at tx len cur9_11 = 47 ∨ p_at tx len cur9_11 = 94 := by omega
                    subst hQ
                    exact m_zret C0 (by decide) hS dX3_readRightSide_135 (u := ((cur9_11 + 1), nI (p_at tx len cur9_11), nI vb, (-1))) hP (Or.inl ⟨rfl, by simp only [p_rhs, if_neg hone, hb1, if_pos htwo, hw1], p_at_in (tx := tx) (by omega)⟩)
                  · have c127 := c127
                    exfalso; exact c127 rfl
                · skip
                  refine lv_istore (lv' := [(4, .int (nI vw)), (2, .int (nI (p_at tx len cur9_11))), (3, .int (nI vb)), (0, .ref pr), (1, .ref q)]) hx hb dX3_readRightSide_114 hl (by decide) rfl (fun ls hl => ?_)
                  refine lv_aload_n hx hb dX3_readRightSide_116 rfl (lv_at hl 4 rfl) ?_
                  refine lv_iload_n hx hb dX3_readRightSide_117 rfl (lv_at hl 1 rfl) ?_
                  refine lv_iload_n hx hb dX3_readRightSide_118 rfl (lv_at hl 2 rfl) ?_
                  refine lv_iload hx hb dX3_readRightSide_119 (lv_at hl 0 rfl) ?_
                  refine m_callVv (As := [.int (nI (p_at tx len cur9_11)), .int (nI vb), .int (nI vw)]) (rest := []) C0 hl hP hD hS (c_X5_setRightSide l D cY q t g fi se (p_at tx len cur9_11) (nI vb) (nI vw) (p_at_lt htx)) (cwV 3 hts gX3_readRightSide_X5_setRightSide rfl rfl rfl (by decide +kernel) ⟨Nat.le_of_ble_eq_true rfl, Nat.le_of_ble_eq_true rfl⟩) dX3_readRightSide_121 [2] rfl rfl 2 rfl rfl rfl rfl (Nat.le_of_ble_eq_true rfl) (Nat.zero_le _) (Nat.zero_le _) (fun _ => rfl) (fun u H36 locs hw hP hD hS => ?_)
                  try dsimp only at hw
                  clear hw
                  have hP : va_P D vwCl [(pr, .inr (3, [.ref tp, .ref sp, .int (nI len), .int (nI sc), .int (nI cur9_32)])), (tp, .inl (cY 1, 60, .inl (m_nf tx))), (q, .inr (5, [.int t, .int (nI (p_at tx len cur9_11)), .int (nI vb), .int (nI vw)]))] H36 := hP
                  have hD : va_D A [(pr, .inr (3, [.ref tp, .ref sp, .int (nI len), .int (nI sc), .int (nI cur9_32)])), (tp, .inl (cY 1, 60, .inl (m_nf tx))), (q, .inr (5, [.int t, .int (nI (p_at tx len cur9_11)), .int (nI vb), .int (nI vw)]))] := hD
                  refine lv_iload hx hb dX3_readRightSide_124 (lv_at hl 0 rfl) ?_
                  refine lv_iconst (v := (-1)) hx hb dX3_readRightSide_126 (by decide) ?_
                  refine lv_icmp_eq (tgt := 134) hx hb dX3_readRightSide_127 (by decide) (fun c127 => ?_) (fun c127 => ?_)
                  · have c127 := c127
                    exfalso; exact n_nem1 (by omega) c127
                  · have c127 := c127
                    refine lv_iconst (v := nI 1) hx hb dX3_readRightSide_130 (by decide) ?_
                    refine lv_goto (tgt := 135) hx hb dX3_readRightSide_131 (by decide) ?_
                    have hone : ¬ (p_at tx len cur = 126 ∨ p_at tx len cur = 37) := by omega
                    have htwo : p_at tx len cur9_11 = 43 ∨ p_at tx len cur9_11 = 42 ∨ p_at tx len cur9_11 = 47 ∨ p_at tx len cur9_11 = 94 := by omega
                    subst hQ
                    exact m_zret C0 (by decide) hS dX3_readRightSide_135 (u := (cur9_32, nI (p_at tx len cur9_11), nI vb, nI vw)) hP (Or.inr ⟨_, vb, vw, rfl, by simp only [p_rhs, if_neg hone, hb1, if_pos htwo, hw1], rfl, rfl, rfl, p_at_lt htx, hvb, hvw, hw2⟩)
              · have c82 : ¬ ((p_at tx len cur9_11) = 47) := fun q => c82 ((nI_eq (a := (p_at tx len cur9_11)) (b := 47) (by first | omega | exact Nat.lt_of_le_of_lt Nat.and_le_right (by decide) | exact Nat.lt_trans (nm_lt _ _) (by decide) | exact Nat.lt_trans (np_lt _ _) (by decide) | exact Nat.lt_trans (p_at_lt htx) (by decide)) (by first | omega | exact Nat.lt_of_le_of_lt Nat.and_le_right (by decide) | exact Nat.lt_trans (nm_lt _ _) (by decide) | exact Nat.lt_trans (np_lt _ _) (by decide) | exact Nat.lt_trans (p_at_lt htx) (by decide))).mpr q)
                refine lv_iload_n hx hb dX3_readRightSide_85 rfl (lv_at hl 0 rfl) ?_
                refine lv_bipush (v := nI 94) hx hb dX3_readRightSide_86 (by decide) ?_
                refine lv_icmp_eq (tgt := 100) hx hb dX3_readRightSide_88 (by decide) (fun c88 => ?_) (fun c88 => ?_)
                · have c88 : (p_at tx len cur9_11) = 94 := (nI_eq (a := (p_at tx len cur9_11)) (b := 94) (by first | omega | exact Nat.lt_of_le_of_lt Nat.and_le_right (by decide) | exact Nat.lt_trans (nm_lt _ _) (by decide) | exact Nat.lt_trans (np_lt _ _) (by decide) | exact Nat.lt_trans (p_at_lt htx) (by decide)) (by first | omega | exact Nat.lt_of_le_of_lt Nat.and_le_right (by decide) | exact Nat.lt_trans (nm_lt _ _) (by decide) | exact Nat.lt_trans (np_lt _ _) (by decide) | exact Nat.lt_trans (p_at_lt htx) (by decide))).mp c88
                  refine lv_aload_n hx hb dX3_readRightSide_100 rfl (lv_at hl 2 rfl) ?_
                  refine lv_dup hx hb dX3_readRightSide_101 rfl ?_
                  refine va_get (D := D) (ci := 3) (v := .int (nI cur9_11)) (C := RX3) (T := TX3) (N := 5) hx hb hts hw1 hown hK hP 0 rfl rfl 4 (by decide) hw0 (fun _ h9 => h9) rfl dX3_readRightSide_102 ?_
                  refine lv_iconst (v := nI 1) hx hb dX3_readRightSide_105 (by decide) ?_
                  refine lv_iadd hx hb dX3_readRightSide_106 ?_
                  refine lv_topi (nm_r (nI_add _ _) ?_)
                  refine va_put (D := D) (ci := 3) (v := .int (nI (cur9_11 + 1))) (ty := .int) (C := RX3) (T := TX3) (N := 5) hx hb hts hw1 tyX3 tyX3_ok nmX3 hown hK hP hD hS 0 rfl rfl 4 (by decide) hw0 (fun _ h9 => h9) rfl (by decide +kernel) rfl rfl (Nat.le_of_ble_eq_true rfl) dX3_readRightSide_107 (fun H37 locs hP hD hS => ?_)
                  have hP : va_P D vwCl [(pr, .inr (3, [.ref tp, .ref sp, .int (nI len), .int (nI sc), .int (nI (cur9_11 + 1))])), (tp, .inl (cY 1, 60, .inl (m_nf tx))), (q, .inr (5, [.int t, .int g, .int fi, .int se]))] H37 := hP
                  have hD : va_D A [(pr, .inr (3, [.ref tp, .ref sp, .int (nI len), .int (nI sc), .int (nI (cur9_11 + 1))])), (tp, .inl (cY 1, 60, .inl (m_nf tx))), (q, .inr (5, [.int t, .int g, .int fi, .int se]))] := hD
                  refine lv_aload_n hx hb dX3_readRightSide_110 rfl (lv_at hl 2 rfl) ?_
                  refine m_callVi (As := []) (rest := []) C0 hl hP hD hS (c_X3_readOperand l D cY pr tp sp len sc (cur9_11 + 1) tx (by first | assumption | omega | exact nm_lt _ _ | exact np_lt _ _ | decide) (by first | assumption | omega | exact nm_lt _ _ | exact np_lt _ _ | decide) (p_at_in (tx := tx) (by omega))) (cwV 0 hts gX3_readRightSide_X3_readOperand rfl rfl rfl (by decide +kernel) ⟨Nat.le_of_ble_eq_true rfl, Nat.le_of_ble_eq_true rfl⟩) dX3_readRightSide_111 [0, 1] rfl rfl 0 rfl rfl rfl rfl (Nat.le_of_ble_eq_true rfl) (Nat.zero_le _) (Nat.zero_le _) (fun _ => rfl) (fun r40 u H38 locs hw hP hD hS => ?_)
                  obtain ⟨cur9_39, rfl⟩ : ∃ z, z = u := ⟨_, rfl⟩
                  try dsimp only at hw
                  have hq41 := hw; clear hw
                  have hP : va_P D vwCl [(pr, .inr (3, [.ref tp, .ref sp, .int (nI len), .int (nI sc), .int (nI cur9_39)])), (tp, .inl (cY 1, 60, .inl (m_nf tx))), (q, .inr (5, [.int t, .int g, .int fi, .int se]))] H38 := hP
                  have hD : va_D A [(pr, .inr (3, [.ref tp, .ref sp, .int (nI len), .int (nI sc), .int (nI cur9_39)])), (tp, .inl (cY 1, 60, .inl (m_nf tx))), (q, .inr (5, [.int t, .int g, .int fi, .int se]))] := hD
                  rcases hq41 with ⟨rfl, hw1, hw2⟩ | ⟨vw, rfl, hvw, hw1, hw2⟩
                  · skip
                    rw [hw2] at hP hD
                    have hP : va_P D vwCl [(pr, .inr (3, [.ref tp, .ref sp, .int (nI len), .int (nI sc), .int (nI (cur9_11 + 1))])), (tp, .inl (cY 1, 60, .inl (m_nf tx))), (q, .inr (5, [.int t, .int g, .int fi, .int se]))] H38 := hP
                    have hD : va_D A [(pr, .inr (3, [.ref tp, .ref sp, .int (nI len), .int (nI sc), .int (nI (cur9_11 + 1))])), (tp, .inl (cY 1, 60, .inl (m_nf tx))), (q, .inr (5, [.int t, .int g, .int fi, .int se]))] := hD
                    refine lv_istore (lv' := [(4, .int (-1)), (2, .int (nI (p_at tx len cur9_11))), (3, .int (nI vb)), (0, .ref pr), (1, .ref q)]) hx hb dX3_readRightSide_114 hl (by decide) rfl (fun ls hl => ?_)
                    refine lv_aload_n hx hb dX3_readRightSide_116 rfl (lv_at hl 4 rfl) ?_
                    refine lv_iload_n hx hb dX3_readRightSide_117 rfl (lv_at hl 1 rfl) ?_
                    refine lv_iload_n hx hb dX3_readRightSide_118 rfl (lv_at hl 2 rfl) ?_
                    refine lv_iload hx hb dX3_readRightSide_119 (lv_at hl 0 rfl) ?_
                    refine m_callVv (As := [.int (nI (p_at tx len cur9_11)), .int (nI vb), .int (-1)]) (rest := []) C0 hl hP hD hS (c_X5_setRightSide l D cY q t g fi se (p_at tx len cur9_11) (nI vb) (-1) (p_at_lt htx)) (cwV 3 hts gX3_readRightSide_X5_setRightSide rfl rfl rfl (by decide +kernel) ⟨Nat.le_of_ble_eq_true rfl, Nat.le_of_ble_eq_true rfl⟩) dX3_readRightSide_121 [2] rfl rfl 2 rfl rfl rfl rfl (Nat.le_of_ble_eq_true rfl) (Nat.zero_le _) (Nat.zero_le _) (fun _ => rfl) (fun u H42 locs hw hP hD hS => ?_)
                    try dsimp only at hw
                    clear hw
                    have hP : va_P D vwCl [(pr, .inr (3, [.ref tp, .ref sp, .int (nI len), .int (nI sc), .int (nI (cur9_11 + 1))])), (tp, .inl (cY 1, 60, .inl (m_nf tx))), (q, .inr (5, [.int t, .int (nI (p_at tx len cur9_11)), .int (nI vb), .int (-1)]))] H42 := hP
                    have hD : va_D A [(pr, .inr (3, [.ref tp, .ref sp, .int (nI len), .int (nI sc), .int (nI (cur9_11 + 1))])), (tp, .inl (cY 1, 60, .inl (m_nf tx))), (q, .inr (5, [.int t, .int (nI (p_at tx len cur9_11)), .int (nI vb), .int (-1)]))] := hD
                    refine lv_iload hx hb dX3_readRightSide_124 (lv_at hl 0 rfl) ?_
                    refine lv_iconst (v := (-1)) hx hb dX3_readRightSide_126 (by decide) ?_
                    refine lv_icmp_eq (tgt := 134) hx hb dX3_readRightSide_127 (by decide) (fun c127 => ?_) (fun c127 => ?_)
                    · have c127 := c127
                      refine lv_iconst (v := nI 0) hx hb dX3_readRightSide_134 (by decide) ?_
                      have hone : ¬ (p_at tx len cur = 126 ∨ p_at tx len cur = 37) := by omega
                      have htwo : p_at tx len cur9_11 = 43 ∨ p_at tx len cur9_11 = 42 ∨ p_at tx len cur9_11 = 47 ∨ p_at tx len cur9_11 = 94 := by omega
                      subst hQ
                      exact m_zret C0 (by decide) hS dX3_readRightSide_135 (u := ((cur9_11 + 1), nI (p_at tx len cur9_11), nI vb, (-1))) hP (Or.inl ⟨rfl, by simp only [p_rhs, if_neg hone, hb1, if_pos htwo, hw1], p_at_in (tx := tx) (by omega)⟩)
                    · have c127 := c127
                      exfalso; exact c127 rfl
                  · skip
                    refine lv_istore (lv' := [(4, .int (nI vw)), (2, .int (nI (p_at tx len cur9_11))), (3, .int (nI vb)), (0, .ref pr), (1, .ref q)]) hx hb dX3_readRightSide_114 hl (by decide) rfl (fun ls hl => ?_)
                    refine lv_aload_n hx hb dX3_readRightSide_116 rfl (lv_at hl 4 rfl) ?_
                    refine lv_iload_n hx hb dX3_readRightSide_117 rfl (lv_at hl 1 rfl) ?_
                    refine lv_iload_n hx hb dX3_readRightSide_118 rfl (lv_at hl 2 rfl) ?_
                    refine lv_iload hx hb dX3_readRightSide_119 (lv_at hl 0 rfl) ?_
                    refine m_callVv (As := [.int (nI (p_at tx len cur9_11)), .int (nI vb), .int (nI vw)]) (rest := []) C0 hl hP hD hS (c_X5_setRightSide l D cY q t g fi se (p_at tx len cur9_11) (nI vb) (nI vw) (p_at_lt htx)) (cwV 3 hts gX3_readRightSide_X5_setRightSide rfl rfl rfl (by decide +kernel) ⟨Nat.le_of_ble_eq_true rfl, Nat.le_of_ble_eq_true rfl⟩) dX3_readRightSide_121 [2] rfl rfl 2 rfl rfl rfl rfl (Nat.le_of_ble_eq_true rfl) (Nat.zero_le _) (Nat.zero_le _) (fun _ => rfl) (fun u H43 locs hw hP hD hS => ?_)
                    try dsimp only at hw
                    clear hw
                    have hP : va_P D vwCl [(pr, .inr (3, [.ref tp, .ref sp, .int (nI len), .int (nI sc), .int (nI cur9_39)])), (tp, .inl (cY 1, 60, .inl (m_nf tx))), (q, .inr (5, [.int t, .int (nI (p_at tx len cur9_11)), .int (nI vb), .int (nI vw)]))] H43 := hP
                    have hD : va_D A [(pr, .inr (3, [.ref tp, .ref sp, .int (nI len), .int (nI sc), .int (nI cur9_39)])), (tp, .inl (cY 1, 60, .inl (m_nf tx))), (q, .inr (5, [.int t, .int (nI (p_at tx len cur9_11)), .int (nI vb), .int (nI vw)]))] := hD
                    refine lv_iload hx hb dX3_readRightSide_124 (lv_at hl 0 rfl) ?_
                    refine lv_iconst (v := (-1)) hx hb dX3_readRightSide_126 (by decide) ?_
                    refine lv_icmp_eq (tgt := 134) hx hb dX3_readRightSide_127 (by decide) (fun c127 => ?_) (fun c127 => ?_)
                    · have c127 := c127
                      exfalso; exact n_nem1 (by omega) c127
                    · have c127 := c127
                      refine lv_iconst (v := nI 1) hx hb dX3_readRightSide_130 (by decide) ?_
                      refine lv_goto (tgt := 135) hx hb dX3_readRightSide_131 (by decide) ?_
                      have hone : ¬ (p_at tx len cur = 126 ∨ p_at tx len cur = 37) := by omega
                      have htwo : p_at tx len cur9_11 = 43 ∨ p_at tx len cur9_11 = 42 ∨ p_at tx len cur9_11 = 47 ∨ p_at tx len cur9_11 = 94 := by omega
                      subst hQ
                      exact m_zret C0 (by decide) hS dX3_readRightSide_135 (u := (cur9_39, nI (p_at tx len cur9_11), nI vb, nI vw)) hP (Or.inr ⟨_, vb, vw, rfl, by simp only [p_rhs, if_neg hone, hb1, if_pos htwo, hw1], rfl, rfl, rfl, p_at_lt htx, hvb, hvw, hw2⟩)
                · have c88 : ¬ ((p_at tx len cur9_11) = 94) := fun q => c88 ((nI_eq (a := (p_at tx len cur9_11)) (b := 94) (by first | omega | exact Nat.lt_of_le_of_lt Nat.and_le_right (by decide) | exact Nat.lt_trans (nm_lt _ _) (by decide) | exact Nat.lt_trans (np_lt _ _) (by decide) | exact Nat.lt_trans (p_at_lt htx) (by decide)) (by first | omega | exact Nat.lt_of_le_of_lt Nat.and_le_right (by decide) | exact Nat.lt_trans (nm_lt _ _) (by decide) | exact Nat.lt_trans (np_lt _ _) (by decide) | exact Nat.lt_trans (p_at_lt htx) (by decide))).mpr q)
                  refine lv_aload_n hx hb dX3_readRightSide_91 rfl (lv_at hl 3 rfl) ?_
                  refine lv_iconst (v := nI 0) hx hb dX3_readRightSide_92 (by decide) ?_
                  refine lv_iload_n hx hb dX3_readRightSide_93 rfl (lv_at hl 1 rfl) ?_
                  refine lv_iconst (v := nI 0) hx hb dX3_readRightSide_94 (by decide) ?_
                  refine m_callVv (As := [.int (nI 0), .int (nI vb), .int (nI 0)]) (rest := []) C0 hl hP hD hS (c_X5_setRightSide l D cY q t g fi se 0 (nI vb) (nI 0) (by decide)) (cwV 3 hts gX3_readRightSide_X5_setRightSide rfl rfl rfl (by decide +kernel) ⟨Nat.le_of_ble_eq_true rfl, Nat.le_of_ble_eq_true rfl⟩) dX3_readRightSide_95 [2] rfl rfl 2 rfl rfl rfl rfl (Nat.le_of_ble_eq_true rfl) (Nat.zero_le _) (Nat.zero_le _) (fun _ => rfl) (fun u H44 locs hw hP hD hS => ?_)
                  try dsimp only at hw
                  clear hw
                  have hP : va_P D vwCl [(pr, .inr (3, [.ref tp, .ref sp, .int (nI len), .int (nI sc), .int (nI cur9_11)])), (tp, .inl (cY 1, 60, .inl (m_nf tx))), (q, .inr (5, [.int t, .int (nI 0), .int (nI vb), .int (nI 0)]))] H44 := hP
                  have hD : va_D A [(pr, .inr (3, [.ref tp, .ref sp, .int (nI len), .int (nI sc), .int (nI cur9_11)])), (tp, .inl (cY 1, 60, .inl (m_nf tx))), (q, .inr (5, [.int t, .int (nI 0), .int (nI vb), .int (nI 0)]))] := hD
                  refine lv_iconst (v := nI 1) hx hb dX3_readRightSide_98 (by decide) ?_
                  have hone : ¬ (p_at tx len cur = 126 ∨ p_at tx len cur = 37) := by omega
                  have htwo : ¬ (p_at tx len cur9_11 = 43 ∨ p_at tx len cur9_11 = 42 ∨ p_at tx len cur9_11 = 47 ∨ p_at tx len cur9_11 = 94) := by omega
                  subst hQ
                  exact m_zret C0 (by decide) hS dX3_readRightSide_99 (u := (cur9_11, nI 0, nI vb, nI 0)) hP (Or.inr ⟨0, vb, 0, rfl, by simp only [p_rhs, if_neg hone, hb1, if_neg htwo], rfl, rfl, rfl, by decide, hvb, by decide, hb2⟩)
        · have c57 := c57
          exfalso; exact n_nem1 (by omega) c57
    · have c14 : (p_at tx len cur) = 37 := (nI_eq (a := (p_at tx len cur)) (b := 37) (by first | omega | exact Nat.lt_of_le_of_lt Nat.and_le_right (by decide) | exact Nat.lt_trans (nm_lt _ _) (by decide) | exact Nat.lt_trans (np_lt _ _) (by decide) | exact Nat.lt_trans (p_at_lt htx) (by decide)) (by first | omega | exact Nat.lt_of_le_of_lt Nat.and_le_right (by decide) | exact Nat.lt_trans (nm_lt _ _) (by decide) | exact Nat.lt_trans (np_lt _ _) (by decide) | exact Nat.lt_trans (p_at_lt htx) (by decide))).mp c14
      refine lv_aload_n hx hb dX3_readRightSide_17 rfl (lv_at hl 1 rfl) ?_
      refine lv_dup hx hb dX3_readRightSide_18 rfl ?_
      refine va_get (D := D) (ci := 3) (v := .int (nI cur)) (C := RX3) (T := TX3) (N := 5) hx hb hts hw1 hown hK hP 0 rfl rfl 4 (by decide) hw0 (fun _ h9 => h9) rfl dX3_readRightSide_19 ?_
      refine lv_iconst (v := nI 1) hx hb dX3_readRightSide_22 (by decide) ?_
      refine lv_iadd hx hb dX3_readRightSide_23 ?_
      refine lv_topi (nm_r (nI_add _ _) ?_)
      refine va_put (D := D) (ci := 3) (v := .int (nI (cur + 1))) (ty := .int) (C := RX3) (T := TX3) (N := 5) hx hb hts hw1 tyX3 tyX3_ok nmX3 hown hK hP hD hS 0 rfl rfl 4 (by decide) hw0 (fun _ h9 => h9) rfl (by decide +kernel) rfl rfl (Nat.le_of_ble_eq_true rfl) dX3_readRightSide_24 (fun H45 locs hP hD hS => ?_)
      have hP : va_P D vwCl [(pr, .inr (3, [.ref tp, .ref sp, .int (nI len), .int (nI sc), .int (nI (cur + 1))])), (tp, .inl (cY 1, 60, .inl (m_nf tx))), (q, .inr (5, [.int t, .int g, .int fi, .int se]))] H45 := hP
      have hD : va_D A [(pr, .inr (3, [.ref tp, .ref sp, .int (nI len), .int (nI sc), .int (nI (cur + 1))])), (tp, .inl (cY 1, 60, .inl (m_nf tx))), (q, .inr (5, [.int t, .int g, .int fi, .int se]))] := hD
      refine lv_aload_n hx hb dX3_readRightSide_27 rfl (lv_at hl 1 rfl) ?_
      refine m_callVi (As := []) (rest := []) C0 hl hP hD hS (c_X3_readOperand l D cY pr tp sp len sc (cur + 1) tx (by first | assumption | omega | exact nm_lt _ _ | exact np_lt _ _ | decide) (by first | assumption | omega | exact nm_lt _ _ | exact np_lt _ _ | decide) (p_at_in (tx := tx) (by omega))) (cwV 0 hts gX3_readRightSide_X3_readOperand rfl rfl rfl (by decide +kernel) ⟨Nat.le_of_ble_eq_true rfl, Nat.le_of_ble_eq_true rfl⟩) dX3_readRightSide_28 [0, 1] rfl rfl 0 rfl rfl rfl rfl (Nat.le_of_ble_eq_true rfl) (Nat.zero_le _) (Nat.zero_le _) (fun _ => rfl) (fun r48 u H46 locs hw hP hD hS => ?_)
      obtain ⟨cur9_47, rfl⟩ : ∃ z, z = u := ⟨_, rfl⟩
      try dsimp only at hw
      have hq49 := hw; clear hw
      have hP : va_P D vwCl [(pr, .inr (3, [.ref tp, .ref sp, .int (nI len), .int (nI sc), .int (nI cur9_47)])), (tp, .inl (cY 1, 60, .inl (m_nf tx))), (q, .inr (5, [.int t, .int g, .int fi, .int se]))] H46 := hP
      have hD : va_D A [(pr, .inr (3, [.ref tp, .ref sp, .int (nI len), .int (nI sc), .int (nI cur9_47)])), (tp, .inl (cY 1, 60, .inl (m_nf tx))), (q, .inr (5, [.int t, .int g, .int fi, .int se]))] := hD
      rcases hq49 with ⟨rfl, ha1, ha2⟩ | ⟨va, rfl, hva, ha1, ha2⟩
      · skip
        rw [ha2] at hP hD
        have hP : va_P D vwCl [(pr, .inr (3, [.ref tp, .ref sp, .int (nI len), .int (nI sc), .int (nI (cur + 1))])), (tp, .inl (cY 1, 60, .inl (m_nf tx))), (q, .inr (5, [.int t, .int g, .int fi, .int se]))] H46 := hP
        have hD : va_D A [(pr, .inr (3, [.ref tp, .ref sp, .int (nI len), .int (nI sc), .int (nI (cur + 1))])), (tp, .inl (cY 1, 60, .inl (m_nf tx))), (q, .inr (5, [.int t, .int g, .int fi, .int se]))] := hD
        refine lv_istore_n (lv' := [(3, .int (-1)), (2, .int (nI (p_at tx len cur))), (0, .ref pr), (1, .ref q)]) hx hb dX3_readRightSide_31 rfl hl (by decide) rfl (fun ls hl => ?_)
        refine lv_aload_n hx hb dX3_readRightSide_32 rfl (lv_at hl 3 rfl) ?_
        refine lv_iload_n hx hb dX3_readRightSide_33 rfl (lv_at hl 1 rfl) ?_
        refine lv_iload_n hx hb dX3_readRightSide_34 rfl (lv_at hl 0 rfl) ?_
        refine lv_iconst (v := nI 0) hx hb dX3_readRightSide_35 (by decide) ?_
        refine m_callVv (As := [.int (nI (p_at tx len cur)), .int (-1), .int (nI 0)]) (rest := []) C0 hl hP hD hS (c_X5_setRightSide l D cY q t g fi se (p_at tx len cur) (-1) (nI 0) (p_at_lt htx)) (cwV 3 hts gX3_readRightSide_X5_setRightSide rfl rfl rfl (by decide +kernel) ⟨Nat.le_of_ble_eq_true rfl, Nat.le_of_ble_eq_true rfl⟩) dX3_readRightSide_36 [2] rfl rfl 2 rfl rfl rfl rfl (Nat.le_of_ble_eq_true rfl) (Nat.zero_le _) (Nat.zero_le _) (fun _ => rfl) (fun u H50 locs hw hP hD hS => ?_)
        try dsimp only at hw
        clear hw
        have hP : va_P D vwCl [(pr, .inr (3, [.ref tp, .ref sp, .int (nI len), .int (nI sc), .int (nI (cur + 1))])), (tp, .inl (cY 1, 60, .inl (m_nf tx))), (q, .inr (5, [.int t, .int (nI (p_at tx len cur)), .int (-1), .int (nI 0)]))] H50 := hP
        have hD : va_D A [(pr, .inr (3, [.ref tp, .ref sp, .int (nI len), .int (nI sc), .int (nI (cur + 1))])), (tp, .inl (cY 1, 60, .inl (m_nf tx))), (q, .inr (5, [.int t, .int (nI (p_at tx len cur)), .int (-1), .int (nI 0)]))] := hD
        refine lv_iload_n hx hb dX3_readRightSide_39 rfl (lv_at hl 0 rfl) ?_
        refine lv_iconst (v := (-1)) hx hb dX3_readRightSide_40 (by decide) ?_
        refine lv_icmp_eq (tgt := 48) hx hb dX3_readRightSide_41 (by decide) (fun c41 => ?_) (fun c41 => ?_)
        · have c41 := c41
          refine lv_iconst (v := nI 0) hx hb dX3_readRightSide_48 (by decide) ?_
          have hone : p_at tx len cur = 126 ∨ p_at tx len cur = 37 := by omega
          subst hQ
          exact m_zret C0 (by decide) hS dX3_readRightSide_49 (u := ((cur + 1), nI (p_at tx len cur), (-1), nI 0)) hP (Or.inl ⟨rfl, by simp only [p_rhs, if_pos hone, ha1], p_at_in (tx := tx) (by omega)⟩)
        · have c41 := c41
          exfalso; exact c41 rfl
      · skip
        refine lv_istore_n (lv' := [(3, .int (nI va)), (2, .int (nI (p_at tx len cur))), (0, .ref pr), (1, .ref q)]) hx hb dX3_readRightSide_31 rfl hl (by decide) rfl (fun ls hl => ?_)
        refine lv_aload_n hx hb dX3_readRightSide_32 rfl (lv_at hl 3 rfl) ?_
        refine lv_iload_n hx hb dX3_readRightSide_33 rfl (lv_at hl 1 rfl) ?_
        refine lv_iload_n hx hb dX3_readRightSide_34 rfl (lv_at hl 0 rfl) ?_
        refine lv_iconst (v := nI 0) hx hb dX3_readRightSide_35 (by decide) ?_
        refine m_callVv (As := [.int (nI (p_at tx len cur)), .int (nI va), .int (nI 0)]) (rest := []) C0 hl hP hD hS (c_X5_setRightSide l D cY q t g fi se (p_at tx len cur) (nI va) (nI 0) (p_at_lt htx)) (cwV 3 hts gX3_readRightSide_X5_setRightSide rfl rfl rfl (by decide +kernel) ⟨Nat.le_of_ble_eq_true rfl, Nat.le_of_ble_eq_true rfl⟩) dX3_readRightSide_36 [2] rfl rfl 2 rfl rfl rfl rfl (Nat.le_of_ble_eq_true rfl) (Nat.zero_le _) (Nat.zero_le _) (fun _ => rfl) (fun u H51 locs hw hP hD hS => ?_)
        try dsimp only at hw
        clear hw
        have hP : va_P D vwCl [(pr, .inr (3, [.ref tp, .ref sp, .int (nI len), .int (nI sc), .int (nI cur9_47)])), (tp, .inl (cY 1, 60, .inl (m_nf tx))), (q, .inr (5, [.int t, .int (nI (p_at tx len cur)), .int (nI va), .int (nI 0)]))] H51 := hP
        have hD : va_D A [(pr, .inr (3, [.ref tp, .ref sp, .int (nI len), .int (nI sc), .int (nI cur9_47)])), (tp, .inl (cY 1, 60, .inl (m_nf tx))), (q, .inr (5, [.int t, .int (nI (p_at tx len cur)), .int (nI va), .int (nI 0)]))] := hD
        refine lv_iload_n hx hb dX3_readRightSide_39 rfl (lv_at hl 0 rfl) ?_
        refine lv_iconst (v := (-1)) hx hb dX3_readRightSide_40 (by decide) ?_
        refine lv_icmp_eq (tgt := 48) hx hb dX3_readRightSide_41 (by decide) (fun c41 => ?_) (fun c41 => ?_)
        · have c41 := c41
          exfalso; exact n_nem1 (by omega) c41
        · have c41 := c41
          refine lv_iconst (v := nI 1) hx hb dX3_readRightSide_44 (by decide) ?_
          refine lv_goto (tgt := 49) hx hb dX3_readRightSide_45 (by decide) ?_
          have hone : p_at tx len cur = 126 ∨ p_at tx len cur = 37 := by omega
          subst hQ
          exact m_zret C0 (by decide) hS dX3_readRightSide_49 (u := (cur9_47, nI (p_at tx len cur), nI va, nI 0)) hP (Or.inr ⟨_, va, 0, rfl, by simp only [p_rhs, if_pos hone, ha1], rfl, rfl, rfl, p_at_lt htx, hva, by decide, ha2⟩)
