set_option maxHeartbeats 4000000 in
set_option maxRecDepth 100000 in
theorem c_X5_target (l : Launch) (D : va_G) (cY : Nat → ClassId) (a : Nat) (t g fi se : Int32)  : m_Mi l yX5_target wsX5_target 0 0 D cY [.ref a] [(a, .inr (5, [.int t, .int g, .int fi, .int se]))] (fun (res : Int32) (u : Unit) => res = t) (fun (u : Unit) => [(a, .inr (5, [.int t, .int g, .int fi, .int se]))]) := by
  refine m_enterI (cc := cX5_target) (maxL := 1) (ret := (some .int)) (by decide +kernel) rfl (Nat.le_of_ble_eq_true rfl) ?_
  intro p e s m below meth c A ls C0 hP hD hl
  obtain ⟨hx, hb, hr, hml, hts, hown, hlocks, hK, hA⟩ := id C0
  generalize hQ : MQ below _ _ s 0 0 A = Q
  have hS : va_S A s.heap s.heap [] := va_S.rf
  have hl : lv_has ls 1 [(0, .ref a)] := hl
  have hw0 := hts (.fieldLink RX5 9 "NimberField$Step" "target" "I") (by decide +kernel)
  have hw1 := (show ∀ w ∈ u_ws RX5 TX5 4, w ∈ wsX5_target from by decide +kernel)
  refine lv_aload_n hx hb dX5_target_0 rfl (lv_at hl 0 rfl) ?_
  refine va_get (D := D) (ci := 5) (v := .int t) (C := RX5) (T := TX5) (N := 4) hx hb hts hw1 hown hK hP 0 rfl rfl 0 (by decide) hw0 (fun _ h9 => h9) rfl dX5_target_1 ?_
  subst hQ
  exact m_iret C0 hS dX5_target_4 (u := ()) hP (by first | trivial | rfl | omega)
set_option maxHeartbeats 4000000 in
set_option maxRecDepth 100000 in
theorem c_X5_setTarget (l : Launch) (D : va_G) (cY : Nat → ClassId) (a : Nat) (t g fi se : Int32) (v : Int32)  : m_Mv l yX5_setTarget wsX5_setTarget 0 0 D cY [.ref a, .int v] [(a, .inr (5, [.int t, .int g, .int fi, .int se]))] (fun (u : Unit) => True) (fun (u : Unit) => [(a, .inr (5, [.int v, .int g, .int fi, .int se]))]) := by
  refine m_enterV (cc := cX5_setTarget) (maxL := 2) (ret := none) (by decide +kernel) rfl (Nat.le_of_ble_eq_true rfl) ?_
  intro p e s m below meth c A ls C0 hP hD hl
  obtain ⟨hx, hb, hr, hml, hts, hown, hlocks, hK, hA⟩ := id C0
  generalize hQ : MQ below _ _ s 0 0 A = Q
  have hS : va_S A s.heap s.heap [] := va_S.rf
  have hl : lv_has ls 2 [(0, .ref a), (1, .int v)] := hl
  have hw0 := hts (.fieldLink RX5 9 "NimberField$Step" "target" "I") (by decide +kernel)
  have hw1 := (show ∀ w ∈ u_ws RX5 TX5 4, w ∈ wsX5_setTarget from by decide +kernel)
  refine lv_aload_n hx hb dX5_setTarget_0 rfl (lv_at hl 0 rfl) ?_
  refine lv_iload_n hx hb dX5_setTarget_1 rfl (lv_at hl 1 rfl) ?_
  refine va_put (D := D) (ci := 5) (v := .int v) (ty := .int) (C := RX5) (T := TX5) (N := 4) hx hb hts hw1 tyX5 tyX5_ok nmX5 hown hK hP hD hS 0 rfl rfl 0 (by decide) hw0 (fun _ h9 => h9) rfl (by decide +kernel) rfl rfl (Nat.le_of_ble_eq_true rfl) dX5_setTarget_2 (fun H1 locs hP hD hS => ?_)
  have hP : va_P D vwCl [(a, .inr (5, [.int v, .int g, .int fi, .int se]))] H1 := hP
  have hD : va_D A [(a, .inr (5, [.int v, .int g, .int fi, .int se]))] := hD
  subst hQ
  exact m_vret C0 hS dX5_setTarget_5 (u := ()) hP (by first | trivial | rfl | omega)
set_option maxHeartbeats 4000000 in
set_option maxRecDepth 100000 in
theorem c_X5_setRightSide (l : Launch) (D : va_G) (cY : Nat → ClassId) (a : Nat) (t g fi se : Int32) (k : Nat) (v w : Int32) (hk : k < 65536) : m_Mv l yX5_setRightSide wsX5_setRightSide 0 0 D cY [.ref a, .int (nI k), .int v, .int w] [(a, .inr (5, [.int t, .int g, .int fi, .int se]))] (fun (u : Unit) => True) (fun (u : Unit) => [(a, .inr (5, [.int t, .int (nI k), .int v, .int w]))]) := by
  refine m_enterV (cc := cX5_setRightSide) (maxL := 4) (ret := none) (by decide +kernel) rfl (Nat.le_of_ble_eq_true rfl) ?_
  intro p e s m below meth c A ls C0 hP hD hl
  obtain ⟨hx, hb, hr, hml, hts, hown, hlocks, hK, hA⟩ := id C0
  generalize hQ : MQ below _ _ s 0 0 A = Q
  have hS : va_S A s.heap s.heap [] := va_S.rf
  have hl : lv_has ls 4 [(0, .ref a), (1, .int (nI k)), (2, .int v), (3, .int w)] := hl
  have hw0 := hts (.fieldLink RX5 15 "NimberField$Step" "sign" "C") (by decide +kernel)
  have hw1 := (show ∀ w ∈ u_ws RX5 TX5 4, w ∈ wsX5_setRightSide from by decide +kernel)
  have hw2 := hts (.fieldLink RX5 19 "NimberField$Step" "first" "I") (by decide +kernel)
  have hw3 := hts (.fieldLink RX5 22 "NimberField$Step" "second" "I") (by decide +kernel)
  refine lv_aload_n hx hb dX5_setRightSide_0 rfl (lv_at hl 0 rfl) ?_
  refine lv_iload_n hx hb dX5_setRightSide_1 rfl (lv_at hl 1 rfl) ?_
  refine va_put (D := D) (ci := 5) (v := .int (nI k)) (ty := .char) (C := RX5) (T := TX5) (N := 4) hx hb hts hw1 tyX5 tyX5_ok nmX5 hown hK hP hD hS 0 rfl rfl 1 (by decide) hw0 (fun _ h9 => h9) rfl (by decide +kernel) (pk_charN (by omega)).1 (pk_charN (by omega)).2 (Nat.le_of_ble_eq_true rfl) dX5_setRightSide_2 (fun H1 locs hP hD hS => ?_)
  have hP : va_P D vwCl [(a, .inr (5, [.int t, .int (nI k), .int fi, .int se]))] H1 := hP
  have hD : va_D A [(a, .inr (5, [.int t, .int (nI k), .int fi, .int se]))] := hD
  refine lv_aload_n hx hb dX5_setRightSide_5 rfl (lv_at hl 0 rfl) ?_
  refine lv_iload_n hx hb dX5_setRightSide_6 rfl (lv_at hl 2 rfl) ?_
  refine va_put (D := D) (ci := 5) (v := .int v) (ty := .int) (C := RX5) (T := TX5) (N := 4) hx hb hts hw1 tyX5 tyX5_ok nmX5 hown hK hP hD hS 0 rfl rfl 2 (by decide) hw2 (fun _ h9 => h9) rfl (by decide +kernel) rfl rfl (Nat.le_of_ble_eq_true rfl) dX5_setRightSide_7 (fun H2 locs hP hD hS => ?_)
  have hP : va_P D vwCl [(a, .inr (5, [.int t, .int (nI k), .int v, .int se]))] H2 := hP
  have hD : va_D A [(a, .inr (5, [.int t, .int (nI k), .int v, .int se]))] := hD
  refine lv_aload_n hx hb dX5_setRightSide_10 rfl (lv_at hl 0 rfl) ?_
  refine lv_iload_n hx hb dX5_setRightSide_11 rfl (lv_at hl 3 rfl) ?_
  refine va_put (D := D) (ci := 5) (v := .int w) (ty := .int) (C := RX5) (T := TX5) (N := 4) hx hb hts hw1 tyX5 tyX5_ok nmX5 hown hK hP hD hS 0 rfl rfl 3 (by decide) hw3 (fun _ h9 => h9) rfl (by decide +kernel) rfl rfl (Nat.le_of_ble_eq_true rfl) dX5_setRightSide_12 (fun H3 locs hP hD hS => ?_)
  have hP : va_P D vwCl [(a, .inr (5, [.int t, .int (nI k), .int v, .int w]))] H3 := hP
  have hD : va_D A [(a, .inr (5, [.int t, .int (nI k), .int v, .int w]))] := hD
  subst hQ
  exact m_vret C0 hS dX5_setRightSide_15 (u := ()) hP (by first | trivial | rfl | omega)
set_option maxHeartbeats 4000000 in
set_option maxRecDepth 100000 in
theorem c_X5_valueOf (l : Launch) (D : va_G) (cY : Nat → ClassId) (sa sb cnt : Nat) (f : Nat → Nat) (op : Nat) (hop : op < 65544) : m_Mi l yX5_valueOf wsX5_valueOf 1 21 D cY [.int (nI op), .ref sa] [(sa, .inr (4, [.ref sb, .int (nI cnt)])), (sb, .inl (cY 0, 8, .inl (m_nf f)))] (fun (res : Int32) (u : Unit) => res = nI (p_val op f)) (fun (u : Unit) => [(sa, .inr (4, [.ref sb, .int (nI cnt)])), (sb, .inl (cY 0, 8, .inl (m_nf f)))]) := by
  refine m_enterI (cc := cX5_valueOf) (maxL := 2) (ret := (some .int)) (by decide +kernel) rfl (Nat.le_of_ble_eq_true rfl) ?_
  intro p e s m below meth c A ls C0 hP hD hl
  obtain ⟨hx, hb, hr, hml, hts, hown, hlocks, hK, hA⟩ := id C0
  generalize hQ : MQ below _ _ s 0 0 A = Q
  have hS : va_S A s.heap s.heap [] := va_S.rf
  have hl : lv_has ls 2 [(0, .int (nI op)), (1, .ref sa)] := hl
  have hw0 := hts (.constant RX5 42 (65536)) (by decide +kernel)
  refine lv_iload_n hx hb dX5_valueOf_0 rfl (lv_at hl 0 rfl) ?_
  refine lv_ldc hx hb hown hw0 dX5_valueOf_1 ?_
  refine lv_topi (nm_r (show ((65536 : Int32)) = nI 65536 from by decide) ?_)
  refine lv_icmp_ge (tgt := 10) hx hb dX5_valueOf_3 (by decide) (fun c3 => ?_) (fun c3 => ?_)
  · have c3 : 65536 ≤ op := (nI_leI (a := 65536) (b := op) (by first | omega | exact Nat.lt_of_le_of_lt Nat.and_le_right (by decide) | exact Nat.lt_trans (nm_lt _ _) (by decide) | exact Nat.lt_trans (np_lt _ _) (by decide) | exact Nat.lt_trans (p_at_lt htx) (by decide)) (by first | omega | exact Nat.lt_of_le_of_lt Nat.and_le_right (by decide) | exact Nat.lt_trans (nm_lt _ _) (by decide) | exact Nat.lt_trans (np_lt _ _) (by decide) | exact Nat.lt_trans (p_at_lt htx) (by decide))).mp c3
    refine lv_aload_n hx hb dX5_valueOf_10 rfl (lv_at hl 1 rfl) ?_
    refine lv_iload_n hx hb dX5_valueOf_11 rfl (lv_at hl 0 rfl) ?_
    refine lv_ldc hx hb hown hw0 dX5_valueOf_12 ?_
    refine lv_topi (nm_r (show ((65536 : Int32)) = nI 65536 from by decide) ?_)
    obtain ⟨rx, hrx⟩ : ∃ z, z = op - 65536 := ⟨_, rfl⟩
    refine lv_isub hx hb dX5_valueOf_14 ?_
    refine lv_topi (nm_r ((pk_sub (by omega)).trans (congrArg nI hrx.symm)) ?_)
    refine m_callVi (As := [.int (nI rx)]) (rest := []) C0 hl hP hD hS (c_X4_nimberIn l D cY sa sb cnt f rx (by first | assumption | omega | exact nm_lt _ _ | exact np_lt _ _ | decide)) (cwV 1 hts gX5_valueOf_X4_nimberIn rfl rfl rfl (by decide +kernel) ⟨Nat.le_of_ble_eq_true rfl, Nat.le_of_ble_eq_true rfl⟩) dX5_valueOf_15 [0, 1] rfl rfl 0 rfl rfl rfl rfl (Nat.le_of_ble_eq_true rfl) (Nat.zero_le _) (Nat.zero_le _) (fun _ => rfl) (fun r2 u H1 locs hw hP hD hS => ?_)
    try dsimp only at hw
    obtain rfl := hw
    have hP : va_P D vwCl [(sa, .inr (4, [.ref sb, .int (nI cnt)])), (sb, .inl (cY 0, 8, .inl (m_nf f)))] H1 := hP
    have hD : va_D A [(sa, .inr (4, [.ref sb, .int (nI cnt)])), (sb, .inl (cY 0, 8, .inl (m_nf f)))] := hD
    subst hQ
    exact m_iret C0 hS dX5_valueOf_18 (u := ()) hP (by rw [p_val]; first | rw [if_pos (by omega)] | rw [if_neg (by omega), ← hrx])
  · have c3 : ¬ (65536 ≤ op) := fun q => c3 ((nI_leI (a := 65536) (b := op) (by first | omega | exact Nat.lt_of_le_of_lt Nat.and_le_right (by decide) | exact Nat.lt_trans (nm_lt _ _) (by decide) | exact Nat.lt_trans (np_lt _ _) (by decide) | exact Nat.lt_trans (p_at_lt htx) (by decide)) (by first | omega | exact Nat.lt_of_le_of_lt Nat.and_le_right (by decide) | exact Nat.lt_trans (nm_lt _ _) (by decide) | exact Nat.lt_trans (np_lt _ _) (by decide) | exact Nat.lt_trans (p_at_lt htx) (by decide))).mpr q)
    refine lv_iload_n hx hb dX5_valueOf_6 rfl (lv_at hl 0 rfl) ?_
    refine lv_goto (tgt := 18) hx hb dX5_valueOf_7 (by decide) ?_
    subst hQ
    exact m_iret C0 hS dX5_valueOf_18 (u := ()) hP (by rw [p_val]; first | rw [if_pos (by omega)] | rw [if_neg (by omega), ← hrx])
set_option maxHeartbeats 4000000 in
set_option maxRecDepth 100000 in
theorem c_X5_resultOf (l : Launch) (D : va_G) (cY : Nat → ClassId) (a na nb : Nat) (t fi se : Int32) (bp : Nat → Nat) (sg lf ri : Nat) (hsg : sg < 65536) (hlf : lf < 65536) (hri : ri < 65536) (hB : n_bp bp) : m_Mi l yX5_resultOf wsX5_resultOf 2 50 D cY [.ref a, .int (nI lf), .int (nI ri), .ref na] [(a, .inr (5, [.int t, .int (nI sg), .int fi, .int se])), (na, .inr (2, [.ref nb])), (nb, .inl (cY 0, 256, .inl (m_nf bp)))] (fun (res : Int32) (u : Unit) => res = p_resI (p_res sg lf ri)) (fun (u : Unit) => [(a, .inr (5, [.int t, .int (nI sg), .int fi, .int se])), (na, .inr (2, [.ref nb])), (nb, .inl (cY 0, 256, .inl (m_nf bp)))]) := by
  refine m_enterI (cc := cX5_resultOf) (maxL := 4) (ret := (some .int)) (by decide +kernel) rfl (Nat.le_of_ble_eq_true rfl) ?_
  intro p e s m below meth c A ls C0 hP hD hl
  obtain ⟨hx, hb, hr, hml, hts, hown, hlocks, hK, hA⟩ := id C0
  generalize hQ : MQ below _ _ s 0 0 A = Q
  have hS : va_S A s.heap s.heap [] := va_S.rf
  have hl : lv_has ls 4 [(0, .ref a), (1, .int (nI lf)), (2, .int (nI ri)), (3, .ref na)] := hl
  have hw0 := hts (.fieldLink RX5 15 "NimberField$Step" "sign" "C") (by decide +kernel)
  have hw1 := (show ∀ w ∈ u_ws RX5 TX5 4, w ∈ wsX5_resultOf from by decide +kernel)
  refine lv_aload_n hx hb dX5_resultOf_0 rfl (lv_at hl 0 rfl) ?_
  refine va_get (D := D) (ci := 5) (v := .int (nI sg)) (C := RX5) (T := TX5) (N := 4) hx hb hts hw1 hown hK hP 0 rfl rfl 1 (by decide) hw0 (fun _ h9 => h9) rfl dX5_resultOf_1 ?_
  rcases (show sg = 37 ∨ sg = 42 ∨ sg = 43 ∨ sg = 47 ∨ sg = 94 ∨ sg = 126 ∨ (¬ sg = 37 ∧ ¬ sg = 42 ∧ ¬ sg = 43 ∧ ¬ sg = 47 ∧ ¬ sg = 94 ∧ ¬ sg = 126) from by omega) with hs | hs | hs | hs | hs | hs | hs
  · subst hs
    refine lv_lookup (tgt := 71) hx hb dX5_resultOf_4 (by decide +kernel) (off := 67) (by decide +kernel) (by decide) ?_
    refine lv_aload_n hx hb dX5_resultOf_71 rfl (lv_at hl 3 rfl) ?_
    refine lv_iload_n hx hb dX5_resultOf_72 rfl (lv_at hl 1 rfl) ?_
    refine m_callVi (As := [.int (nI lf)]) (rest := []) C0 hl hP hD hS (c_X2_root l D cY na nb bp lf (by first | assumption | omega | exact nm_lt _ _ | exact np_lt _ _ | decide) (by first | assumption | omega | exact nm_lt _ _ | exact np_lt _ _ | decide)) (cwV 1 hts gX5_resultOf_X2_root rfl rfl rfl (by decide +kernel) ⟨Nat.le_of_ble_eq_true rfl, Nat.le_of_ble_eq_true rfl⟩) dX5_resultOf_73 [1, 2] rfl rfl 1 rfl rfl rfl rfl (Nat.le_of_ble_eq_true rfl) (Nat.zero_le _) (Nat.zero_le _) (fun _ => rfl) (fun r2 u H1 locs hw hP hD hS => ?_)
    try dsimp only at hw
    obtain rfl := hw
    have hP : va_P D vwCl [(a, .inr (5, [.int t, .int (nI 37), .int fi, .int se])), (na, .inr (2, [.ref nb])), (nb, .inl (cY 0, 256, .inl (m_nf bp)))] H1 := hP
    have hD : va_D A [(a, .inr (5, [.int t, .int (nI 37), .int fi, .int se])), (na, .inr (2, [.ref nb])), (nb, .inl (cY 0, 256, .inl (m_nf bp)))] := hD
    subst hQ
    exact m_iret C0 hS dX5_resultOf_76 (u := ()) hP (by simp (config := { decide := true }) only [p_res, n_div, if_true, if_false]; first | rfl | (split <;> rfl))
  · subst hs
    refine lv_lookup (tgt := 81) hx hb dX5_resultOf_4 (by decide +kernel) (off := 77) (by decide +kernel) (by decide) ?_
    refine lv_aload_n hx hb dX5_resultOf_81 rfl (lv_at hl 3 rfl) ?_
    refine lv_iload_n hx hb dX5_resultOf_82 rfl (lv_at hl 1 rfl) ?_
    refine lv_iload_n hx hb dX5_resultOf_83 rfl (lv_at hl 2 rfl) ?_
    refine m_callVi (As := [.int (nI lf), .int (nI ri)]) (rest := []) C0 hl hP hD hS (c_X2_times l D cY na nb bp lf ri (by first | assumption | omega | exact nm_lt _ _ | exact np_lt _ _ | decide) (by first | assumption | omega | exact nm_lt _ _ | exact np_lt _ _ | decide) (by first | assumption | omega | exact nm_lt _ _ | exact np_lt _ _ | decide)) (cwV 2 hts gX5_resultOf_X2_times rfl rfl rfl (by decide +kernel) ⟨Nat.le_of_ble_eq_true rfl, Nat.le_of_ble_eq_true rfl⟩) dX5_resultOf_84 [1, 2] rfl rfl 1 rfl rfl rfl rfl (Nat.le_of_ble_eq_true rfl) (Nat.zero_le _) (Nat.zero_le _) (fun _ => rfl) (fun r4 u H3 locs hw hP hD hS => ?_)
    try dsimp only at hw
    obtain rfl := hw
    have hP : va_P D vwCl [(a, .inr (5, [.int t, .int (nI 42), .int fi, .int se])), (na, .inr (2, [.ref nb])), (nb, .inl (cY 0, 256, .inl (m_nf bp)))] H3 := hP
    have hD : va_D A [(a, .inr (5, [.int t, .int (nI 42), .int fi, .int se])), (na, .inr (2, [.ref nb])), (nb, .inl (cY 0, 256, .inl (m_nf bp)))] := hD
    subst hQ
    exact m_iret C0 hS dX5_resultOf_87 (u := ()) hP (by simp (config := { decide := true }) only [p_res, n_div, if_true, if_false]; first | rfl | (split <;> rfl))
  · subst hs
    refine lv_lookup (tgt := 77) hx hb dX5_resultOf_4 (by decide +kernel) (off := 73) (by decide +kernel) (by decide) ?_
    refine lv_iload_n hx hb dX5_resultOf_77 rfl (lv_at hl 1 rfl) ?_
    refine lv_iload_n hx hb dX5_resultOf_78 rfl (lv_at hl 2 rfl) ?_
    refine lv_ixor hx hb dX5_resultOf_79 ?_
    refine lv_topi (nm_r (nx_xor _ _) ?_)
    subst hQ
    exact m_iret C0 hS dX5_resultOf_80 (u := ()) hP (by simp (config := { decide := true }) only [p_res, n_div, if_true, if_false]; first | rfl | (split <;> rfl))
  · subst hs
    refine lv_lookup (tgt := 88) hx hb dX5_resultOf_4 (by decide +kernel) (off := 84) (by decide +kernel) (by decide) ?_
    refine lv_aload_n hx hb dX5_resultOf_88 rfl (lv_at hl 3 rfl) ?_
    refine lv_iload_n hx hb dX5_resultOf_89 rfl (lv_at hl 1 rfl) ?_
    refine lv_iload_n hx hb dX5_resultOf_90 rfl (lv_at hl 2 rfl) ?_
    refine m_callVi (As := [.int (nI lf), .int (nI ri)]) (rest := []) C0 hl hP hD hS (c_X2_dividedBy l D cY na nb bp lf ri (by first | assumption | omega | exact nm_lt _ _ | exact np_lt _ _ | decide) (by first | assumption | omega | exact nm_lt _ _ | exact np_lt _ _ | decide) (by first | assumption | omega | exact nm_lt _ _ | exact np_lt _ _ | decide)) (cwV 2 hts gX5_resultOf_X2_dividedBy rfl rfl rfl (by decide +kernel) ⟨Nat.le_of_ble_eq_true rfl, Nat.le_of_ble_eq_true rfl⟩) dX5_resultOf_91 [1, 2] rfl rfl 1 rfl rfl rfl rfl (Nat.le_of_ble_eq_true rfl) (Nat.zero_le _) (Nat.zero_le _) (fun _ => rfl) (fun r6 u H5 locs hw hP hD hS => ?_)
    try dsimp only at hw
    obtain rfl := hw
    have hP : va_P D vwCl [(a, .inr (5, [.int t, .int (nI 47), .int fi, .int se])), (na, .inr (2, [.ref nb])), (nb, .inl (cY 0, 256, .inl (m_nf bp)))] H5 := hP
    have hD : va_D A [(a, .inr (5, [.int t, .int (nI 47), .int fi, .int se])), (na, .inr (2, [.ref nb])), (nb, .inl (cY 0, 256, .inl (m_nf bp)))] := hD
    subst hQ
    exact m_iret C0 hS dX5_resultOf_94 (u := ()) hP (by simp (config := { decide := true }) only [p_res, n_div, if_true, if_false]; first | rfl | (split <;> rfl))
  · subst hs
    refine lv_lookup (tgt := 95) hx hb dX5_resultOf_4 (by decide +kernel) (off := 91) (by decide +kernel) (by decide) ?_
    refine lv_aload_n hx hb dX5_resultOf_95 rfl (lv_at hl 3 rfl) ?_
    refine lv_iload_n hx hb dX5_resultOf_96 rfl (lv_at hl 1 rfl) ?_
    refine lv_iload_n hx hb dX5_resultOf_97 rfl (lv_at hl 2 rfl) ?_
    refine m_callVi (As := [.int (nI lf), .int (nI ri)]) (rest := []) C0 hl hP hD hS (c_X2_raised l D cY na nb bp lf ri (by first | assumption | omega | exact nm_lt _ _ | exact np_lt _ _ | decide) (by first | assumption | omega | exact nm_lt _ _ | exact np_lt _ _ | decide) (by first | assumption | omega | exact nm_lt _ _ | exact np_lt _ _ | decide)) (cwV 2 hts gX5_resultOf_X2_raised rfl rfl rfl (by decide +kernel) ⟨Nat.le_of_ble_eq_true rfl, Nat.le_of_ble_eq_true rfl⟩) dX5_resultOf_98 [1, 2] rfl rfl 1 rfl rfl rfl rfl (Nat.le_of_ble_eq_true rfl) (Nat.zero_le _) (Nat.zero_le _) (fun _ => rfl) (fun r8 u H7 locs hw hP hD hS => ?_)
    try dsimp only at hw
    obtain rfl := hw
    have hP : va_P D vwCl [(a, .inr (5, [.int t, .int (nI 94), .int fi, .int se])), (na, .inr (2, [.ref nb])), (nb, .inl (cY 0, 256, .inl (m_nf bp)))] H7 := hP
    have hD : va_D A [(a, .inr (5, [.int t, .int (nI 94), .int fi, .int se])), (na, .inr (2, [.ref nb])), (nb, .inl (cY 0, 256, .inl (m_nf bp)))] := hD
    subst hQ
    exact m_iret C0 hS dX5_resultOf_101 (u := ()) hP (by simp (config := { decide := true }) only [p_res, n_div, if_true, if_false]; first | rfl | (split <;> rfl))
  · subst hs
    refine lv_lookup (tgt := 64) hx hb dX5_resultOf_4 (by decide +kernel) (off := 60) (by decide +kernel) (by decide) ?_
    refine lv_aload_n hx hb dX5_resultOf_64 rfl (lv_at hl 3 rfl) ?_
    refine lv_iconst (v := nI 1) hx hb dX5_resultOf_65 (by decide) ?_
    refine lv_iload_n hx hb dX5_resultOf_66 rfl (lv_at hl 1 rfl) ?_
    refine m_callVi (As := [.int (nI 1), .int (nI lf)]) (rest := []) C0 hl hP hD hS (c_X2_dividedBy l D cY na nb bp 1 lf (by first | assumption | omega | exact nm_lt _ _ | exact np_lt _ _ | decide) (by first | assumption | omega | exact nm_lt _ _ | exact np_lt _ _ | decide) (by first | assumption | omega | exact nm_lt _ _ | exact np_lt _ _ | decide)) (cwV 2 hts gX5_resultOf_X2_dividedBy rfl rfl rfl (by decide +kernel) ⟨Nat.le_of_ble_eq_true rfl, Nat.le_of_ble_eq_true rfl⟩) dX5_resultOf_67 [1, 2] rfl rfl 1 rfl rfl rfl rfl (Nat.le_of_ble_eq_true rfl) (Nat.zero_le _) (Nat.zero_le _) (fun _ => rfl) (fun r10 u H9 locs hw hP hD hS => ?_)
    try dsimp only at hw
    obtain rfl := hw
    have hP : va_P D vwCl [(a, .inr (5, [.int t, .int (nI 126), .int fi, .int se])), (na, .inr (2, [.ref nb])), (nb, .inl (cY 0, 256, .inl (m_nf bp)))] H9 := hP
    have hD : va_D A [(a, .inr (5, [.int t, .int (nI 126), .int fi, .int se])), (na, .inr (2, [.ref nb])), (nb, .inl (cY 0, 256, .inl (m_nf bp)))] := hD
    subst hQ
    exact m_iret C0 hS dX5_resultOf_70 (u := ()) hP (by simp (config := { decide := true }) only [p_res, n_div, if_true, if_false]; first | rfl | (split <;> rfl))
  · obtain ⟨hs0, hs1, hs2, hs3, hs4, hs5⟩ := hs
    refine lv_lookup (tgt := 102) hx hb dX5_resultOf_4 (by decide +kernel) (off := 98) (show Op.lookupswitch.offset [(37, 67), (42, 77), (43, 73), (47, 84), (94, 91), (126, 60)] 98 (nI sg).toInt = 98 from by rw [nI_toInt (by omega)]; simp only [Op.lookupswitch.offset_cons, Op.lookupswitch.offset_nil]; repeat rw [if_neg (by omega)]) (by decide) ?_
    refine lv_iload_n hx hb dX5_resultOf_102 rfl (lv_at hl 1 rfl) ?_
    subst hQ
    exact m_iret C0 hS dX5_resultOf_103 (u := ()) hP (by rw [p_res, if_neg (by omega), if_neg (by omega), if_neg (by omega), if_neg (by omega), if_neg (by omega), if_neg (by omega)]; rfl)
set_option maxHeartbeats 4000000 in
set_option maxRecDepth 100000 in
theorem c_X5_doOn (l : Launch) (D : va_G) (cY : Nat → ClassId) (a na nb : Nat) (rg sg fi se : Nat) (sa sb cnt : Nat) (f : Nat → Nat) (bp : Nat → Nat) (hok : p_ok (rg, sg, fi, se)) (hf8 : m_z 8 f) (hf16 : ∀ j, f j < 65536) (hB : n_bp bp) : m_Mi l yX5_doOn wsX5_doOn 3 73 D cY [.ref a, .ref sa, .ref na] [(sa, .inr (4, [.ref sb, .int (nI cnt)])), (sb, .inl (cY 0, 8, .inl (m_nf f))), (na, .inr (2, [.ref nb])), (nb, .inl (cY 0, 256, .inl (m_nf bp))), (a, .inr (5, [.int (nI rg), .int (nI sg), .int (nI fi), .int (nI se)]))] (fun (res : Int32) (u : (Nat → Nat) × Nat) => (res = nI 0 ∧ p_do (rg, sg, fi, se) f cnt = none ∧ u.1 = f ∧ u.2 = cnt) ∨ (res = nI 1 ∧ p_do (rg, sg, fi, se) f cnt = some (u.1, u.2) ∧ m_z 8 u.1 ∧ ∀ j, u.1 j < 65536)) (fun (u : (Nat → Nat) × Nat) => [(sa, .inr (4, [.ref sb, .int (nI u.2)])), (sb, .inl (cY 0, 8, .inl (m_nf u.1))), (na, .inr (2, [.ref nb])), (nb, .inl (cY 0, 256, .inl (m_nf bp))), (a, .inr (5, [.int (nI rg), .int (nI sg), .int (nI fi), .int (nI se)]))]) := by
  refine m_enterI (cc := cX5_doOn) (maxL := 4) (ret := (some .boolean)) (by decide +kernel) rfl (Nat.le_of_ble_eq_true rfl) ?_
  intro p e s m below meth c A ls C0 hP hD hl
  obtain ⟨hx, hb, hr, hml, hts, hown, hlocks, hK, hA⟩ := id C0
  generalize hQ : MQ below _ _ s 0 0 A = Q
  have hS : va_S A s.heap s.heap [] := va_S.rf
  have hl : lv_has ls 4 [(0, .ref a), (1, .ref sa), (2, .ref na)] := hl
  have hw0 := hts (.fieldLink RX5 19 "NimberField$Step" "first" "I") (by decide +kernel)
  have hw1 := (show ∀ w ∈ u_ws RX5 TX5 4, w ∈ wsX5_doOn from by decide +kernel)
  have hw2 := hts (.fieldLink RX5 22 "NimberField$Step" "second" "I") (by decide +kernel)
  have hw3 := hts (.fieldLink RX5 9 "NimberField$Step" "target" "I") (by decide +kernel)
  have hw4 := hts (.fieldLink RX5 15 "NimberField$Step" "sign" "C") (by decide +kernel)
  obtain ⟨ho1, ho2, ho3, ho4⟩ := hok
  dsimp only at ho1 ho2 ho3 ho4
  refine lv_aload_n hx hb dX5_doOn_0 rfl (lv_at hl 0 rfl) ?_
  refine lv_aload_n hx hb dX5_doOn_1 rfl (lv_at hl 0 rfl) ?_
  refine va_get (D := D) (ci := 5) (v := .int (nI fi)) (C := RX5) (T := TX5) (N := 4) hx hb hts hw1 hown hK hP 4 rfl rfl 2 (by decide) hw0 (fun _ h9 => h9) rfl dX5_doOn_2 ?_
  refine lv_aload_n hx hb dX5_doOn_5 rfl (lv_at hl 1 rfl) ?_
  refine m_callSi (As := [.int (nI fi), .ref sa]) (rest := [.ref a]) C0 hl hP hD hS (c_X5_valueOf l D cY sa sb cnt f fi (by first | assumption | omega | exact nm_lt _ _ | exact np_lt _ _ | decide)) (va_cwS 2 hts gX5_doOn_X5_valueOf rfl rfl rfl (by decide +kernel) ⟨Nat.le_of_ble_eq_true rfl, Nat.le_of_ble_eq_true rfl⟩) dX5_doOn_6 [0, 1] rfl rfl rfl (Nat.le_of_ble_eq_true rfl) (Nat.zero_le _) (Nat.zero_le _) (fun _ => rfl) (fun r2 u H1 locs hw hP hD hS => ?_)
  try dsimp only at hw
  obtain rfl := hw
  have hP : va_P D vwCl [(sa, .inr (4, [.ref sb, .int (nI cnt)])), (sb, .inl (cY 0, 8, .inl (m_nf f))), (na, .inr (2, [.ref nb])), (nb, .inl (cY 0, 256, .inl (m_nf bp))), (a, .inr (5, [.int (nI rg), .int (nI sg), .int (nI fi), .int (nI se)]))] H1 := hP
  have hD : va_D A [(sa, .inr (4, [.ref sb, .int (nI cnt)])), (sb, .inl (cY 0, 8, .inl (m_nf f))), (na, .inr (2, [.ref nb])), (nb, .inl (cY 0, 256, .inl (m_nf bp))), (a, .inr (5, [.int (nI rg), .int (nI sg), .int (nI fi), .int (nI se)]))] := hD
  refine lv_aload_n hx hb dX5_doOn_9 rfl (lv_at hl 0 rfl) ?_
  refine va_get (D := D) (ci := 5) (v := .int (nI se)) (C := RX5) (T := TX5) (N := 4) hx hb hts hw1 hown hK hP 4 rfl rfl 3 (by decide) hw2 (fun _ h9 => h9) rfl dX5_doOn_10 ?_
  refine lv_aload_n hx hb dX5_doOn_13 rfl (lv_at hl 1 rfl) ?_
  refine m_callSi (As := [.int (nI se), .ref sa]) (rest := [.int (nI (p_val fi f)), .ref a]) C0 hl hP hD hS (c_X5_valueOf l D cY sa sb cnt f se (by first | assumption | omega | exact nm_lt _ _ | exact np_lt _ _ | decide)) (va_cwS 2 hts gX5_doOn_X5_valueOf rfl rfl rfl (by decide +kernel) ⟨Nat.le_of_ble_eq_true rfl, Nat.le_of_ble_eq_true rfl⟩) dX5_doOn_14 [0, 1] rfl rfl rfl (Nat.le_of_ble_eq_true rfl) (Nat.zero_le _) (Nat.zero_le _) (fun _ => rfl) (fun r4 u H3 locs hw hP hD hS => ?_)
  try dsimp only at hw
  obtain rfl := hw
  have hP : va_P D vwCl [(sa, .inr (4, [.ref sb, .int (nI cnt)])), (sb, .inl (cY 0, 8, .inl (m_nf f))), (na, .inr (2, [.ref nb])), (nb, .inl (cY 0, 256, .inl (m_nf bp))), (a, .inr (5, [.int (nI rg), .int (nI sg), .int (nI fi), .int (nI se)]))] H3 := hP
  have hD : va_D A [(sa, .inr (4, [.ref sb, .int (nI cnt)])), (sb, .inl (cY 0, 8, .inl (m_nf f))), (na, .inr (2, [.ref nb])), (nb, .inl (cY 0, 256, .inl (m_nf bp))), (a, .inr (5, [.int (nI rg), .int (nI sg), .int (nI fi), .int (nI se)]))] := hD
  refine lv_aload_n hx hb dX5_doOn_17 rfl (lv_at hl 2 rfl) ?_
  refine m_callVi (As := [.int (nI (p_val fi f)), .int (nI (p_val se f)), .ref na]) (rest := []) C0 hl hP hD hS (c_X5_resultOf l D cY a na nb (nI rg) (nI fi) (nI se) bp sg (p_val fi f) (p_val se f) (by first | assumption | omega | exact nm_lt _ _ | exact np_lt _ _ | decide) (p_val_lt hf16) (p_val_lt hf16) (by first | assumption | omega | exact nm_lt _ _ | exact np_lt _ _ | decide)) (cwV 3 hts gX5_doOn_X5_resultOf rfl rfl rfl (by decide +kernel) ⟨Nat.le_of_ble_eq_true rfl, Nat.le_of_ble_eq_true rfl⟩) dX5_doOn_18 [4, 2, 3] rfl rfl 4 rfl rfl rfl rfl (Nat.le_of_ble_eq_true rfl) (Nat.zero_le _) (Nat.zero_le _) (fun _ => rfl) (fun r6 u H5 locs hw hP hD hS => ?_)
  try dsimp only at hw
  obtain rfl := hw
  have hP : va_P D vwCl [(sa, .inr (4, [.ref sb, .int (nI cnt)])), (sb, .inl (cY 0, 8, .inl (m_nf f))), (na, .inr (2, [.ref nb])), (nb, .inl (cY 0, 256, .inl (m_nf bp))), (a, .inr (5, [.int (nI rg), .int (nI sg), .int (nI fi), .int (nI se)]))] H5 := hP
  have hD : va_D A [(sa, .inr (4, [.ref sb, .int (nI cnt)])), (sb, .inl (cY 0, 8, .inl (m_nf f))), (na, .inr (2, [.ref nb])), (nb, .inl (cY 0, 256, .inl (m_nf bp))), (a, .inr (5, [.int (nI rg), .int (nI sg), .int (nI fi), .int (nI se)]))] := hD
  rcases (show p_res sg (p_val fi f) (p_val se f) = none ∨ ∃ v, p_res sg (p_val fi f) (p_val se f) = some v from by cases p_res sg (p_val fi f) (p_val se f) <;> simp) with hrs0 | ⟨v, hrs0⟩
  · skip
    rw [hrs0]
    refine lv_topi (nm_r (show p_resI none = -1 from rfl) ?_)
    refine lv_istore_n (lv' := [(3, .int (-1)), (0, .ref a), (1, .ref sa), (2, .ref na)]) hx hb dX5_doOn_21 rfl hl (by decide) rfl (fun ls hl => ?_)
    refine lv_iload_n hx hb dX5_doOn_22 rfl (lv_at hl 0 rfl) ?_
    refine lv_iconst (v := (-1)) hx hb dX5_doOn_23 (by decide) ?_
    refine lv_icmp_ne (tgt := 29) hx hb dX5_doOn_24 (by decide) (fun c24 => ?_) (fun c24 => ?_)
    · have c24 := c24
      exfalso; first | exact c24 rfl | exact n_nem1 (Nat.lt_trans hv16 (by decide)) c24
    · have c24 := c24
      refine lv_iconst (v := nI 0) hx hb dX5_doOn_27 (by decide) ?_
      subst hQ
      exact m_zret C0 (by decide) hS dX5_doOn_28 (u := (f, cnt)) hP (Or.inl ⟨rfl, by simp only [p_do, hrs0], rfl, rfl⟩)
  · skip
    rw [hrs0]
    have hv16 := p_x16 (p_val_lt hf16) (p_val_lt hf16) v hrs0
    refine lv_topi (nm_r (show p_resI (some v) = nI v from rfl) ?_)
    refine lv_istore_n (lv' := [(3, .int (nI v)), (0, .ref a), (1, .ref sa), (2, .ref na)]) hx hb dX5_doOn_21 rfl hl (by decide) rfl (fun ls hl => ?_)
    refine lv_iload_n hx hb dX5_doOn_22 rfl (lv_at hl 0 rfl) ?_
    refine lv_iconst (v := (-1)) hx hb dX5_doOn_23 (by decide) ?_
    refine lv_icmp_ne (tgt := 29) hx hb dX5_doOn_24 (by decide) (fun c24 => ?_) (fun c24 => ?_)
    · have c24 := c24
      refine lv_aload_n hx hb dX5_doOn_29 rfl (lv_at hl 2 rfl) ?_
      refine lv_aload_n hx hb dX5_doOn_30 rfl (lv_at hl 1 rfl) ?_
      refine va_get (D := D) (ci := 5) (v := .int (nI rg)) (C := RX5) (T := TX5) (N := 4) hx hb hts hw1 hown hK hP 4 rfl rfl 0 (by decide) hw3 (fun _ h9 => h9) rfl dX5_doOn_31 ?_
      refine lv_iload_n hx hb dX5_doOn_34 rfl (lv_at hl 0 rfl) ?_
      refine m_callVv (As := [.int (nI rg), .int (nI v)]) (rest := []) C0 hl hP hD hS (c_X4_put l D cY sa sb cnt f rg v (by first | assumption | omega | exact nm_lt _ _ | exact np_lt _ _ | decide)) (cwV 2 hts gX5_doOn_X4_put rfl rfl rfl (by decide +kernel) ⟨Nat.le_of_ble_eq_true rfl, Nat.le_of_ble_eq_true rfl⟩) dX5_doOn_35 [0, 1] rfl rfl 0 rfl rfl rfl rfl (Nat.le_of_ble_eq_true rfl) (Nat.zero_le _) (Nat.zero_le _) (fun _ => rfl) (fun u H7 locs hw hP hD hS => ?_)
      try dsimp only at hw
      clear hw
      have hP : va_P D vwCl [(sa, .inr (4, [.ref sb, .int (nI cnt)])), (sb, .inl (cY 0, 8, .inl (m_nf (m_up f rg v)))), (na, .inr (2, [.ref nb])), (nb, .inl (cY 0, 256, .inl (m_nf bp))), (a, .inr (5, [.int (nI rg), .int (nI sg), .int (nI fi), .int (nI se)]))] H7 := hP
      have hD : va_D A [(sa, .inr (4, [.ref sb, .int (nI cnt)])), (sb, .inl (cY 0, 8, .inl (m_nf (m_up f rg v)))), (na, .inr (2, [.ref nb])), (nb, .inl (cY 0, 256, .inl (m_nf bp))), (a, .inr (5, [.int (nI rg), .int (nI sg), .int (nI fi), .int (nI se)]))] := hD
      refine lv_aload_n hx hb dX5_doOn_38 rfl (lv_at hl 1 rfl) ?_
      refine va_get (D := D) (ci := 5) (v := .int (nI sg)) (C := RX5) (T := TX5) (N := 4) hx hb hts hw1 hown hK hP 4 rfl rfl 1 (by decide) hw4 (fun _ h9 => h9) rfl dX5_doOn_39 ?_
      refine lv_bipush (v := nI 42) hx hb dX5_doOn_42 (by decide) ?_
      refine lv_icmp_ne (tgt := 51) hx hb dX5_doOn_44 (by decide) (fun c44 => ?_) (fun c44 => ?_)
      · have c44 : ¬ (sg = 42) := fun q => c44 ((nI_eq (a := sg) (b := 42) (by first | omega | exact Nat.lt_of_le_of_lt Nat.and_le_right (by decide) | exact Nat.lt_trans (nm_lt _ _) (by decide) | exact Nat.lt_trans (np_lt _ _) (by decide) | exact Nat.lt_trans (p_at_lt htx) (by decide)) (by first | omega | exact Nat.lt_of_le_of_lt Nat.and_le_right (by decide) | exact Nat.lt_trans (nm_lt _ _) (by decide) | exact Nat.lt_trans (np_lt _ _) (by decide) | exact Nat.lt_trans (p_at_lt htx) (by decide))).mpr q)
        refine lv_iconst (v := nI 1) hx hb dX5_doOn_51 (by decide) ?_
        subst hQ
        exact m_zret C0 (by decide) hS dX5_doOn_52 (u := (m_up f rg v, cnt)) hP (Or.inr ⟨rfl, by simp only [p_do, hrs0]; first | rw [if_pos (by omega)] | rw [if_neg (by omega)], m_zup hf8 (by omega), fun j => by show (if j = rg then v else f j) < 65536; split; { exact hv16 }; { exact hf16 j }⟩)
      · have c44 : sg = 42 := (nI_eq (a := sg) (b := 42) (by first | omega | exact Nat.lt_of_le_of_lt Nat.and_le_right (by decide) | exact Nat.lt_trans (nm_lt _ _) (by decide) | exact Nat.lt_trans (np_lt _ _) (by decide) | exact Nat.lt_trans (p_at_lt htx) (by decide)) (by first | omega | exact Nat.lt_of_le_of_lt Nat.and_le_right (by decide) | exact Nat.lt_trans (nm_lt _ _) (by decide) | exact Nat.lt_trans (np_lt _ _) (by decide) | exact Nat.lt_trans (p_at_lt htx) (by decide))).mp c44
        refine lv_aload_n hx hb dX5_doOn_47 rfl (lv_at hl 2 rfl) ?_
        refine m_callVv (As := []) (rest := []) C0 hl hP hD hS (c_X4_countProduct l D cY sa sb cnt (m_up f rg v) ) (cwV 0 hts gX5_doOn_X4_countProduct rfl rfl rfl (by decide +kernel) ⟨Nat.le_of_ble_eq_true rfl, Nat.le_of_ble_eq_true rfl⟩) dX5_doOn_48 [0, 1] rfl rfl 0 rfl rfl rfl rfl (Nat.le_of_ble_eq_true rfl) (Nat.zero_le _) (Nat.zero_le _) (fun _ => rfl) (fun u H8 locs hw hP hD hS => ?_)
        try dsimp only at hw
        clear hw
        have hP : va_P D vwCl [(sa, .inr (4, [.ref sb, .int (nI (cnt + 1))])), (sb, .inl (cY 0, 8, .inl (m_nf (m_up f rg v)))), (na, .inr (2, [.ref nb])), (nb, .inl (cY 0, 256, .inl (m_nf bp))), (a, .inr (5, [.int (nI rg), .int (nI sg), .int (nI fi), .int (nI se)]))] H8 := hP
        have hD : va_D A [(sa, .inr (4, [.ref sb, .int (nI (cnt + 1))])), (sb, .inl (cY 0, 8, .inl (m_nf (m_up f rg v)))), (na, .inr (2, [.ref nb])), (nb, .inl (cY 0, 256, .inl (m_nf bp))), (a, .inr (5, [.int (nI rg), .int (nI sg), .int (nI fi), .int (nI se)]))] := hD
        refine lv_iconst (v := nI 1) hx hb dX5_doOn_51 (by decide) ?_
        subst hQ
        exact m_zret C0 (by decide) hS dX5_doOn_52 (u := (m_up f rg v, cnt + 1)) hP (Or.inr ⟨rfl, by simp only [p_do, hrs0]; first | rw [if_pos (by omega)] | rw [if_neg (by omega)], m_zup hf8 (by omega), fun j => by show (if j = rg then v else f j) < 65536; split; { exact hv16 }; { exact hf16 j }⟩)
    · have c24 := c24
      exfalso; first | exact c24 rfl | exact n_nem1 (Nat.lt_trans hv16 (by decide)) c24
