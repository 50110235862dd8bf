set_option maxHeartbeats 4000000 in
set_option maxRecDepth 100000 in
theorem c_X7_thrown (l : Launch) (D : va_G) (cY : Nat → ClassId) (mx va vk vr vs vt vc vb : Nat) (rl ik th tl ta : Nat) (yr ys yo yf ye : Int32)  : m_Mi l yX7_thrown wsX7_thrown 0 0 D cY [.ref mx] [(mx, .inr (7, [.ref va, .ref vk, .ref vr, .int (nI rl), .ref vs, .int (nI ik), .int (nI th), .ref vt, .int (nI tl), .int (nI ta), .int yr, .int ys, .int yo, .int yf, .int ye, .ref vc, .ref vb]))] (fun (res : Int32) (u : Unit) => res = nI th) (fun (u : Unit) => [(mx, .inr (7, [.ref va, .ref vk, .ref vr, .int (nI rl), .ref vs, .int (nI ik), .int (nI th), .ref vt, .int (nI tl), .int (nI ta), .int yr, .int ys, .int yo, .int yf, .int ye, .ref vc, .ref vb]))]) := by
  refine m_enterI (cc := cX7_thrown) (maxL := 1) (ret := (some .int)) (by decide +kernel) rfl (Nat.le_of_ble_eq_true rfl) ?_
  intro p e s m below meth c A ls C0 hP hD hl
  obtain ⟨hx, hb, hr, hml, hts, hown, hlocks, hK, hA⟩ := id C0
  generalize hQ : MQ below _ _ s 0 0 A = Q
  have hS : va_S A s.heap s.heap [] := va_S.rf
  have hl : lv_has ls 1 [(0, .ref mx)] := hl
  have hw0 := hts (.fieldLink RX7 31 "NimberFieldModel" "thrown" "I") (by decide +kernel)
  have hw1 := (show ∀ w ∈ u_ws RX7 TX7 17, w ∈ wsX7_thrown from by decide +kernel)
  refine lv_aload_n hx hb dX7_thrown_0 rfl (lv_at hl 0 rfl) ?_
  refine va_get (D := D) (ci := 7) (v := .int (nI th)) (C := RX7) (T := TX7) (N := 17) hx hb hts hw1 hown hK hP 0 rfl rfl 6 (by decide) hw0 (fun _ h9 => h9) rfl dX7_thrown_1 ?_
  subst hQ
  exact m_iret C0 hS dX7_thrown_4 (u := ()) hP (by first | trivial | rfl | omega)
set_option maxHeartbeats 4000000 in
set_option maxRecDepth 100000 in
theorem c_X7_fails (l : Launch) (D : va_G) (cY : Nat → ClassId) (mx va vk vr vs vt vc vb : Nat) (rl ik th tl ta : Nat) (yr ys yo yf ye : Int32) (w : Nat)  : m_Mi l yX7_fails wsX7_fails 0 0 D cY [.ref mx, .int (nI w)] [(mx, .inr (7, [.ref va, .ref vk, .ref vr, .int (nI rl), .ref vs, .int (nI ik), .int (nI th), .ref vt, .int (nI tl), .int (nI ta), .int yr, .int ys, .int yo, .int yf, .int ye, .ref vc, .ref vb]))] (fun (res : Int32) (u : Unit) => res = nI 0) (fun (u : Unit) => [(mx, .inr (7, [.ref va, .ref vk, .ref vr, .int (nI rl), .ref vs, .int (nI ik), .int (nI w), .ref vt, .int (nI tl), .int (nI ta), .int yr, .int ys, .int yo, .int yf, .int ye, .ref vc, .ref vb]))]) := by
  refine m_enterI (cc := cX7_fails) (maxL := 2) (ret := (some .int)) (by decide +kernel) rfl (Nat.le_of_ble_eq_true rfl) ?_
  intro p e s m below meth c A ls C0 hP hD hl
  obtain ⟨hx, hb, hr, hml, hts, hown, hlocks, hK, hA⟩ := id C0
  generalize hQ : MQ below _ _ s 0 0 A = Q
  have hS : va_S A s.heap s.heap [] := va_S.rf
  have hl : lv_has ls 2 [(0, .ref mx), (1, .int (nI w))] := hl
  have hw0 := hts (.fieldLink RX7 31 "NimberFieldModel" "thrown" "I") (by decide +kernel)
  have hw1 := (show ∀ w ∈ u_ws RX7 TX7 17, w ∈ wsX7_fails from by decide +kernel)
  refine lv_aload_n hx hb dX7_fails_0 rfl (lv_at hl 0 rfl) ?_
  refine lv_iload_n hx hb dX7_fails_1 rfl (lv_at hl 1 rfl) ?_
  refine va_put (D := D) (ci := 7) (v := .int (nI w)) (ty := .int) (C := RX7) (T := TX7) (N := 17) hx hb hts hw1 tyX7 tyX7_ok nmX7 hown hK hP hD hS 0 rfl rfl 6 (by decide) hw0 (fun _ h9 => h9) rfl (by decide +kernel) rfl rfl (Nat.le_of_ble_eq_true rfl) dX7_fails_2 (fun H1 locs hP hD hS => ?_)
  have hP : va_P D vwCl [(mx, .inr (7, [.ref va, .ref vk, .ref vr, .int (nI rl), .ref vs, .int (nI ik), .int (nI w), .ref vt, .int (nI tl), .int (nI ta), .int yr, .int ys, .int yo, .int yf, .int ye, .ref vc, .ref vb]))] H1 := hP
  have hD : va_D A [(mx, .inr (7, [.ref va, .ref vk, .ref vr, .int (nI rl), .ref vs, .int (nI ik), .int (nI w), .ref vt, .int (nI tl), .int (nI ta), .int yr, .int ys, .int yo, .int yf, .int ye, .ref vc, .ref vb]))] := hD
  refine lv_iconst (v := nI 0) hx hb dX7_fails_5 (by decide) ?_
  subst hQ
  exact m_iret C0 hS dX7_fails_6 (u := ()) hP (by first | trivial | rfl | omega)
set_option maxHeartbeats 4000000 in
set_option maxRecDepth 100000 in
theorem c_X7_told (l : Launch) (D : va_G) (cY : Nat → ClassId) (mx va vk vr vs vt vc vb : Nat) (rl ik th tl ta : Nat) (yr ys yo yf ye : Int32) (v : Int32)  : m_Mi l yX7_told wsX7_told 0 0 D cY [.ref mx, .int v] [(mx, .inr (7, [.ref va, .ref vk, .ref vr, .int (nI rl), .ref vs, .int (nI ik), .int (nI th), .ref vt, .int (nI tl), .int (nI ta), .int yr, .int ys, .int yo, .int yf, .int ye, .ref vc, .ref vb]))] (fun (res : Int32) (u : Unit) => res = v) (fun (u : Unit) => [(mx, .inr (7, [.ref va, .ref vk, .ref vr, .int (nI rl), .ref vs, .int (nI ik), .int (nI 0), .ref vt, .int (nI tl), .int (nI ta), .int yr, .int ys, .int yo, .int yf, .int ye, .ref vc, .ref vb]))]) := by
  refine m_enterI (cc := cX7_told) (maxL := 2) (ret := (some .int)) (by decide +kernel) rfl (Nat.le_of_ble_eq_true rfl) ?_
  intro p e s m below meth c A ls C0 hP hD hl
  obtain ⟨hx, hb, hr, hml, hts, hown, hlocks, hK, hA⟩ := id C0
  generalize hQ : MQ below _ _ s 0 0 A = Q
  have hS : va_S A s.heap s.heap [] := va_S.rf
  have hl : lv_has ls 2 [(0, .ref mx), (1, .int v)] := hl
  have hw0 := hts (.fieldLink RX7 31 "NimberFieldModel" "thrown" "I") (by decide +kernel)
  have hw1 := (show ∀ w ∈ u_ws RX7 TX7 17, w ∈ wsX7_told from by decide +kernel)
  refine lv_aload_n hx hb dX7_told_0 rfl (lv_at hl 0 rfl) ?_
  refine lv_iconst (v := nI 0) hx hb dX7_told_1 (by decide) ?_
  refine va_put (D := D) (ci := 7) (v := .int (nI 0)) (ty := .int) (C := RX7) (T := TX7) (N := 17) hx hb hts hw1 tyX7 tyX7_ok nmX7 hown hK hP hD hS 0 rfl rfl 6 (by decide) hw0 (fun _ h9 => h9) rfl (by decide +kernel) rfl rfl (Nat.le_of_ble_eq_true rfl) dX7_told_2 (fun H1 locs hP hD hS => ?_)
  have hP : va_P D vwCl [(mx, .inr (7, [.ref va, .ref vk, .ref vr, .int (nI rl), .ref vs, .int (nI ik), .int (nI 0), .ref vt, .int (nI tl), .int (nI ta), .int yr, .int ys, .int yo, .int yf, .int ye, .ref vc, .ref vb]))] H1 := hP
  have hD : va_D A [(mx, .inr (7, [.ref va, .ref vk, .ref vr, .int (nI rl), .ref vs, .int (nI ik), .int (nI 0), .ref vt, .int (nI tl), .int (nI ta), .int yr, .int ys, .int yo, .int yf, .int ye, .ref vc, .ref vb]))] := hD
  refine lv_iload_n hx hb dX7_told_5 rfl (lv_at hl 1 rfl) ?_
  subst hQ
  exact m_iret C0 hS dX7_told_6 (u := ()) hP (by first | trivial | rfl | omega)
set_option maxHeartbeats 4000000 in
set_option maxRecDepth 100000 in
theorem c_X7_in (l : Launch) (D : va_G) (cY : Nat → ClassId) (v lo hi : Int32)  : m_Mi l yX7_in wsX7_in 0 0 D cY [.long (Int32.toInt64 v), .long (Int32.toInt64 lo), .long (Int32.toInt64 hi)] [] (fun (res : Int32) (u : Unit) => res = nI (if m_inI v lo hi then 1 else 0)) (fun (u : Unit) => []) := by
  refine m_enterI (cc := cX7_in) (maxL := 6) (ret := (some .boolean)) (by decide +kernel) rfl (Nat.le_of_ble_eq_true rfl) ?_
  intro p e s m below meth c A ls C0 hP hD hl
  obtain ⟨hx, hb, hr, hml, hts, hown, hlocks, hK, hA⟩ := id C0
  generalize hQ : MQ below _ _ s 0 0 A = Q
  have hS : va_S A s.heap s.heap [] := va_S.rf
  have hl : lv_has ls 6 [(0, .long (Int32.toInt64 v)), (2, .long (Int32.toInt64 lo)), (4, .long (Int32.toInt64 hi))] := hl
  refine lv_lload_n hx hb dX7_in_0 rfl (lv_at hl 0 rfl) ?_
  refine lv_lload_n hx hb dX7_in_1 rfl (lv_at hl 1 rfl) ?_
  refine W.lcmp hx hb dX7_in_2 ?_
  refine lv_if_lt (tgt := 17) hx hb dX7_in_3 (by decide) (fun c3 => ?_) (fun c3 => ?_)
  · have c3 := c3
    refine lv_iconst (v := nI 0) hx hb dX7_in_17 (by decide) ?_
    subst hQ
    exact m_zret C0 (by decide) hS dX7_in_18 (u := ()) hP (by first | rw [if_pos ⟨by rw [← m_l_le]; exact (lg_cmp_ge _ _).mp (Int32.not_lt.mp c3), by rw [← m_l_le]; exact (lg_cmp_le _ _).mp (Int32.not_lt.mp c10)⟩] | rw [if_neg (fun q => absurd ((lg_cmp_ge _ _).mpr (by rw [m_l_le]; exact q.1)) (Int32.not_le.mpr c3))] | rw [if_neg (fun q => absurd ((lg_cmp_le _ _).mpr (by rw [m_l_le]; exact q.2)) (Int32.not_le.mpr c10))])
  · have c3 := c3
    refine lv_lload_n hx hb dX7_in_6 rfl (lv_at hl 0 rfl) ?_
    refine lv_lload hx hb dX7_in_7 (lv_at hl 2 rfl) ?_
    refine W.lcmp hx hb dX7_in_9 ?_
    refine lv_if_gt (tgt := 17) hx hb dX7_in_10 (by decide) (fun c10 => ?_) (fun c10 => ?_)
    · have c10 := c10
      refine lv_iconst (v := nI 0) hx hb dX7_in_17 (by decide) ?_
      subst hQ
      exact m_zret C0 (by decide) hS dX7_in_18 (u := ()) hP (by first | rw [if_pos ⟨by rw [← m_l_le]; exact (lg_cmp_ge _ _).mp (Int32.not_lt.mp c3), by rw [← m_l_le]; exact (lg_cmp_le _ _).mp (Int32.not_lt.mp c10)⟩] | rw [if_neg (fun q => absurd ((lg_cmp_ge _ _).mpr (by rw [m_l_le]; exact q.1)) (Int32.not_le.mpr c3))] | rw [if_neg (fun q => absurd ((lg_cmp_le _ _).mpr (by rw [m_l_le]; exact q.2)) (Int32.not_le.mpr c10))])
    · have c10 := c10
      refine lv_iconst (v := nI 1) hx hb dX7_in_13 (by decide) ?_
      refine lv_goto (tgt := 18) hx hb dX7_in_14 (by decide) ?_
      subst hQ
      exact m_zret C0 (by decide) hS dX7_in_18 (u := ()) hP (by first | rw [if_pos ⟨by rw [← m_l_le]; exact (lg_cmp_ge _ _).mp (Int32.not_lt.mp c3), by rw [← m_l_le]; exact (lg_cmp_le _ _).mp (Int32.not_lt.mp c10)⟩] | rw [if_neg (fun q => absurd ((lg_cmp_ge _ _).mpr (by rw [m_l_le]; exact q.1)) (Int32.not_le.mpr c3))] | rw [if_neg (fun q => absurd ((lg_cmp_le _ _).mpr (by rw [m_l_le]; exact q.2)) (Int32.not_le.mpr c10))])
set_option maxHeartbeats 4000000 in
set_option maxRecDepth 100000 in
theorem c_X7_isRegister (l : Launch) (D : va_G) (cY : Nat → ClassId) (x : Int32)  : m_Mi l yX7_isRegister wsX7_isRegister 1 25 D cY [.int x] [] (fun (res : Int32) (u : Unit) => res = nI (if m_isR x then 1 else 0)) (fun (u : Unit) => []) := by
  refine m_enterI (cc := cX7_isRegister) (maxL := 1) (ret := (some .boolean)) (by decide +kernel) rfl (Nat.le_of_ble_eq_true rfl) ?_
  intro p e s m below meth c A ls C0 hP hD hl
  obtain ⟨hx, hb, hr, hml, hts, hown, hlocks, hK, hA⟩ := id C0
  generalize hQ : MQ below _ _ s 0 0 A = Q
  have hS : va_S A s.heap s.heap [] := va_S.rf
  have hl : lv_has ls 1 [(0, .int x)] := hl
  have hw0 := hts (.constantLong RX7 38 (7)) (by decide +kernel)
  refine lv_iload_n hx hb dX7_isRegister_0 rfl (lv_at hl 0 rfl) ?_
  refine lv_i2l (v := Int32.toInt64 x) hx hb dX7_isRegister_1 rfl ?_
  refine lv_lconst (v := 0) hx hb dX7_isRegister_2 (by decide) ?_
  refine lv_topl (nm_r (show ((0 : Int64)) = Int32.toInt64 (0 : Int32) from by decide) ?_)
  refine lv_ldc2 hx hb hown hw0 dX7_isRegister_3 ?_
  refine lv_topl (nm_r (show ((7 : Int64)) = Int32.toInt64 (7 : Int32) from by decide) ?_)
  refine m_callSi (As := [.long (Int32.toInt64 x), .long (Int32.toInt64 (0 : Int32)), .long (Int32.toInt64 (7 : Int32))]) (rest := []) C0 hl hP hD hS (c_X7_in l D cY x (0 : Int32) (7 : Int32) ) (va_cwS 3 hts gX7_isRegister_X7_in rfl rfl rfl (by decide +kernel) ⟨Nat.le_of_ble_eq_true rfl, Nat.le_of_ble_eq_true rfl⟩) dX7_isRegister_6 [] rfl rfl rfl (Nat.le_of_ble_eq_true rfl) (Nat.zero_le _) (Nat.zero_le _) (fun _ => rfl) (fun r2 u H1 locs hw hP hD hS => ?_)
  try dsimp only at hw
  obtain rfl := hw
  have hP : va_P D vwCl [] H1 := hP
  have hD : va_D A [] := hD
  subst hQ
  exact m_zret C0 (by split <;> decide) hS dX7_isRegister_9 (u := ()) hP (by first | trivial | rfl | omega)
set_option maxHeartbeats 4000000 in
set_option maxRecDepth 100000 in
theorem c_X7_isNimber (l : Launch) (D : va_G) (cY : Nat → ClassId) (x : Int32)  : m_Mi l yX7_isNimber wsX7_isNimber 1 25 D cY [.int x] [] (fun (res : Int32) (u : Unit) => res = nI (if m_isN x then 1 else 0)) (fun (u : Unit) => []) := by
  refine m_enterI (cc := cX7_isNimber) (maxL := 1) (ret := (some .boolean)) (by decide +kernel) rfl (Nat.le_of_ble_eq_true rfl) ?_
  intro p e s m below meth c A ls C0 hP hD hl
  obtain ⟨hx, hb, hr, hml, hts, hown, hlocks, hK, hA⟩ := id C0
  generalize hQ : MQ below _ _ s 0 0 A = Q
  have hS : va_S A s.heap s.heap [] := va_S.rf
  have hl : lv_has ls 1 [(0, .int x)] := hl
  have hw0 := hts (.constantLong RX7 44 (65535)) (by decide +kernel)
  refine lv_iload_n hx hb dX7_isNimber_0 rfl (lv_at hl 0 rfl) ?_
  refine lv_i2l (v := Int32.toInt64 x) hx hb dX7_isNimber_1 rfl ?_
  refine lv_lconst (v := 0) hx hb dX7_isNimber_2 (by decide) ?_
  refine lv_topl (nm_r (show ((0 : Int64)) = Int32.toInt64 (0 : Int32) from by decide) ?_)
  refine lv_ldc2 hx hb hown hw0 dX7_isNimber_3 ?_
  refine lv_topl (nm_r (show ((65535 : Int64)) = Int32.toInt64 (65535 : Int32) from by decide) ?_)
  refine m_callSi (As := [.long (Int32.toInt64 x), .long (Int32.toInt64 (0 : Int32)), .long (Int32.toInt64 (65535 : Int32))]) (rest := []) C0 hl hP hD hS (c_X7_in l D cY x (0 : Int32) (65535 : Int32) ) (va_cwS 3 hts gX7_isNimber_X7_in rfl rfl rfl (by decide +kernel) ⟨Nat.le_of_ble_eq_true rfl, Nat.le_of_ble_eq_true rfl⟩) dX7_isNimber_6 [] rfl rfl rfl (Nat.le_of_ble_eq_true rfl) (Nat.zero_le _) (Nat.zero_le _) (fun _ => rfl) (fun r2 u H1 locs hw hP hD hS => ?_)
  try dsimp only at hw
  obtain rfl := hw
  have hP : va_P D vwCl [] H1 := hP
  have hD : va_D A [] := hD
  subst hQ
  exact m_zret C0 (by split <;> decide) hS dX7_isNimber_9 (u := ()) hP (by first | trivial | rfl | omega)
set_option maxHeartbeats 4000000 in
set_option maxRecDepth 100000 in
theorem c_X7_times2 (l : Launch) (D : va_G) (cY : Nat → ClassId) (x y : Nat) (hxx : x < 4) (hyy : y < 4) : m_Mi l yX7_times2 wsX7_times2 0 0 D cY [.int (nI x), .int (nI y)] [] (fun (res : Int32) (u : Unit) => res = nI (n_2 x y)) (fun (u : Unit) => []) := by
  refine m_enterI (cc := cX7_times2) (maxL := 5) (ret := (some .int)) (by decide +kernel) rfl (Nat.le_of_ble_eq_true rfl) ?_
  intro p e s m below meth c A ls C0 hP hD hl
  obtain ⟨hx, hb, hr, hml, hts, hown, hlocks, hK, hA⟩ := id C0
  generalize hQ : MQ below _ _ s 0 0 A = Q
  have hS : va_S A s.heap s.heap [] := va_S.rf
  have hl : lv_has ls 5 [(0, .int (nI x)), (1, .int (nI y))] := hl
  refine lv_iload_n hx hb dX7_times2_0 rfl (lv_at hl 0 rfl) ?_
  refine lv_iconst (v := nI 1) hx hb dX7_times2_1 (by decide) ?_
  refine lv_ishr hx hb dX7_times2_2 ?_
  refine lv_topi (nm_r (m_shr _ _ (by omega) (by omega)) ?_)
  refine lv_iload_n hx hb dX7_times2_3 rfl (lv_at hl 1 rfl) ?_
  refine lv_iconst (v := nI 1) hx hb dX7_times2_4 (by decide) ?_
  refine lv_ishr hx hb dX7_times2_5 ?_
  refine lv_topi (nm_r (m_shr _ _ (by omega) (by omega)) ?_)
  refine lv_iand hx hb dX7_times2_6 ?_
  refine lv_topi (nm_r (nx_and _ _) ?_)
  refine lv_istore_n (lv' := [(2, .int (nI ((x >>> 1) &&& (y >>> 1)))), (0, .int (nI x)), (1, .int (nI y))]) hx hb dX7_times2_7 rfl hl (by decide) rfl (fun ls hl => ?_)
  refine lv_iload_n hx hb dX7_times2_8 rfl (lv_at hl 1 rfl) ?_
  refine lv_iconst (v := nI 1) hx hb dX7_times2_9 (by decide) ?_
  refine lv_ishr hx hb dX7_times2_10 ?_
  refine lv_topi (nm_r (m_shr _ _ (by omega) (by omega)) ?_)
  refine lv_iload_n hx hb dX7_times2_11 rfl (lv_at hl 2 rfl) ?_
  refine lv_iconst (v := nI 1) hx hb dX7_times2_12 (by decide) ?_
  refine lv_iand hx hb dX7_times2_13 ?_
  refine lv_topi (nm_r (nx_and _ _) ?_)
  refine lv_iand hx hb dX7_times2_14 ?_
  refine lv_topi (nm_r (nx_and _ _) ?_)
  refine lv_iload_n hx hb dX7_times2_15 rfl (lv_at hl 1 rfl) ?_
  refine lv_iconst (v := nI 1) hx hb dX7_times2_16 (by decide) ?_
  refine lv_iand hx hb dX7_times2_17 ?_
  refine lv_topi (nm_r (nx_and _ _) ?_)
  refine lv_iload_n hx hb dX7_times2_18 rfl (lv_at hl 2 rfl) ?_
  refine lv_iconst (v := nI 1) hx hb dX7_times2_19 (by decide) ?_
  refine lv_ishr hx hb dX7_times2_20 ?_
  refine lv_topi (nm_r (m_shr _ _ (by omega) (by omega)) ?_)
  refine lv_iand hx hb dX7_times2_21 ?_
  refine lv_topi (nm_r (nx_and _ _) ?_)
  refine lv_ixor hx hb dX7_times2_22 ?_
  refine lv_topi (nm_r (nx_xor _ _) ?_)
  refine lv_istore_n (lv' := [(3, .int (nI (((x >>> 1) &&& (y &&& 1)) ^^^ ((x &&& 1) &&& (y >>> 1))))), (2, .int (nI ((x >>> 1) &&& (y >>> 1)))), (0, .int (nI x)), (1, .int (nI y))]) hx hb dX7_times2_23 rfl hl (by decide) rfl (fun ls hl => ?_)
  refine lv_iload_n hx hb dX7_times2_24 rfl (lv_at hl 2 rfl) ?_
  refine lv_iload_n hx hb dX7_times2_25 rfl (lv_at hl 3 rfl) ?_
  refine lv_iand hx hb dX7_times2_26 ?_
  refine lv_topi (nm_r (nx_and _ _) ?_)
  refine lv_iconst (v := nI 1) hx hb dX7_times2_27 (by decide) ?_
  refine lv_iand hx hb dX7_times2_28 ?_
  refine lv_topi (nm_r (nx_and _ _) ?_)
  refine lv_istore (lv' := [(4, .int (nI ((x &&& y) &&& 1))), (3, .int (nI (((x >>> 1) &&& (y &&& 1)) ^^^ ((x &&& 1) &&& (y >>> 1))))), (2, .int (nI ((x >>> 1) &&& (y >>> 1)))), (0, .int (nI x)), (1, .int (nI y))]) hx hb dX7_times2_29 hl (by decide) rfl (fun ls hl => ?_)
  refine lv_iload_n hx hb dX7_times2_31 rfl (lv_at hl 2 rfl) ?_
  refine lv_iload_n hx hb dX7_times2_32 rfl (lv_at hl 1 rfl) ?_
  refine lv_ixor hx hb dX7_times2_33 ?_
  refine lv_topi (nm_r (nx_xor _ _) ?_)
  refine lv_iconst (v := nI 1) hx hb dX7_times2_34 (by decide) ?_
  refine lv_ishl hx hb dX7_times2_35 ?_
  refine lv_topi (nm_r (m_shl _ _ (by omega)) ?_)
  refine lv_iload hx hb dX7_times2_36 (lv_at hl 0 rfl) ?_
  refine lv_iload_n hx hb dX7_times2_38 rfl (lv_at hl 2 rfl) ?_
  refine lv_ixor hx hb dX7_times2_39 ?_
  refine lv_topi (nm_r (nx_xor _ _) ?_)
  refine lv_ior hx hb dX7_times2_40 ?_
  refine lv_topi (nm_r (nx_or _ _) ?_)
  subst hQ
  exact m_iret C0 hS dX7_times2_41 (u := ()) hP (congrArg nI (n_ref2 hxx hyy))
set_option maxHeartbeats 4000000 in
set_option maxRecDepth 100000 in
theorem c_X7_times4 (l : Launch) (D : va_G) (cY : Nat → ClassId) (x y : Nat) (hxx : x < 16) (hyy : y < 16) : m_Mi l yX7_times4 wsX7_times4 1 24 D cY [.int (nI x), .int (nI y)] [] (fun (res : Int32) (u : Unit) => res = nI (n_4 x y)) (fun (u : Unit) => []) := by
  refine m_enterI (cc := cX7_times4) (maxL := 5) (ret := (some .int)) (by decide +kernel) rfl (Nat.le_of_ble_eq_true rfl) ?_
  intro p e s m below meth c A ls C0 hP hD hl
  obtain ⟨hx, hb, hr, hml, hts, hown, hlocks, hK, hA⟩ := id C0
  generalize hQ : MQ below _ _ s 0 0 A = Q
  have hS : va_S A s.heap s.heap [] := va_S.rf
  have hl : lv_has ls 5 [(0, .int (nI x)), (1, .int (nI y))] := hl
  refine lv_iload_n hx hb dX7_times4_0 rfl (lv_at hl 0 rfl) ?_
  refine lv_iconst (v := nI 2) hx hb dX7_times4_1 (by decide) ?_
  refine lv_ishr hx hb dX7_times4_2 ?_
  refine lv_topi (nm_r (m_shr _ _ (by omega) (by omega)) ?_)
  refine lv_iload_n hx hb dX7_times4_3 rfl (lv_at hl 1 rfl) ?_
  refine lv_iconst (v := nI 2) hx hb dX7_times4_4 (by decide) ?_
  refine lv_ishr hx hb dX7_times4_5 ?_
  refine lv_topi (nm_r (m_shr _ _ (by omega) (by omega)) ?_)
  refine m_callSi (As := [.int (nI (x >>> 2)), .int (nI (y >>> 2))]) (rest := []) C0 hl hP hD hS (c_X7_times2 l D cY (x >>> 2) (y >>> 2) (by first | decide | exact Nat.lt_of_le_of_lt Nat.and_le_right (by decide) | (rw [Nat.shiftRight_eq_div_pow]; omega) | exact n_L2.2.2.2.1 _ _) (by first | decide | exact Nat.lt_of_le_of_lt Nat.and_le_right (by decide) | (rw [Nat.shiftRight_eq_div_pow]; omega) | exact n_L2.2.2.2.1 _ _)) (va_cwS 2 hts gX7_times4_X7_times2 rfl rfl rfl (by decide +kernel) ⟨Nat.le_of_ble_eq_true rfl, Nat.le_of_ble_eq_true rfl⟩) dX7_times4_6 [] rfl rfl rfl (Nat.le_of_ble_eq_true rfl) (Nat.zero_le _) (Nat.zero_le _) (fun _ => rfl) (fun r2 u H1 locs hw hP hD hS => ?_)
  try dsimp only at hw
  obtain rfl := hw
  have hP : va_P D vwCl [] H1 := hP
  have hD : va_D A [] := hD
  refine lv_istore_n (lv' := [(2, .int (nI (n_2 (x >>> 2) (y >>> 2)))), (0, .int (nI x)), (1, .int (nI y))]) hx hb dX7_times4_9 rfl hl (by decide) rfl (fun ls hl => ?_)
  refine lv_iload_n hx hb dX7_times4_10 rfl (lv_at hl 1 rfl) ?_
  refine lv_iconst (v := nI 2) hx hb dX7_times4_11 (by decide) ?_
  refine lv_ishr hx hb dX7_times4_12 ?_
  refine lv_topi (nm_r (m_shr _ _ (by omega) (by omega)) ?_)
  refine lv_iload_n hx hb dX7_times4_13 rfl (lv_at hl 2 rfl) ?_
  refine lv_iconst (v := nI 3) hx hb dX7_times4_14 (by decide) ?_
  refine lv_iand hx hb dX7_times4_15 ?_
  refine lv_topi (nm_r (nx_and _ _) ?_)
  refine m_callSi (As := [.int (nI (x >>> 2)), .int (nI (y &&& 3))]) (rest := []) C0 hl hP hD hS (c_X7_times2 l D cY (x >>> 2) (y &&& 3) (by first | decide | exact Nat.lt_of_le_of_lt Nat.and_le_right (by decide) | (rw [Nat.shiftRight_eq_div_pow]; omega) | exact n_L2.2.2.2.1 _ _) (by first | decide | exact Nat.lt_of_le_of_lt Nat.and_le_right (by decide) | (rw [Nat.shiftRight_eq_div_pow]; omega) | exact n_L2.2.2.2.1 _ _)) (va_cwS 2 hts gX7_times4_X7_times2 rfl rfl rfl (by decide +kernel) ⟨Nat.le_of_ble_eq_true rfl, Nat.le_of_ble_eq_true rfl⟩) dX7_times4_16 [] rfl rfl rfl (Nat.le_of_ble_eq_true rfl) (Nat.zero_le _) (Nat.zero_le _) (fun _ => rfl) (fun r4 u H3 locs hw hP hD hS => ?_)
  try dsimp only at hw
  obtain rfl := hw
  have hP : va_P D vwCl [] H3 := hP
  have hD : va_D A [] := hD
  refine lv_iload_n hx hb dX7_times4_19 rfl (lv_at hl 1 rfl) ?_
  refine lv_iconst (v := nI 3) hx hb dX7_times4_20 (by decide) ?_
  refine lv_iand hx hb dX7_times4_21 ?_
  refine lv_topi (nm_r (nx_and _ _) ?_)
  refine lv_iload_n hx hb dX7_times4_22 rfl (lv_at hl 2 rfl) ?_
  refine lv_iconst (v := nI 2) hx hb dX7_times4_23 (by decide) ?_
  refine lv_ishr hx hb dX7_times4_24 ?_
  refine lv_topi (nm_r (m_shr _ _ (by omega) (by omega)) ?_)
  refine m_callSi (As := [.int (nI (x &&& 3)), .int (nI (y >>> 2))]) (rest := [.int (nI (n_2 (x >>> 2) (y &&& 3)))]) C0 hl hP hD hS (c_X7_times2 l D cY (x &&& 3) (y >>> 2) (by first | decide | exact Nat.lt_of_le_of_lt Nat.and_le_right (by decide) | (rw [Nat.shiftRight_eq_div_pow]; omega) | exact n_L2.2.2.2.1 _ _) (by first | decide | exact Nat.lt_of_le_of_lt Nat.and_le_right (by decide) | (rw [Nat.shiftRight_eq_div_pow]; omega) | exact n_L2.2.2.2.1 _ _)) (va_cwS 2 hts gX7_times4_X7_times2 rfl rfl rfl (by decide +kernel) ⟨Nat.le_of_ble_eq_true rfl, Nat.le_of_ble_eq_true rfl⟩) dX7_times4_25 [] rfl rfl rfl (Nat.le_of_ble_eq_true rfl) (Nat.zero_le _) (Nat.zero_le _) (fun _ => rfl) (fun r6 u H5 locs hw hP hD hS => ?_)
  try dsimp only at hw
  obtain rfl := hw
  have hP : va_P D vwCl [] H5 := hP
  have hD : va_D A [] := hD
  refine lv_ixor hx hb dX7_times4_28 ?_
  refine lv_topi (nm_r (nx_xor _ _) ?_)
  refine lv_istore_n (lv' := [(3, .int (nI ((n_2 (x >>> 2) (y &&& 3)) ^^^ (n_2 (x &&& 3) (y >>> 2))))), (2, .int (nI (n_2 (x >>> 2) (y >>> 2)))), (0, .int (nI x)), (1, .int (nI y))]) hx hb dX7_times4_29 rfl hl (by decide) rfl (fun ls hl => ?_)
  refine lv_iload_n hx hb dX7_times4_30 rfl (lv_at hl 2 rfl) ?_
  refine lv_iconst (v := nI 3) hx hb dX7_times4_31 (by decide) ?_
  refine lv_iand hx hb dX7_times4_32 ?_
  refine lv_topi (nm_r (nx_and _ _) ?_)
  refine lv_iload_n hx hb dX7_times4_33 rfl (lv_at hl 3 rfl) ?_
  refine lv_iconst (v := nI 3) hx hb dX7_times4_34 (by decide) ?_
  refine lv_iand hx hb dX7_times4_35 ?_
  refine lv_topi (nm_r (nx_and _ _) ?_)
  refine m_callSi (As := [.int (nI (x &&& 3)), .int (nI (y &&& 3))]) (rest := []) C0 hl hP hD hS (c_X7_times2 l D cY (x &&& 3) (y &&& 3) (by first | decide | exact Nat.lt_of_le_of_lt Nat.and_le_right (by decide) | (rw [Nat.shiftRight_eq_div_pow]; omega) | exact n_L2.2.2.2.1 _ _) (by first | decide | exact Nat.lt_of_le_of_lt Nat.and_le_right (by decide) | (rw [Nat.shiftRight_eq_div_pow]; omega) | exact n_L2.2.2.2.1 _ _)) (va_cwS 2 hts gX7_times4_X7_times2 rfl rfl rfl (by decide +kernel) ⟨Nat.le_of_ble_eq_true rfl, Nat.le_of_ble_eq_true rfl⟩) dX7_times4_36 [] rfl rfl rfl (Nat.le_of_ble_eq_true rfl) (Nat.zero_le _) (Nat.zero_le _) (fun _ => rfl) (fun r8 u H7 locs hw hP hD hS => ?_)
  try dsimp only at hw
  obtain rfl := hw
  have hP : va_P D vwCl [] H7 := hP
  have hD : va_D A [] := hD
  refine lv_istore (lv' := [(4, .int (nI (n_2 (x &&& 3) (y &&& 3)))), (3, .int (nI ((n_2 (x >>> 2) (y &&& 3)) ^^^ (n_2 (x &&& 3) (y >>> 2))))), (2, .int (nI (n_2 (x >>> 2) (y >>> 2)))), (0, .int (nI x)), (1, .int (nI y))]) hx hb dX7_times4_39 hl (by decide) rfl (fun ls hl => ?_)
  refine lv_iload_n hx hb dX7_times4_41 rfl (lv_at hl 2 rfl) ?_
  refine lv_iload_n hx hb dX7_times4_42 rfl (lv_at hl 1 rfl) ?_
  refine lv_ixor hx hb dX7_times4_43 ?_
  refine lv_topi (nm_r (nx_xor _ _) ?_)
  refine lv_iconst (v := nI 2) hx hb dX7_times4_44 (by decide) ?_
  refine lv_ishl hx hb dX7_times4_45 ?_
  refine lv_topi (nm_r (m_shl _ _ (by omega)) ?_)
  refine lv_iload hx hb dX7_times4_46 (lv_at hl 0 rfl) ?_
  refine lv_iload_n hx hb dX7_times4_48 rfl (lv_at hl 2 rfl) ?_
  refine lv_iconst (v := nI 2) hx hb dX7_times4_49 (by decide) ?_
  refine m_callSi (As := [.int (nI (n_2 (x >>> 2) (y >>> 2))), .int (nI 2)]) (rest := [.int (nI (n_2 (x &&& 3) (y &&& 3))), .int (nI (((n_2 (x >>> 2) (y >>> 2)) ^^^ ((n_2 (x >>> 2) (y &&& 3)) ^^^ (n_2 (x &&& 3) (y >>> 2)))) <<< 2))]) C0 hl hP hD hS (c_X7_times2 l D cY (n_2 (x >>> 2) (y >>> 2)) 2 (by first | decide | exact Nat.lt_of_le_of_lt Nat.and_le_right (by decide) | (rw [Nat.shiftRight_eq_div_pow]; omega) | exact n_L2.2.2.2.1 _ _) (by first | decide | exact Nat.lt_of_le_of_lt Nat.and_le_right (by decide) | (rw [Nat.shiftRight_eq_div_pow]; omega) | exact n_L2.2.2.2.1 _ _)) (va_cwS 2 hts gX7_times4_X7_times2 rfl rfl rfl (by decide +kernel) ⟨Nat.le_of_ble_eq_true rfl, Nat.le_of_ble_eq_true rfl⟩) dX7_times4_50 [] rfl rfl rfl (Nat.le_of_ble_eq_true rfl) (Nat.zero_le _) (Nat.zero_le _) (fun _ => rfl) (fun r10 u H9 locs hw hP hD hS => ?_)
  try dsimp only at hw
  obtain rfl := hw
  have hP : va_P D vwCl [] H9 := hP
  have hD : va_D A [] := hD
  refine lv_ixor hx hb dX7_times4_53 ?_
  refine lv_topi (nm_r (nx_xor _ _) ?_)
  refine lv_ior hx hb dX7_times4_54 ?_
  refine lv_topi (nm_r (nx_or _ _) ?_)
  subst hQ
  exact m_iret C0 hS dX7_times4_55 (u := ()) hP (congrArg nI (n_refUp (k := 2) (c := 2) (m := 3) n_L2 (by decide) x y))
set_option maxHeartbeats 4000000 in
set_option maxRecDepth 100000 in
theorem c_X7_times8 (l : Launch) (D : va_G) (cY : Nat → ClassId) (x y : Nat) (hxx : x < 256) (hyy : y < 256) : m_Mi l yX7_times8 wsX7_times8 2 48 D cY [.int (nI x), .int (nI y)] [] (fun (res : Int32) (u : Unit) => res = nI (n_8 x y)) (fun (u : Unit) => []) := by
  refine m_enterI (cc := cX7_times8) (maxL := 5) (ret := (some .int)) (by decide +kernel) rfl (Nat.le_of_ble_eq_true rfl) ?_
  intro p e s m below meth c A ls C0 hP hD hl
  obtain ⟨hx, hb, hr, hml, hts, hown, hlocks, hK, hA⟩ := id C0
  generalize hQ : MQ below _ _ s 0 0 A = Q
  have hS : va_S A s.heap s.heap [] := va_S.rf
  have hl : lv_has ls 5 [(0, .int (nI x)), (1, .int (nI y))] := hl
  refine lv_iload_n hx hb dX7_times8_0 rfl (lv_at hl 0 rfl) ?_
  refine lv_iconst (v := nI 4) hx hb dX7_times8_1 (by decide) ?_
  refine lv_ishr hx hb dX7_times8_2 ?_
  refine lv_topi (nm_r (m_shr _ _ (by omega) (by omega)) ?_)
  refine lv_iload_n hx hb dX7_times8_3 rfl (lv_at hl 1 rfl) ?_
  refine lv_iconst (v := nI 4) hx hb dX7_times8_4 (by decide) ?_
  refine lv_ishr hx hb dX7_times8_5 ?_
  refine lv_topi (nm_r (m_shr _ _ (by omega) (by omega)) ?_)
  refine m_callSi (As := [.int (nI (x >>> 4)), .int (nI (y >>> 4))]) (rest := []) C0 hl hP hD hS (c_X7_times4 l D cY (x >>> 4) (y >>> 4) (by first | decide | exact Nat.lt_of_le_of_lt Nat.and_le_right (by decide) | (rw [Nat.shiftRight_eq_div_pow]; omega) | exact n_L4.2.2.2.1 _ _) (by first | decide | exact Nat.lt_of_le_of_lt Nat.and_le_right (by decide) | (rw [Nat.shiftRight_eq_div_pow]; omega) | exact n_L4.2.2.2.1 _ _)) (va_cwS 2 hts gX7_times8_X7_times4 rfl rfl rfl (by decide +kernel) ⟨Nat.le_of_ble_eq_true rfl, Nat.le_of_ble_eq_true rfl⟩) dX7_times8_6 [] rfl rfl rfl (Nat.le_of_ble_eq_true rfl) (Nat.zero_le _) (Nat.zero_le _) (fun _ => rfl) (fun r2 u H1 locs hw hP hD hS => ?_)
  try dsimp only at hw
  obtain rfl := hw
  have hP : va_P D vwCl [] H1 := hP
  have hD : va_D A [] := hD
  refine lv_istore_n (lv' := [(2, .int (nI (n_4 (x >>> 4) (y >>> 4)))), (0, .int (nI x)), (1, .int (nI y))]) hx hb dX7_times8_9 rfl hl (by decide) rfl (fun ls hl => ?_)
  refine lv_iload_n hx hb dX7_times8_10 rfl (lv_at hl 1 rfl) ?_
  refine lv_iconst (v := nI 4) hx hb dX7_times8_11 (by decide) ?_
  refine lv_ishr hx hb dX7_times8_12 ?_
  refine lv_topi (nm_r (m_shr _ _ (by omega) (by omega)) ?_)
  refine lv_iload_n hx hb dX7_times8_13 rfl (lv_at hl 2 rfl) ?_
  refine lv_bipush (v := nI 15) hx hb dX7_times8_14 (by decide) ?_
  refine lv_iand hx hb dX7_times8_16 ?_
  refine lv_topi (nm_r (nx_and _ _) ?_)
  refine m_callSi (As := [.int (nI (x >>> 4)), .int (nI (y &&& 15))]) (rest := []) C0 hl hP hD hS (c_X7_times4 l D cY (x >>> 4) (y &&& 15) (by first | decide | exact Nat.lt_of_le_of_lt Nat.and_le_right (by decide) | (rw [Nat.shiftRight_eq_div_pow]; omega) | exact n_L4.2.2.2.1 _ _) (by first | decide | exact Nat.lt_of_le_of_lt Nat.and_le_right (by decide) | (rw [Nat.shiftRight_eq_div_pow]; omega) | exact n_L4.2.2.2.1 _ _)) (va_cwS 2 hts gX7_times8_X7_times4 rfl rfl rfl (by decide +kernel) ⟨Nat.le_of_ble_eq_true rfl, Nat.le_of_ble_eq_true rfl⟩) dX7_times8_17 [] rfl rfl rfl (Nat.le_of_ble_eq_true rfl) (Nat.zero_le _) (Nat.zero_le _) (fun _ => rfl) (fun r4 u H3 locs hw hP hD hS => ?_)
  try dsimp only at hw
  obtain rfl := hw
  have hP : va_P D vwCl [] H3 := hP
  have hD : va_D A [] := hD
  refine lv_iload_n hx hb dX7_times8_20 rfl (lv_at hl 1 rfl) ?_
  refine lv_bipush (v := nI 15) hx hb dX7_times8_21 (by decide) ?_
  refine lv_iand hx hb dX7_times8_23 ?_
  refine lv_topi (nm_r (nx_and _ _) ?_)
  refine lv_iload_n hx hb dX7_times8_24 rfl (lv_at hl 2 rfl) ?_
  refine lv_iconst (v := nI 4) hx hb dX7_times8_25 (by decide) ?_
  refine lv_ishr hx hb dX7_times8_26 ?_
  refine lv_topi (nm_r (m_shr _ _ (by omega) (by omega)) ?_)
  refine m_callSi (As := [.int (nI (x &&& 15)), .int (nI (y >>> 4))]) (rest := [.int (nI (n_4 (x >>> 4) (y &&& 15)))]) C0 hl hP hD hS (c_X7_times4 l D cY (x &&& 15) (y >>> 4) (by first | decide | exact Nat.lt_of_le_of_lt Nat.and_le_right (by decide) | (rw [Nat.shiftRight_eq_div_pow]; omega) | exact n_L4.2.2.2.1 _ _) (by first | decide | exact Nat.lt_of_le_of_lt Nat.and_le_right (by decide) | (rw [Nat.shiftRight_eq_div_pow]; omega) | exact n_L4.2.2.2.1 _ _)) (va_cwS 2 hts gX7_times8_X7_times4 rfl rfl rfl (by decide +kernel) ⟨Nat.le_of_ble_eq_true rfl, Nat.le_of_ble_eq_true rfl⟩) dX7_times8_27 [] rfl rfl rfl (Nat.le_of_ble_eq_true rfl) (Nat.zero_le _) (Nat.zero_le _) (fun _ => rfl) (fun r6 u H5 locs hw hP hD hS => ?_)
  try dsimp only at hw
  obtain rfl := hw
  have hP : va_P D vwCl [] H5 := hP
  have hD : va_D A [] := hD
  refine lv_ixor hx hb dX7_times8_30 ?_
  refine lv_topi (nm_r (nx_xor _ _) ?_)
  refine lv_istore_n (lv' := [(3, .int (nI ((n_4 (x >>> 4) (y &&& 15)) ^^^ (n_4 (x &&& 15) (y >>> 4))))), (2, .int (nI (n_4 (x >>> 4) (y >>> 4)))), (0, .int (nI x)), (1, .int (nI y))]) hx hb dX7_times8_31 rfl hl (by decide) rfl (fun ls hl => ?_)
  refine lv_iload_n hx hb dX7_times8_32 rfl (lv_at hl 2 rfl) ?_
  refine lv_bipush (v := nI 15) hx hb dX7_times8_33 (by decide) ?_
  refine lv_iand hx hb dX7_times8_35 ?_
  refine lv_topi (nm_r (nx_and _ _) ?_)
  refine lv_iload_n hx hb dX7_times8_36 rfl (lv_at hl 3 rfl) ?_
  refine lv_bipush (v := nI 15) hx hb dX7_times8_37 (by decide) ?_
  refine lv_iand hx hb dX7_times8_39 ?_
  refine lv_topi (nm_r (nx_and _ _) ?_)
  refine m_callSi (As := [.int (nI (x &&& 15)), .int (nI (y &&& 15))]) (rest := []) C0 hl hP hD hS (c_X7_times4 l D cY (x &&& 15) (y &&& 15) (by first | decide | exact Nat.lt_of_le_of_lt Nat.and_le_right (by decide) | (rw [Nat.shiftRight_eq_div_pow]; omega) | exact n_L4.2.2.2.1 _ _) (by first | decide | exact Nat.lt_of_le_of_lt Nat.and_le_right (by decide) | (rw [Nat.shiftRight_eq_div_pow]; omega) | exact n_L4.2.2.2.1 _ _)) (va_cwS 2 hts gX7_times8_X7_times4 rfl rfl rfl (by decide +kernel) ⟨Nat.le_of_ble_eq_true rfl, Nat.le_of_ble_eq_true rfl⟩) dX7_times8_40 [] rfl rfl rfl (Nat.le_of_ble_eq_true rfl) (Nat.zero_le _) (Nat.zero_le _) (fun _ => rfl) (fun r8 u H7 locs hw hP hD hS => ?_)
  try dsimp only at hw
  obtain rfl := hw
  have hP : va_P D vwCl [] H7 := hP
  have hD : va_D A [] := hD
  refine lv_istore (lv' := [(4, .int (nI (n_4 (x &&& 15) (y &&& 15)))), (3, .int (nI ((n_4 (x >>> 4) (y &&& 15)) ^^^ (n_4 (x &&& 15) (y >>> 4))))), (2, .int (nI (n_4 (x >>> 4) (y >>> 4)))), (0, .int (nI x)), (1, .int (nI y))]) hx hb dX7_times8_43 hl (by decide) rfl (fun ls hl => ?_)
  refine lv_iload_n hx hb dX7_times8_45 rfl (lv_at hl 2 rfl) ?_
  refine lv_iload_n hx hb dX7_times8_46 rfl (lv_at hl 1 rfl) ?_
  refine lv_ixor hx hb dX7_times8_47 ?_
  refine lv_topi (nm_r (nx_xor _ _) ?_)
  refine lv_iconst (v := nI 4) hx hb dX7_times8_48 (by decide) ?_
  refine lv_ishl hx hb dX7_times8_49 ?_
  refine lv_topi (nm_r (m_shl _ _ (by omega)) ?_)
  refine lv_iload hx hb dX7_times8_50 (lv_at hl 0 rfl) ?_
  refine lv_iload_n hx hb dX7_times8_52 rfl (lv_at hl 2 rfl) ?_
  refine lv_bipush (v := nI 8) hx hb dX7_times8_53 (by decide) ?_
  refine m_callSi (As := [.int (nI (n_4 (x >>> 4) (y >>> 4))), .int (nI 8)]) (rest := [.int (nI (n_4 (x &&& 15) (y &&& 15))), .int (nI (((n_4 (x >>> 4) (y >>> 4)) ^^^ ((n_4 (x >>> 4) (y &&& 15)) ^^^ (n_4 (x &&& 15) (y >>> 4)))) <<< 4))]) C0 hl hP hD hS (c_X7_times4 l D cY (n_4 (x >>> 4) (y >>> 4)) 8 (by first | decide | exact Nat.lt_of_le_of_lt Nat.and_le_right (by decide) | (rw [Nat.shiftRight_eq_div_pow]; omega) | exact n_L4.2.2.2.1 _ _) (by first | decide | exact Nat.lt_of_le_of_lt Nat.and_le_right (by decide) | (rw [Nat.shiftRight_eq_div_pow]; omega) | exact n_L4.2.2.2.1 _ _)) (va_cwS 2 hts gX7_times8_X7_times4 rfl rfl rfl (by decide +kernel) ⟨Nat.le_of_ble_eq_true rfl, Nat.le_of_ble_eq_true rfl⟩) dX7_times8_55 [] rfl rfl rfl (Nat.le_of_ble_eq_true rfl) (Nat.zero_le _) (Nat.zero_le _) (fun _ => rfl) (fun r10 u H9 locs hw hP hD hS => ?_)
  try dsimp only at hw
  obtain rfl := hw
  have hP : va_P D vwCl [] H9 := hP
  have hD : va_D A [] := hD
  refine lv_ixor hx hb dX7_times8_58 ?_
  refine lv_topi (nm_r (nx_xor _ _) ?_)
  refine lv_ior hx hb dX7_times8_59 ?_
  refine lv_topi (nm_r (nx_or _ _) ?_)
  subst hQ
  exact m_iret C0 hS dX7_times8_60 (u := ()) hP (congrArg nI (n_refUp (k := 4) (c := 8) (m := 15) n_L4 (by decide) x y))
set_option maxHeartbeats 4000000 in
set_option maxRecDepth 100000 in
theorem c_X7_times (l : Launch) (D : va_G) (cY : Nat → ClassId) (x y : Nat) (hxx : x < 65536) (hyy : y < 65536) : m_Mi l yX7_times wsX7_times 3 72 D cY [.int (nI x), .int (nI y)] [] (fun (res : Int32) (u : Unit) => res = nI (nm x y)) (fun (u : Unit) => []) := by
  refine m_enterI (cc := cX7_times) (maxL := 5) (ret := (some .int)) (by decide +kernel) rfl (Nat.le_of_ble_eq_true rfl) ?_
  intro p e s m below meth c A ls C0 hP hD hl
  obtain ⟨hx, hb, hr, hml, hts, hown, hlocks, hK, hA⟩ := id C0
  generalize hQ : MQ below _ _ s 0 0 A = Q
  have hS : va_S A s.heap s.heap [] := va_S.rf
  have hl : lv_has ls 5 [(0, .int (nI x)), (1, .int (nI y))] := hl
  refine lv_iload_n hx hb dX7_times_0 rfl (lv_at hl 0 rfl) ?_
  refine lv_bipush (v := nI 8) hx hb dX7_times_1 (by decide) ?_
  refine lv_ishr hx hb dX7_times_3 ?_
  refine lv_topi (nm_r (m_shr _ _ (by omega) (by omega)) ?_)
  refine lv_iload_n hx hb dX7_times_4 rfl (lv_at hl 1 rfl) ?_
  refine lv_bipush (v := nI 8) hx hb dX7_times_5 (by decide) ?_
  refine lv_ishr hx hb dX7_times_7 ?_
  refine lv_topi (nm_r (m_shr _ _ (by omega) (by omega)) ?_)
  refine m_callSi (As := [.int (nI (x >>> 8)), .int (nI (y >>> 8))]) (rest := []) C0 hl hP hD hS (c_X7_times8 l D cY (x >>> 8) (y >>> 8) (by first | decide | exact Nat.lt_of_le_of_lt Nat.and_le_right (by decide) | (rw [Nat.shiftRight_eq_div_pow]; omega) | exact n_L8.2.2.2.1 _ _) (by first | decide | exact Nat.lt_of_le_of_lt Nat.and_le_right (by decide) | (rw [Nat.shiftRight_eq_div_pow]; omega) | exact n_L8.2.2.2.1 _ _)) (va_cwS 2 hts gX7_times_X7_times8 rfl rfl rfl (by decide +kernel) ⟨Nat.le_of_ble_eq_true rfl, Nat.le_of_ble_eq_true rfl⟩) dX7_times_8 [] rfl rfl rfl (Nat.le_of_ble_eq_true rfl) (Nat.zero_le _) (Nat.zero_le _) (fun _ => rfl) (fun r2 u H1 locs hw hP hD hS => ?_)
  try dsimp only at hw
  obtain rfl := hw
  have hP : va_P D vwCl [] H1 := hP
  have hD : va_D A [] := hD
  refine lv_istore_n (lv' := [(2, .int (nI (n_8 (x >>> 8) (y >>> 8)))), (0, .int (nI x)), (1, .int (nI y))]) hx hb dX7_times_11 rfl hl (by decide) rfl (fun ls hl => ?_)
  refine lv_iload_n hx hb dX7_times_12 rfl (lv_at hl 1 rfl) ?_
  refine lv_bipush (v := nI 8) hx hb dX7_times_13 (by decide) ?_
  refine lv_ishr hx hb dX7_times_15 ?_
  refine lv_topi (nm_r (m_shr _ _ (by omega) (by omega)) ?_)
  refine lv_iload_n hx hb dX7_times_16 rfl (lv_at hl 2 rfl) ?_
  refine lv_sipush (v := nI 255) hx hb dX7_times_17 (by decide) ?_
  refine lv_iand hx hb dX7_times_20 ?_
  refine lv_topi (nm_r (nx_and _ _) ?_)
  refine m_callSi (As := [.int (nI (x >>> 8)), .int (nI (y &&& 255))]) (rest := []) C0 hl hP hD hS (c_X7_times8 l D cY (x >>> 8) (y &&& 255) (by first | decide | exact Nat.lt_of_le_of_lt Nat.and_le_right (by decide) | (rw [Nat.shiftRight_eq_div_pow]; omega) | exact n_L8.2.2.2.1 _ _) (by first | decide | exact Nat.lt_of_le_of_lt Nat.and_le_right (by decide) | (rw [Nat.shiftRight_eq_div_pow]; omega) | exact n_L8.2.2.2.1 _ _)) (va_cwS 2 hts gX7_times_X7_times8 rfl rfl rfl (by decide +kernel) ⟨Nat.le_of_ble_eq_true rfl, Nat.le_of_ble_eq_true rfl⟩) dX7_times_21 [] rfl rfl rfl (Nat.le_of_ble_eq_true rfl) (Nat.zero_le _) (Nat.zero_le _) (fun _ => rfl) (fun r4 u H3 locs hw hP hD hS => ?_)
  try dsimp only at hw
  obtain rfl := hw
  have hP : va_P D vwCl [] H3 := hP
  have hD : va_D A [] := hD
  refine lv_iload_n hx hb dX7_times_24 rfl (lv_at hl 1 rfl) ?_
  refine lv_sipush (v := nI 255) hx hb dX7_times_25 (by decide) ?_
  refine lv_iand hx hb dX7_times_28 ?_
  refine lv_topi (nm_r (nx_and _ _) ?_)
  refine lv_iload_n hx hb dX7_times_29 rfl (lv_at hl 2 rfl) ?_
  refine lv_bipush (v := nI 8) hx hb dX7_times_30 (by decide) ?_
  refine lv_ishr hx hb dX7_times_32 ?_
  refine lv_topi (nm_r (m_shr _ _ (by omega) (by omega)) ?_)
  refine m_callSi (As := [.int (nI (x &&& 255)), .int (nI (y >>> 8))]) (rest := [.int (nI (n_8 (x >>> 8) (y &&& 255)))]) C0 hl hP hD hS (c_X7_times8 l D cY (x &&& 255) (y >>> 8) (by first | decide | exact Nat.lt_of_le_of_lt Nat.and_le_right (by decide) | (rw [Nat.shiftRight_eq_div_pow]; omega) | exact n_L8.2.2.2.1 _ _) (by first | decide | exact Nat.lt_of_le_of_lt Nat.and_le_right (by decide) | (rw [Nat.shiftRight_eq_div_pow]; omega) | exact n_L8.2.2.2.1 _ _)) (va_cwS 2 hts gX7_times_X7_times8 rfl rfl rfl (by decide +kernel) ⟨Nat.le_of_ble_eq_true rfl, Nat.le_of_ble_eq_true rfl⟩) dX7_times_33 [] rfl rfl rfl (Nat.le_of_ble_eq_true rfl) (Nat.zero_le _) (Nat.zero_le _) (fun _ => rfl) (fun r6 u H5 locs hw hP hD hS => ?_)
  try dsimp only at hw
  obtain rfl := hw
  have hP : va_P D vwCl [] H5 := hP
  have hD : va_D A [] := hD
  refine lv_ixor hx hb dX7_times_36 ?_
  refine lv_topi (nm_r (nx_xor _ _) ?_)
  refine lv_istore_n (lv' := [(3, .int (nI ((n_8 (x >>> 8) (y &&& 255)) ^^^ (n_8 (x &&& 255) (y >>> 8))))), (2, .int (nI (n_8 (x >>> 8) (y >>> 8)))), (0, .int (nI x)), (1, .int (nI y))]) hx hb dX7_times_37 rfl hl (by decide) rfl (fun ls hl => ?_)
  refine lv_iload_n hx hb dX7_times_38 rfl (lv_at hl 2 rfl) ?_
  refine lv_sipush (v := nI 255) hx hb dX7_times_39 (by decide) ?_
  refine lv_iand hx hb dX7_times_42 ?_
  refine lv_topi (nm_r (nx_and _ _) ?_)
  refine lv_iload_n hx hb dX7_times_43 rfl (lv_at hl 3 rfl) ?_
  refine lv_sipush (v := nI 255) hx hb dX7_times_44 (by decide) ?_
  refine lv_iand hx hb dX7_times_47 ?_
  refine lv_topi (nm_r (nx_and _ _) ?_)
  refine m_callSi (As := [.int (nI (x &&& 255)), .int (nI (y &&& 255))]) (rest := []) C0 hl hP hD hS (c_X7_times8 l D cY (x &&& 255) (y &&& 255) (by first | decide | exact Nat.lt_of_le_of_lt Nat.and_le_right (by decide) | (rw [Nat.shiftRight_eq_div_pow]; omega) | exact n_L8.2.2.2.1 _ _) (by first | decide | exact Nat.lt_of_le_of_lt Nat.and_le_right (by decide) | (rw [Nat.shiftRight_eq_div_pow]; omega) | exact n_L8.2.2.2.1 _ _)) (va_cwS 2 hts gX7_times_X7_times8 rfl rfl rfl (by decide +kernel) ⟨Nat.le_of_ble_eq_true rfl, Nat.le_of_ble_eq_true rfl⟩) dX7_times_48 [] rfl rfl rfl (Nat.le_of_ble_eq_true rfl) (Nat.zero_le _) (Nat.zero_le _) (fun _ => rfl) (fun r8 u H7 locs hw hP hD hS => ?_)
  try dsimp only at hw
  obtain rfl := hw
  have hP : va_P D vwCl [] H7 := hP
  have hD : va_D A [] := hD
  refine lv_istore (lv' := [(4, .int (nI (n_8 (x &&& 255) (y &&& 255)))), (3, .int (nI ((n_8 (x >>> 8) (y &&& 255)) ^^^ (n_8 (x &&& 255) (y >>> 8))))), (2, .int (nI (n_8 (x >>> 8) (y >>> 8)))), (0, .int (nI x)), (1, .int (nI y))]) hx hb dX7_times_51 hl (by decide) rfl (fun ls hl => ?_)
  refine lv_iload_n hx hb dX7_times_53 rfl (lv_at hl 2 rfl) ?_
  refine lv_iload_n hx hb dX7_times_54 rfl (lv_at hl 1 rfl) ?_
  refine lv_ixor hx hb dX7_times_55 ?_
  refine lv_topi (nm_r (nx_xor _ _) ?_)
  refine lv_bipush (v := nI 8) hx hb dX7_times_56 (by decide) ?_
  refine lv_ishl hx hb dX7_times_58 ?_
  refine lv_topi (nm_r (m_shl _ _ (by omega)) ?_)
  refine lv_iload hx hb dX7_times_59 (lv_at hl 0 rfl) ?_
  refine lv_iload_n hx hb dX7_times_61 rfl (lv_at hl 2 rfl) ?_
  refine lv_sipush (v := nI 128) hx hb dX7_times_62 (by decide) ?_
  refine m_callSi (As := [.int (nI (n_8 (x >>> 8) (y >>> 8))), .int (nI 128)]) (rest := [.int (nI (n_8 (x &&& 255) (y &&& 255))), .int (nI (((n_8 (x >>> 8) (y >>> 8)) ^^^ ((n_8 (x >>> 8) (y &&& 255)) ^^^ (n_8 (x &&& 255) (y >>> 8)))) <<< 8))]) C0 hl hP hD hS (c_X7_times8 l D cY (n_8 (x >>> 8) (y >>> 8)) 128 (by first | decide | exact Nat.lt_of_le_of_lt Nat.and_le_right (by decide) | (rw [Nat.shiftRight_eq_div_pow]; omega) | exact n_L8.2.2.2.1 _ _) (by first | decide | exact Nat.lt_of_le_of_lt Nat.and_le_right (by decide) | (rw [Nat.shiftRight_eq_div_pow]; omega) | exact n_L8.2.2.2.1 _ _)) (va_cwS 2 hts gX7_times_X7_times8 rfl rfl rfl (by decide +kernel) ⟨Nat.le_of_ble_eq_true rfl, Nat.le_of_ble_eq_true rfl⟩) dX7_times_65 [] rfl rfl rfl (Nat.le_of_ble_eq_true rfl) (Nat.zero_le _) (Nat.zero_le _) (fun _ => rfl) (fun r10 u H9 locs hw hP hD hS => ?_)
  try dsimp only at hw
  obtain rfl := hw
  have hP : va_P D vwCl [] H9 := hP
  have hD : va_D A [] := hD
  refine lv_ixor hx hb dX7_times_68 ?_
  refine lv_topi (nm_r (nx_xor _ _) ?_)
  refine lv_ior hx hb dX7_times_69 ?_
  refine lv_topi (nm_r (nx_or _ _) ?_)
  subst hQ
  exact m_iret C0 hS dX7_times_70 (u := ()) hP (congrArg nI (n_refUp (k := 8) (c := 128) (m := 255) n_L8 (by decide) x y))
set_option maxHeartbeats 4000000 in
set_option maxRecDepth 100000 in
theorem c_X7_powered (l : Launch) (D : va_G) (cY : Nat → ClassId) (x ex : Nat) (hxx : x < 65536) (hex : ex < 2 ^ 31) : m_Mi l yX7_powered wsX7_powered 4 96 D cY [.int (nI x), .int (nI ex)] [] (fun (res : Int32) (u : Unit) => res = nI (np x ex)) (fun (u : Unit) => []) := by
  refine m_enterI (cc := cX7_powered) (maxL := 5) (ret := (some .int)) (by decide +kernel) rfl (Nat.le_of_ble_eq_true rfl) ?_
  intro p e s m below meth c A ls C0 hP hD hl
  obtain ⟨hx, hb, hr, hml, hts, hown, hlocks, hK, hA⟩ := id C0
  generalize hQ : MQ below _ _ s 0 0 A = Q
  have hS : va_S A s.heap s.heap [] := va_S.rf
  have hl : lv_has ls 5 [(0, .int (nI x)), (1, .int (nI ex))] := hl
  refine lv_iconst (v := nI 1) hx hb dX7_powered_0 (by decide) ?_
  refine lv_istore_n (lv' := [(2, .int (nI 1)), (0, .int (nI x)), (1, .int (nI ex))]) hx hb dX7_powered_1 rfl hl (by decide) rfl (fun ls hl => ?_)
  refine lv_iload_n hx hb dX7_powered_2 rfl (lv_at hl 1 rfl) ?_
  refine lv_istore_n (lv' := [(3, .int (nI x)), (2, .int (nI 1)), (0, .int (nI x)), (1, .int (nI ex))]) hx hb dX7_powered_3 rfl hl (by decide) rfl (fun ls hl => ?_)
  refine lv_iload_n hx hb dX7_powered_4 rfl (lv_at hl 3 rfl) ?_
  refine lv_istore (lv' := [(4, .int (nI ex)), (3, .int (nI x)), (2, .int (nI 1)), (0, .int (nI x)), (1, .int (nI ex))]) hx hb dX7_powered_5 hl (by decide) rfl (fun ls hl => ?_)
  have lp7_1 : ∀ (nn : Nat) (z : Nat) (sq : Nat) (re : Nat) (H : Heap) (locs : List Loc) (ls : Array Slot), (z < 65536) → (sq < 65536) → (re < 2 ^ 31) → (nm z (np sq re) = np x ex) → re < nn → va_P D vwCl [] H → va_D A [] → va_S A s.heap H locs → lv_has ls 5 [(2, .int (nI z)), (3, .int (nI sq)), (4, .int (nI re))] → W p l e { frames := 4, cells := 0, slots := 0, locals := 96 } s m ([.int (nI x), .int (nI ex)] : List Value).toArray below meth c H locs 0 0 Q (F0 m 7 ls []) := by
    intro nn
    induction nn with
    | zero => intros; omega
    | succ nn ih7 =>
      intro z sq re H locs ls hz hsq hre hv hmz hP hD hS hl
      refine lv_iload hx hb dX7_powered_7 (lv_at hl 2 rfl) ?_
      refine lv_if_le (tgt := 45) hx hb dX7_powered_9 (by decide) (fun c9 => ?_) (fun c9 => ?_)
      · have c9 : re ≤ 0 := (nI_leI (a := re) (b := 0) (by first | omega | exact Nat.lt_of_le_of_lt Nat.and_le_right (by decide) | exact Nat.lt_trans (nm_lt _ _) (by decide) | exact Nat.lt_trans (np_lt _ _) (by decide) | exact Nat.lt_trans (p_at_lt htx) (by decide)) (by first | omega | exact Nat.lt_of_le_of_lt Nat.and_le_right (by decide) | exact Nat.lt_trans (nm_lt _ _) (by decide) | exact Nat.lt_trans (np_lt _ _) (by decide) | exact Nat.lt_trans (p_at_lt htx) (by decide))).mp c9
        refine lv_iload_n hx hb dX7_powered_45 rfl (lv_at hl 0 rfl) ?_
        subst hQ
        exact m_iret C0 hS dX7_powered_46 (u := ()) hP (by rw [← hv, show re = 0 by omega]; exact congrArg nI (nm_one' hz).symm)
      · have c9 : ¬ (re ≤ 0) := fun q => c9 ((nI_leI (a := re) (b := 0) (by first | omega | exact Nat.lt_of_le_of_lt Nat.and_le_right (by decide) | exact Nat.lt_trans (nm_lt _ _) (by decide) | exact Nat.lt_trans (np_lt _ _) (by decide) | exact Nat.lt_trans (p_at_lt htx) (by decide)) (by first | omega | exact Nat.lt_of_le_of_lt Nat.and_le_right (by decide) | exact Nat.lt_trans (nm_lt _ _) (by decide) | exact Nat.lt_trans (np_lt _ _) (by decide) | exact Nat.lt_trans (p_at_lt htx) (by decide))).mpr q)
        refine lv_iload hx hb dX7_powered_12 (lv_at hl 2 rfl) ?_
        refine lv_iconst (v := nI 1) hx hb dX7_powered_14 (by decide) ?_
        refine lv_iand hx hb dX7_powered_15 ?_
        refine lv_topi (nm_r (nx_and _ _) ?_)
        refine lv_iconst (v := nI 1) hx hb dX7_powered_16 (by decide) ?_
        refine lv_icmp_ne (tgt := 28) hx hb dX7_powered_17 (by decide) (fun c17 => ?_) (fun c17 => ?_)
        · have c17 : ¬ ((re &&& 1) = 1) := fun q => c17 ((nI_eq (a := (re &&& 1)) (b := 1) (by first | omega | exact Nat.lt_of_le_of_lt Nat.and_le_right (by decide) | exact Nat.lt_trans (nm_lt _ _) (by decide) | exact Nat.lt_trans (np_lt _ _) (by decide) | exact Nat.lt_trans (p_at_lt htx) (by decide)) (by first | omega | exact Nat.lt_of_le_of_lt Nat.and_le_right (by decide) | exact Nat.lt_trans (nm_lt _ _) (by decide) | exact Nat.lt_trans (np_lt _ _) (by decide) | exact Nat.lt_trans (p_at_lt htx) (by decide))).mpr q)
          refine lv_iload_n hx hb dX7_powered_28 rfl (lv_at hl 0 rfl) ?_
          refine lv_istore_n (lv' := [(2, .int (nI z)), (3, .int (nI sq)), (4, .int (nI re))]) hx hb dX7_powered_29 rfl hl (by decide) rfl (fun ls hl => ?_)
          refine lv_iload_n hx hb dX7_powered_30 rfl (lv_at hl 1 rfl) ?_
          refine lv_iload_n hx hb dX7_powered_31 rfl (lv_at hl 1 rfl) ?_
          refine m_callSi (As := [.int (nI sq), .int (nI sq)]) (rest := []) C0 hl hP hD hS (c_X7_times l D cY sq sq (by first | assumption | omega | exact nm_lt _ _ | exact np_lt _ _ | decide) (by first | assumption | omega | exact nm_lt _ _ | exact np_lt _ _ | decide)) (va_cwS 2 hts gX7_powered_X7_times rfl rfl rfl (by decide +kernel) ⟨Nat.le_of_ble_eq_true rfl, Nat.le_of_ble_eq_true rfl⟩) dX7_powered_32 [] rfl rfl rfl (Nat.le_of_ble_eq_true rfl) (Nat.zero_le _) (Nat.zero_le _) (fun _ => rfl) (fun r3 u H2 locs hw hP hD hS => ?_)
          try dsimp only at hw
          obtain rfl := hw
          have hP : va_P D vwCl [] H2 := hP
          have hD : va_D A [] := hD
          refine lv_istore_n (lv' := [(3, .int (nI (nm sq sq))), (2, .int (nI z)), (4, .int (nI re))]) hx hb dX7_powered_35 rfl hl (by decide) rfl (fun ls hl => ?_)
          refine lv_iload hx hb dX7_powered_36 (lv_at hl 2 rfl) ?_
          refine lv_iconst (v := nI 1) hx hb dX7_powered_38 (by decide) ?_
          refine lv_ishr hx hb dX7_powered_39 ?_
          refine lv_topi (nm_r (m_shr _ _ (by omega) (by omega)) ?_)
          refine lv_istore (lv' := [(4, .int (nI (re >>> 1))), (3, .int (nI (nm sq sq))), (2, .int (nI z))]) hx hb dX7_powered_40 hl (by decide) rfl (fun ls hl => ?_)
          refine lv_goto (tgt := 7) hx hb dX7_powered_42 (by decide) ?_
          have hlt : re >>> 1 < re := by (rw [Nat.shiftRight_eq_div_pow]; omega)
          exact ih7 z (nm sq sq) (re >>> 1) _ _ ls (by first | assumption | exact nm_lt _ _) (nm_lt _ _) (by (rw [Nat.shiftRight_eq_div_pow]; omega)) (by (have e1 : re >>> 1 = re / 2 := by rw [Nat.shiftRight_eq_div_pow]); (have e2 : re &&& 1 = re % 2 := Nat.and_one_is_mod re); rw [e1]; rw [e2] at c17; first | (rw [← np_dbl, show 2 * (re / 2) = re by omega]; exact hv) | (rw [nm_assoc, ← np_odd (a := re / 2), show 2 * (re / 2) + 1 = re by omega]; exact hv)) (by omega) hP hD hS (lv_sub hl [2, 1, 0] rfl)
        · have c17 : (re &&& 1) = 1 := (nI_eq (a := (re &&& 1)) (b := 1) (by first | omega | exact Nat.lt_of_le_of_lt Nat.and_le_right (by decide) | exact Nat.lt_trans (nm_lt _ _) (by decide) | exact Nat.lt_trans (np_lt _ _) (by decide) | exact Nat.lt_trans (p_at_lt htx) (by decide)) (by first | omega | exact Nat.lt_of_le_of_lt Nat.and_le_right (by decide) | exact Nat.lt_trans (nm_lt _ _) (by decide) | exact Nat.lt_trans (np_lt _ _) (by decide) | exact Nat.lt_trans (p_at_lt htx) (by decide))).mp c17
          refine lv_iload_n hx hb dX7_powered_20 rfl (lv_at hl 0 rfl) ?_
          refine lv_iload_n hx hb dX7_powered_21 rfl (lv_at hl 1 rfl) ?_
          refine m_callSi (As := [.int (nI z), .int (nI sq)]) (rest := []) C0 hl hP hD hS (c_X7_times l D cY z sq (by first | assumption | omega | exact nm_lt _ _ | exact np_lt _ _ | decide) (by first | assumption | omega | exact nm_lt _ _ | exact np_lt _ _ | decide)) (va_cwS 2 hts gX7_powered_X7_times rfl rfl rfl (by decide +kernel) ⟨Nat.le_of_ble_eq_true rfl, Nat.le_of_ble_eq_true rfl⟩) dX7_powered_22 [] rfl rfl rfl (Nat.le_of_ble_eq_true rfl) (Nat.zero_le _) (Nat.zero_le _) (fun _ => rfl) (fun r5 u H4 locs hw hP hD hS => ?_)
          try dsimp only at hw
          obtain rfl := hw
          have hP : va_P D vwCl [] H4 := hP
          have hD : va_D A [] := hD
          refine lv_goto (tgt := 29) hx hb dX7_powered_25 (by decide) ?_
          refine lv_istore_n (lv' := [(2, .int (nI (nm z sq))), (3, .int (nI sq)), (4, .int (nI re))]) hx hb dX7_powered_29 rfl hl (by decide) rfl (fun ls hl => ?_)
          refine lv_iload_n hx hb dX7_powered_30 rfl (lv_at hl 1 rfl) ?_
          refine lv_iload_n hx hb dX7_powered_31 rfl (lv_at hl 1 rfl) ?_
          refine m_callSi (As := [.int (nI sq), .int (nI sq)]) (rest := []) C0 hl hP hD hS (c_X7_times l D cY sq sq (by first | assumption | omega | exact nm_lt _ _ | exact np_lt _ _ | decide) (by first | assumption | omega | exact nm_lt _ _ | exact np_lt _ _ | decide)) (va_cwS 2 hts gX7_powered_X7_times rfl rfl rfl (by decide +kernel) ⟨Nat.le_of_ble_eq_true rfl, Nat.le_of_ble_eq_true rfl⟩) dX7_powered_32 [] rfl rfl rfl (Nat.le_of_ble_eq_true rfl) (Nat.zero_le _) (Nat.zero_le _) (fun _ => rfl) (fun r7 u H6 locs hw hP hD hS => ?_)
          try dsimp only at hw
          obtain rfl := hw
          have hP : va_P D vwCl [] H6 := hP
          have hD : va_D A [] := hD
          refine lv_istore_n (lv' := [(3, .int (nI (nm sq sq))), (2, .int (nI (nm z sq))), (4, .int (nI re))]) hx hb dX7_powered_35 rfl hl (by decide) rfl (fun ls hl => ?_)
          refine lv_iload hx hb dX7_powered_36 (lv_at hl 2 rfl) ?_
          refine lv_iconst (v := nI 1) hx hb dX7_powered_38 (by decide) ?_
          refine lv_ishr hx hb dX7_powered_39 ?_
          refine lv_topi (nm_r (m_shr _ _ (by omega) (by omega)) ?_)
          refine lv_istore (lv' := [(4, .int (nI (re >>> 1))), (3, .int (nI (nm sq sq))), (2, .int (nI (nm z sq)))]) hx hb dX7_powered_40 hl (by decide) rfl (fun ls hl => ?_)
          refine lv_goto (tgt := 7) hx hb dX7_powered_42 (by decide) ?_
          have hlt : re >>> 1 < re := by (rw [Nat.shiftRight_eq_div_pow]; omega)
          exact ih7 (nm z sq) (nm sq sq) (re >>> 1) _ _ ls (by first | assumption | exact nm_lt _ _) (nm_lt _ _) (by (rw [Nat.shiftRight_eq_div_pow]; omega)) (by (have e1 : re >>> 1 = re / 2 := by rw [Nat.shiftRight_eq_div_pow]); (have e2 : re &&& 1 = re % 2 := Nat.and_one_is_mod re); rw [e1]; rw [e2] at c17; first | (rw [← np_dbl, show 2 * (re / 2) = re by omega]; exact hv) | (rw [nm_assoc, ← np_odd (a := re / 2), show 2 * (re / 2) + 1 = re by omega]; exact hv)) (by omega) hP hD hS (lv_sub hl [2, 1, 0] rfl)
  exact lp7_1 _ 1 x ex _ _ ls (by decide) (by first | assumption | omega) (by first | assumption | omega) (nm_one (np_lt _ _)) (Nat.lt_succ_self _) hP hD hS (lv_sub hl [2, 1, 0] rfl)
set_option maxHeartbeats 4000000 in
set_option maxRecDepth 100000 in
theorem c_X7_inverted (l : Launch) (D : va_G) (cY : Nat → ClassId) (x : Nat) (hxx : x < 65536) : m_Mi l yX7_inverted wsX7_inverted 5 120 D cY [.int (nI x)] [] (fun (res : Int32) (u : Unit) => res = nI (np x 65534)) (fun (u : Unit) => []) := by
  refine m_enterI (cc := cX7_inverted) (maxL := 1) (ret := (some .int)) (by decide +kernel) rfl (Nat.le_of_ble_eq_true rfl) ?_
  intro p e s m below meth c A ls C0 hP hD hl
  obtain ⟨hx, hb, hr, hml, hts, hown, hlocks, hK, hA⟩ := id C0
  generalize hQ : MQ below _ _ s 0 0 A = Q
  have hS : va_S A s.heap s.heap [] := va_S.rf
  have hl : lv_has ls 1 [(0, .int (nI x))] := hl
  have hw0 := hts (.constant RX7 59 (65534)) (by decide +kernel)
  refine lv_iload_n hx hb dX7_inverted_0 rfl (lv_at hl 0 rfl) ?_
  refine lv_ldc hx hb hown hw0 dX7_inverted_1 ?_
  refine lv_topi (nm_r (show ((65534 : Int32)) = nI 65534 from by decide) ?_)
  refine m_callSi (As := [.int (nI x), .int (nI 65534)]) (rest := []) C0 hl hP hD hS (c_X7_powered l D cY x 65534 (by first | assumption | omega | exact nm_lt _ _ | exact np_lt _ _ | decide) (by first | assumption | omega | exact nm_lt _ _ | exact np_lt _ _ | decide)) (va_cwS 2 hts gX7_inverted_X7_powered rfl rfl rfl (by decide +kernel) ⟨Nat.le_of_ble_eq_true rfl, Nat.le_of_ble_eq_true rfl⟩) dX7_inverted_3 [] rfl rfl rfl (Nat.le_of_ble_eq_true rfl) (Nat.zero_le _) (Nat.zero_le _) (fun _ => rfl) (fun r2 u H1 locs hw hP hD hS => ?_)
  try dsimp only at hw
  obtain rfl := hw
  have hP : va_P D vwCl [] H1 := hP
  have hD : va_D A [] := hD
  subst hQ
  exact m_iret C0 hS dX7_inverted_6 (u := ()) hP (by first | trivial | rfl | omega)
set_option maxHeartbeats 4000000 in
set_option maxRecDepth 100000 in
theorem c_X7_root (l : Launch) (D : va_G) (cY : Nat → ClassId) (x : Nat) (hxx : x < 65536) : m_Mi l yX7_root wsX7_root 5 120 D cY [.int (nI x)] [] (fun (res : Int32) (u : Unit) => res = nI (np x 32768)) (fun (u : Unit) => []) := by
  refine m_enterI (cc := cX7_root) (maxL := 1) (ret := (some .int)) (by decide +kernel) rfl (Nat.le_of_ble_eq_true rfl) ?_
  intro p e s m below meth c A ls C0 hP hD hl
  obtain ⟨hx, hb, hr, hml, hts, hown, hlocks, hK, hA⟩ := id C0
  generalize hQ : MQ below _ _ s 0 0 A = Q
  have hS : va_S A s.heap s.heap [] := va_S.rf
  have hl : lv_has ls 1 [(0, .int (nI x))] := hl
  have hw0 := hts (.constant RX7 63 (32768)) (by decide +kernel)
  refine lv_iload_n hx hb dX7_root_0 rfl (lv_at hl 0 rfl) ?_
  refine lv_ldc hx hb hown hw0 dX7_root_1 ?_
  refine lv_topi (nm_r (show ((32768 : Int32)) = nI 32768 from by decide) ?_)
  refine m_callSi (As := [.int (nI x), .int (nI 32768)]) (rest := []) C0 hl hP hD hS (c_X7_powered l D cY x 32768 (by first | assumption | omega | exact nm_lt _ _ | exact np_lt _ _ | decide) (by first | assumption | omega | exact nm_lt _ _ | exact np_lt _ _ | decide)) (va_cwS 2 hts gX7_root_X7_powered rfl rfl rfl (by decide +kernel) ⟨Nat.le_of_ble_eq_true rfl, Nat.le_of_ble_eq_true rfl⟩) dX7_root_3 [] rfl rfl rfl (Nat.le_of_ble_eq_true rfl) (Nat.zero_le _) (Nat.zero_le _) (fun _ => rfl) (fun r2 u H1 locs hw hP hD hS => ?_)
  try dsimp only at hw
  obtain rfl := hw
  have hP : va_P D vwCl [] H1 := hP
  have hD : va_D A [] := hD
  subst hQ
  exact m_iret C0 hS dX7_root_6 (u := ()) hP (by first | trivial | rfl | omega)
set_option maxHeartbeats 4000000 in
set_option maxRecDepth 100000 in
theorem c_X7_trace (l : Launch) (D : va_G) (cY : Nat → ClassId) (x : Nat) (hxx : x < 65536) : m_Mi l yX7_trace wsX7_trace 4 96 D cY [.int (nI x)] [] (fun (res : Int32) (u : Unit) => res = nI (n_tr x 16)) (fun (u : Unit) => []) := by
  refine m_enterI (cc := cX7_trace) (maxL := 4) (ret := (some .int)) (by decide +kernel) rfl (Nat.le_of_ble_eq_true rfl) ?_
  intro p e s m below meth c A ls C0 hP hD hl
  obtain ⟨hx, hb, hr, hml, hts, hown, hlocks, hK, hA⟩ := id C0
  generalize hQ : MQ below _ _ s 0 0 A = Q
  have hS : va_S A s.heap s.heap [] := va_S.rf
  have hl : lv_has ls 4 [(0, .int (nI x))] := hl
  refine lv_iconst (v := nI 0) hx hb dX7_trace_0 (by decide) ?_
  refine lv_istore_n (lv' := [(1, .int (nI 0)), (0, .int (nI x))]) hx hb dX7_trace_1 rfl hl (by decide) rfl (fun ls hl => ?_)
  refine lv_iload_n hx hb dX7_trace_2 rfl (lv_at hl 1 rfl) ?_
  refine lv_istore_n (lv' := [(2, .int (nI x)), (1, .int (nI 0)), (0, .int (nI x))]) hx hb dX7_trace_3 rfl hl (by decide) rfl (fun ls hl => ?_)
  refine lv_iconst (v := nI 0) hx hb dX7_trace_4 (by decide) ?_
  refine lv_istore_n (lv' := [(3, .int (nI 0)), (2, .int (nI x)), (1, .int (nI 0)), (0, .int (nI x))]) hx hb dX7_trace_5 rfl hl (by decide) rfl (fun ls hl => ?_)
  have lp6_1 : ∀ (nn : Nat) (k : Nat) (z : Nat) (sq : Nat) (H : Heap) (locs : List Loc) (ls : Array Slot), (k ≤ 16) → (z = n_tr x k) → (sq = np x (2 ^ k)) → (sq < 65536) → 16 - k < nn → va_P D vwCl [] H → va_D A [] → va_S A s.heap H locs → lv_has ls 4 [(1, .int (nI z)), (2, .int (nI sq)), (3, .int (nI k))] → W p l e { frames := 4, cells := 0, slots := 0, locals := 96 } s m ([.int (nI x)] : List Value).toArray below meth c H locs 0 0 Q (F0 m 6 ls []) := by
    intro nn
    induction nn with
    | zero => intros; omega
    | succ nn ih6 =>
      intro k z sq H locs ls hk hz hsq hsq1 hmz hP hD hS hl
      refine lv_iload_n hx hb dX7_trace_6 rfl (lv_at hl 2 rfl) ?_
      refine lv_bipush (v := nI 16) hx hb dX7_trace_7 (by decide) ?_
      refine lv_icmp_ge (tgt := 28) hx hb dX7_trace_9 (by decide) (fun c9 => ?_) (fun c9 => ?_)
      · have c9 : 16 ≤ k := (nI_leI (a := 16) (b := k) (by first | omega | exact Nat.lt_of_le_of_lt Nat.and_le_right (by decide) | exact Nat.lt_trans (nm_lt _ _) (by decide) | exact Nat.lt_trans (np_lt _ _) (by decide) | exact Nat.lt_trans (p_at_lt htx) (by decide)) (by first | omega | exact Nat.lt_of_le_of_lt Nat.and_le_right (by decide) | exact Nat.lt_trans (nm_lt _ _) (by decide) | exact Nat.lt_trans (np_lt _ _) (by decide) | exact Nat.lt_trans (p_at_lt htx) (by decide))).mp c9
        refine lv_iload_n hx hb dX7_trace_28 rfl (lv_at hl 0 rfl) ?_
        subst hQ
        exact m_iret C0 hS dX7_trace_29 (u := ()) hP (by rw [hz, show k = 16 by omega])
      · have c9 : ¬ (16 ≤ k) := fun q => c9 ((nI_leI (a := 16) (b := k) (by first | omega | exact Nat.lt_of_le_of_lt Nat.and_le_right (by decide) | exact Nat.lt_trans (nm_lt _ _) (by decide) | exact Nat.lt_trans (np_lt _ _) (by decide) | exact Nat.lt_trans (p_at_lt htx) (by decide)) (by first | omega | exact Nat.lt_of_le_of_lt Nat.and_le_right (by decide) | exact Nat.lt_trans (nm_lt _ _) (by decide) | exact Nat.lt_trans (np_lt _ _) (by decide) | exact Nat.lt_trans (p_at_lt htx) (by decide))).mpr q)
        refine lv_iload_n hx hb dX7_trace_12 rfl (lv_at hl 0 rfl) ?_
        refine lv_iload_n hx hb dX7_trace_13 rfl (lv_at hl 1 rfl) ?_
        refine lv_ixor hx hb dX7_trace_14 ?_
        refine lv_topi (nm_r (nx_xor _ _) ?_)
        refine lv_istore_n (lv' := [(1, .int (nI (z ^^^ sq))), (2, .int (nI sq)), (3, .int (nI k))]) hx hb dX7_trace_15 rfl hl (by decide) rfl (fun ls hl => ?_)
        refine lv_iload_n hx hb dX7_trace_16 rfl (lv_at hl 1 rfl) ?_
        refine lv_iload_n hx hb dX7_trace_17 rfl (lv_at hl 1 rfl) ?_
        refine m_callSi (As := [.int (nI sq), .int (nI sq)]) (rest := []) C0 hl hP hD hS (c_X7_times l D cY sq sq (by first | assumption | omega | exact nm_lt _ _ | exact np_lt _ _ | decide) (by first | assumption | omega | exact nm_lt _ _ | exact np_lt _ _ | decide)) (va_cwS 2 hts gX7_trace_X7_times rfl rfl rfl (by decide +kernel) ⟨Nat.le_of_ble_eq_true rfl, Nat.le_of_ble_eq_true rfl⟩) dX7_trace_18 [] rfl rfl rfl (Nat.le_of_ble_eq_true rfl) (Nat.zero_le _) (Nat.zero_le _) (fun _ => rfl) (fun r3 u H2 locs hw hP hD hS => ?_)
        try dsimp only at hw
        obtain rfl := hw
        have hP : va_P D vwCl [] H2 := hP
        have hD : va_D A [] := hD
        refine lv_istore_n (lv' := [(2, .int (nI (nm sq sq))), (1, .int (nI (z ^^^ sq))), (3, .int (nI k))]) hx hb dX7_trace_21 rfl hl (by decide) rfl (fun ls hl => ?_)
        refine lv_iinc (v := nI (k + 1)) (lv' := [(3, .int (nI (k + 1))), (2, .int (nI (nm sq sq))), (1, .int (nI (z ^^^ sq)))]) hx hb dX7_trace_22 hl (k := 2) rfl (nI_add _ 1) (by decide) rfl (fun ls hl => ?_)
        refine lv_goto (tgt := 6) hx hb dX7_trace_25 (by decide) ?_
        exact ih6 (k + 1) (z ^^^ sq) (nm sq sq) _ _ ls (by first | assumption | omega) (by rw [hz, hsq]; rfl) (by rw [hsq, np_sq, Nat.pow_succ, Nat.mul_comm]) (nm_lt _ _) (by omega) hP hD hS (lv_sub hl [2, 1, 0] rfl)
  exact lp6_1 _ 0 0 x _ _ ls (by first | assumption | omega) (rfl) ((np_1 hxx).symm) (by first | assumption | omega) (Nat.lt_succ_self _) hP hD hS (lv_sub hl [2, 1, 0] rfl)
set_option maxHeartbeats 4000000 in
set_option maxRecDepth 100000 in
theorem c_X7_orderBy (l : Launch) (D : va_G) (cY : Nat → ClassId) (x pr od : Nat) (hxx : x < 65536) (hpr : 0 < pr ∧ pr < 65536) (hod : od < 65536) (hdv : od % pr = 0) : m_Mi l yX7_orderBy wsX7_orderBy 5 120 D cY [.int (nI x), .int (nI pr), .int (nI od)] [] (fun (res : Int32) (u : Unit) => res = nI (m_obP od pr x)) (fun (u : Unit) => []) := by
  refine m_enterI (cc := cX7_orderBy) (maxL := 3) (ret := (some .int)) (by decide +kernel) rfl (Nat.le_of_ble_eq_true rfl) ?_
  intro p e s m below meth c A ls C0 hP hD hl
  obtain ⟨hx, hb, hr, hml, hts, hown, hlocks, hK, hA⟩ := id C0
  generalize hQ : MQ below _ _ s 0 0 A = Q
  have hS : va_S A s.heap s.heap [] := va_S.rf
  have hl : lv_has ls 3 [(0, .int (nI x)), (1, .int (nI pr)), (2, .int (nI od))] := hl
  refine lv_iload_n hx hb dX7_orderBy_0 rfl (lv_at hl 2 rfl) ?_
  refine lv_iload_n hx hb dX7_orderBy_1 rfl (lv_at hl 1 rfl) ?_
  refine lv_irem hx hb dX7_orderBy_2 (fun q => by have := (nI_eq (a := pr) (b := 0) (by omega) (by decide)).mp q; omega) ?_
  refine lv_topi (nm_r (pk_rem (by omega) (by omega) (by omega)) ?_)
  refine lv_if_ne (tgt := 23) hx hb dX7_orderBy_3 (by decide) (fun c3 => ?_) (fun c3 => ?_)
  · have c3 : ¬ ((od % pr) = 0) := fun q => c3 ((nI_eq (a := (od % pr)) (b := 0) (by first | omega | exact Nat.lt_of_le_of_lt Nat.and_le_right (by decide) | exact Nat.lt_trans (nm_lt _ _) (by decide) | exact Nat.lt_trans (np_lt _ _) (by decide) | exact Nat.lt_trans (p_at_lt htx) (by decide)) (by first | omega | exact Nat.lt_of_le_of_lt Nat.and_le_right (by decide) | exact Nat.lt_trans (nm_lt _ _) (by decide) | exact Nat.lt_trans (np_lt _ _) (by decide) | exact Nat.lt_trans (p_at_lt htx) (by decide))).mpr q)
    exfalso; omega
  · have c3 : (od % pr) = 0 := (nI_eq (a := (od % pr)) (b := 0) (by first | omega | exact Nat.lt_of_le_of_lt Nat.and_le_right (by decide) | exact Nat.lt_trans (nm_lt _ _) (by decide) | exact Nat.lt_trans (np_lt _ _) (by decide) | exact Nat.lt_trans (p_at_lt htx) (by decide)) (by first | omega | exact Nat.lt_of_le_of_lt Nat.and_le_right (by decide) | exact Nat.lt_trans (nm_lt _ _) (by decide) | exact Nat.lt_trans (np_lt _ _) (by decide) | exact Nat.lt_trans (p_at_lt htx) (by decide))).mp c3
    refine lv_iload_n hx hb dX7_orderBy_6 rfl (lv_at hl 0 rfl) ?_
    refine lv_iload_n hx hb dX7_orderBy_7 rfl (lv_at hl 2 rfl) ?_
    refine lv_iload_n hx hb dX7_orderBy_8 rfl (lv_at hl 1 rfl) ?_
    refine lv_idiv hx hb dX7_orderBy_9 (fun q => by have := (nI_eq (a := pr) (b := 0) (by omega) (by decide)).mp q; omega) ?_
    refine lv_topi (nm_r (pk_div (by omega) (by omega) (by omega)) ?_)
    refine m_callSi (As := [.int (nI x), .int (nI (od / pr))]) (rest := []) C0 hl hP hD hS (c_X7_powered l D cY x (od / pr) (by first | assumption | omega | exact nm_lt _ _ | exact np_lt _ _ | decide) (by (have := Nat.div_le_self od pr); omega)) (va_cwS 2 hts gX7_orderBy_X7_powered rfl rfl rfl (by decide +kernel) ⟨Nat.le_of_ble_eq_true rfl, Nat.le_of_ble_eq_true rfl⟩) dX7_orderBy_10 [] rfl rfl rfl (Nat.le_of_ble_eq_true rfl) (Nat.zero_le _) (Nat.zero_le _) (fun _ => rfl) (fun r2 u H1 locs hw hP hD hS => ?_)
    try dsimp only at hw
    obtain rfl := hw
    have hP : va_P D vwCl [] H1 := hP
    have hD : va_D A [] := hD
    refine lv_iconst (v := nI 1) hx hb dX7_orderBy_13 (by decide) ?_
    refine lv_icmp_ne (tgt := 23) hx hb dX7_orderBy_14 (by decide) (fun c14 => ?_) (fun c14 => ?_)
    · have c14 : ¬ ((np x (od / pr)) = 1) := fun q => c14 ((nI_eq (a := (np x (od / pr))) (b := 1) (by first | omega | exact Nat.lt_of_le_of_lt Nat.and_le_right (by decide) | exact Nat.lt_trans (nm_lt _ _) (by decide) | exact Nat.lt_trans (np_lt _ _) (by decide) | exact Nat.lt_trans (p_at_lt htx) (by decide)) (by first | omega | exact Nat.lt_of_le_of_lt Nat.and_le_right (by decide) | exact Nat.lt_trans (nm_lt _ _) (by decide) | exact Nat.lt_trans (np_lt _ _) (by decide) | exact Nat.lt_trans (p_at_lt htx) (by decide))).mpr q)
      refine lv_iload_n hx hb dX7_orderBy_23 rfl (lv_at hl 2 rfl) ?_
      subst hQ
      exact m_iret C0 hS dX7_orderBy_24 (u := ()) hP (by rw [m_obP]; first | rw [if_pos c14] | rw [if_neg c14])
    · have c14 : (np x (od / pr)) = 1 := (nI_eq (a := (np x (od / pr))) (b := 1) (by first | omega | exact Nat.lt_of_le_of_lt Nat.and_le_right (by decide) | exact Nat.lt_trans (nm_lt _ _) (by decide) | exact Nat.lt_trans (np_lt _ _) (by decide) | exact Nat.lt_trans (p_at_lt htx) (by decide)) (by first | omega | exact Nat.lt_of_le_of_lt Nat.and_le_right (by decide) | exact Nat.lt_trans (nm_lt _ _) (by decide) | exact Nat.lt_trans (np_lt _ _) (by decide) | exact Nat.lt_trans (p_at_lt htx) (by decide))).mp c14
      refine lv_iload_n hx hb dX7_orderBy_17 rfl (lv_at hl 2 rfl) ?_
      refine lv_iload_n hx hb dX7_orderBy_18 rfl (lv_at hl 1 rfl) ?_
      refine lv_idiv hx hb dX7_orderBy_19 (fun q => by have := (nI_eq (a := pr) (b := 0) (by omega) (by decide)).mp q; omega) ?_
      refine lv_topi (nm_r (pk_div (by omega) (by omega) (by omega)) ?_)
      refine lv_goto (tgt := 24) hx hb dX7_orderBy_20 (by decide) ?_
      subst hQ
      exact m_iret C0 hS dX7_orderBy_24 (u := ()) hP (by rw [m_obP]; first | rw [if_pos c14] | rw [if_neg c14])
set_option maxHeartbeats 4000000 in
set_option maxRecDepth 100000 in
theorem c_X7_order (l : Launch) (D : va_G) (cY : Nat → ClassId) (x : Nat) (hxx : x < 65536) : m_Mi l yX7_order wsX7_order 6 142 D cY [.int (nI x)] [] (fun (res : Int32) (u : Unit) => res = n_ord x) (fun (u : Unit) => []) := by
  refine m_enterI (cc := cX7_order) (maxL := 1) (ret := (some .int)) (by decide +kernel) rfl (Nat.le_of_ble_eq_true rfl) ?_
  intro p e s m below meth c A ls C0 hP hD hl
  obtain ⟨hx, hb, hr, hml, hts, hown, hlocks, hK, hA⟩ := id C0
  generalize hQ : MQ below _ _ s 0 0 A = Q
  have hS : va_S A s.heap s.heap [] := va_S.rf
  have hl : lv_has ls 1 [(0, .int (nI x))] := hl
  have hw0 := hts (.constant RX7 100 (65535)) (by decide +kernel)
  refine lv_iload_n hx hb dX7_order_0 rfl (lv_at hl 0 rfl) ?_
  refine lv_if_ne (tgt := 6) hx hb dX7_order_1 (by decide) (fun c1 => ?_) (fun c1 => ?_)
  · have c1 : ¬ (x = 0) := fun q => c1 ((nI_eq (a := x) (b := 0) (by first | omega | exact Nat.lt_of_le_of_lt Nat.and_le_right (by decide) | exact Nat.lt_trans (nm_lt _ _) (by decide) | exact Nat.lt_trans (np_lt _ _) (by decide) | exact Nat.lt_trans (p_at_lt htx) (by decide)) (by first | omega | exact Nat.lt_of_le_of_lt Nat.and_le_right (by decide) | exact Nat.lt_trans (nm_lt _ _) (by decide) | exact Nat.lt_trans (np_lt _ _) (by decide) | exact Nat.lt_trans (p_at_lt htx) (by decide))).mpr q)
    have o1 : m_obP 65535 3 x = 21845 ∨ m_obP 65535 3 x = 65535 := by (rw [m_obP]; split <;> simp)
    have o2 : m_obP (m_obP 65535 3 x) 5 x = 4369 ∨ m_obP (m_obP 65535 3 x) 5 x = 13107 ∨ m_obP (m_obP 65535 3 x) 5 x = 21845 ∨ m_obP (m_obP 65535 3 x) 5 x = 65535 := by (rcases o1 with o1 | o1 <;> rw [o1, m_obP] <;> split <;> simp)
    have o3 : m_obP (m_obP (m_obP 65535 3 x) 5 x) 17 x < 65536 ∧ m_obP (m_obP (m_obP 65535 3 x) 5 x) 17 x % 257 = 0 := by (rcases o2 with o2 | o2 | o2 | o2 <;> rw [o2, m_obP] <;> split <;> simp)
    refine lv_iload_n hx hb dX7_order_6 rfl (lv_at hl 0 rfl) ?_
    refine lv_sipush (v := nI 257) hx hb dX7_order_7 (by decide) ?_
    refine lv_iload_n hx hb dX7_order_10 rfl (lv_at hl 0 rfl) ?_
    refine lv_bipush (v := nI 17) hx hb dX7_order_11 (by decide) ?_
    refine lv_iload_n hx hb dX7_order_13 rfl (lv_at hl 0 rfl) ?_
    refine lv_iconst (v := nI 5) hx hb dX7_order_14 (by decide) ?_
    refine lv_iload_n hx hb dX7_order_15 rfl (lv_at hl 0 rfl) ?_
    refine lv_iconst (v := nI 3) hx hb dX7_order_16 (by decide) ?_
    refine lv_ldc hx hb hown hw0 dX7_order_17 ?_
    refine lv_topi (nm_r (show ((65535 : Int32)) = nI 65535 from by decide) ?_)
    refine m_callSi (As := [.int (nI x), .int (nI 3), .int (nI 65535)]) (rest := [.int (nI 5), .int (nI x), .int (nI 17), .int (nI x), .int (nI 257), .int (nI x)]) C0 hl hP hD hS (c_X7_orderBy l D cY x 3 65535 (by first | assumption | omega | exact nm_lt _ _ | exact np_lt _ _ | decide) (by decide) (by decide) (by decide)) (va_cwS 3 hts gX7_order_X7_orderBy rfl rfl rfl (by decide +kernel) ⟨Nat.le_of_ble_eq_true rfl, Nat.le_of_ble_eq_true rfl⟩) dX7_order_19 [] rfl rfl rfl (Nat.le_of_ble_eq_true rfl) (Nat.zero_le _) (Nat.zero_le _) (fun _ => rfl) (fun r2 u H1 locs hw hP hD hS => ?_)
    try dsimp only at hw
    obtain rfl := hw
    have hP : va_P D vwCl [] H1 := hP
    have hD : va_D A [] := hD
    refine m_callSi (As := [.int (nI x), .int (nI 5), .int (nI (m_obP 65535 3 x))]) (rest := [.int (nI 17), .int (nI x), .int (nI 257), .int (nI x)]) C0 hl hP hD hS (c_X7_orderBy l D cY x 5 (m_obP 65535 3 x) (by first | assumption | omega | exact nm_lt _ _ | exact np_lt _ _ | decide) (by decide) (by omega) (by omega)) (va_cwS 3 hts gX7_order_X7_orderBy rfl rfl rfl (by decide +kernel) ⟨Nat.le_of_ble_eq_true rfl, Nat.le_of_ble_eq_true rfl⟩) dX7_order_22 [] rfl rfl rfl (Nat.le_of_ble_eq_true rfl) (Nat.zero_le _) (Nat.zero_le _) (fun _ => rfl) (fun r4 u H3 locs hw hP hD hS => ?_)
    try dsimp only at hw
    obtain rfl := hw
    have hP : va_P D vwCl [] H3 := hP
    have hD : va_D A [] := hD
    refine m_callSi (As := [.int (nI x), .int (nI 17), .int (nI (m_obP (m_obP 65535 3 x) 5 x))]) (rest := [.int (nI 257), .int (nI x)]) C0 hl hP hD hS (c_X7_orderBy l D cY x 17 (m_obP (m_obP 65535 3 x) 5 x) (by first | assumption | omega | exact nm_lt _ _ | exact np_lt _ _ | decide) (by decide) (by omega) (by omega)) (va_cwS 3 hts gX7_order_X7_orderBy rfl rfl rfl (by decide +kernel) ⟨Nat.le_of_ble_eq_true rfl, Nat.le_of_ble_eq_true rfl⟩) dX7_order_25 [] rfl rfl rfl (Nat.le_of_ble_eq_true rfl) (Nat.zero_le _) (Nat.zero_le _) (fun _ => rfl) (fun r6 u H5 locs hw hP hD hS => ?_)
    try dsimp only at hw
    obtain rfl := hw
    have hP : va_P D vwCl [] H5 := hP
    have hD : va_D A [] := hD
    refine m_callSi (As := [.int (nI x), .int (nI 257), .int (nI (m_obP (m_obP (m_obP 65535 3 x) 5 x) 17 x))]) (rest := []) C0 hl hP hD hS (c_X7_orderBy l D cY x 257 (m_obP (m_obP (m_obP 65535 3 x) 5 x) 17 x) (by first | assumption | omega | exact nm_lt _ _ | exact np_lt _ _ | decide) (by decide) (o3.1) (o3.2)) (va_cwS 3 hts gX7_order_X7_orderBy rfl rfl rfl (by decide +kernel) ⟨Nat.le_of_ble_eq_true rfl, Nat.le_of_ble_eq_true rfl⟩) dX7_order_28 [] rfl rfl rfl (Nat.le_of_ble_eq_true rfl) (Nat.zero_le _) (Nat.zero_le _) (fun _ => rfl) (fun r8 u H7 locs hw hP hD hS => ?_)
    try dsimp only at hw
    obtain rfl := hw
    have hP : va_P D vwCl [] H7 := hP
    have hD : va_D A [] := hD
    subst hQ
    exact m_iret C0 hS dX7_order_31 (u := ()) hP (by rw [n_ord, if_neg (by omega)])
  · have c1 : x = 0 := (nI_eq (a := x) (b := 0) (by first | omega | exact Nat.lt_of_le_of_lt Nat.and_le_right (by decide) | exact Nat.lt_trans (nm_lt _ _) (by decide) | exact Nat.lt_trans (np_lt _ _) (by decide) | exact Nat.lt_trans (p_at_lt htx) (by decide)) (by first | omega | exact Nat.lt_of_le_of_lt Nat.and_le_right (by decide) | exact Nat.lt_trans (nm_lt _ _) (by decide) | exact Nat.lt_trans (np_lt _ _) (by decide) | exact Nat.lt_trans (p_at_lt htx) (by decide))).mp c1
    refine lv_iconst (v := (-1)) hx hb dX7_order_4 (by decide) ?_
    subst hQ
    exact m_iret C0 hS dX7_order_5 (u := ()) hP (by rw [n_ord, if_pos (by omega)])
