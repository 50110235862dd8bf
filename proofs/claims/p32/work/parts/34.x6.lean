set_option maxHeartbeats 4000000 in
set_option maxRecDepth 100000 in
theorem c_X6_requireRegister (l : Launch) (D : va_G) (cY : Nat → ClassId) (k : Nat) (hk : k < 8) : m_Mv l yX6_requireRegister wsX6_requireRegister 0 0 D cY [.int (nI k)] [] (fun (u : Unit) => True) (fun (u : Unit) => []) := by
  refine m_enterV (cc := cX6_requireRegister) (maxL := 1) (ret := none) (by decide +kernel) rfl (Nat.le_of_ble_eq_true rfl) ?_
  intro p e s m below meth c A ls C0 hP hD hl
  obtain ⟨hx, hb, hr, hml, hts, hown, hlocks, hK, hA⟩ := id C0
  generalize hQ : MQ below _ _ s 0 0 A = Q
  have hS : va_S A s.heap s.heap [] := va_S.rf
  have hl : lv_has ls 1 [(0, .int (nI k))] := hl
  refine lv_iload_n hx hb dX6_requireRegister_0 rfl (lv_at hl 0 rfl) ?_
  refine lv_if_lt (tgt := 10) hx hb dX6_requireRegister_1 (by decide) (fun c1 => ?_) (fun c1 => ?_)
  · have c1 : k < 0 := (nI_ltI (a := k) (b := 0) (by first | omega | exact Nat.lt_of_le_of_lt Nat.and_le_right (by decide) | exact Nat.lt_trans (nm_lt _ _) (by decide) | exact Nat.lt_trans (np_lt _ _) (by decide) | exact Nat.lt_trans (p_at_lt htx) (by decide)) (by first | omega | exact Nat.lt_of_le_of_lt Nat.and_le_right (by decide) | exact Nat.lt_trans (nm_lt _ _) (by decide) | exact Nat.lt_trans (np_lt _ _) (by decide) | exact Nat.lt_trans (p_at_lt htx) (by decide))).mp c1
    exfalso; omega
  · have c1 : ¬ (k < 0) := fun qq9 => c1 ((nI_ltI (a := k) (b := 0) (by first | omega | exact Nat.lt_of_le_of_lt Nat.and_le_right (by decide) | exact Nat.lt_trans (nm_lt _ _) (by decide) | exact Nat.lt_trans (np_lt _ _) (by decide) | exact Nat.lt_trans (p_at_lt htx) (by decide)) (by first | omega | exact Nat.lt_of_le_of_lt Nat.and_le_right (by decide) | exact Nat.lt_trans (nm_lt _ _) (by decide) | exact Nat.lt_trans (np_lt _ _) (by decide) | exact Nat.lt_trans (p_at_lt htx) (by decide))).mpr qq9)
    refine lv_iload_n hx hb dX6_requireRegister_4 rfl (lv_at hl 0 rfl) ?_
    refine lv_bipush (v := nI 8) hx hb dX6_requireRegister_5 (by decide) ?_
    refine lv_icmp_lt (tgt := 20) hx hb dX6_requireRegister_7 (by decide) (fun c7 => ?_) (fun c7 => ?_)
    · have c7 : k < 8 := (nI_ltI (a := k) (b := 8) (by first | omega | exact Nat.lt_of_le_of_lt Nat.and_le_right (by decide) | exact Nat.lt_trans (nm_lt _ _) (by decide) | exact Nat.lt_trans (np_lt _ _) (by decide) | exact Nat.lt_trans (p_at_lt htx) (by decide)) (by first | omega | exact Nat.lt_of_le_of_lt Nat.and_le_right (by decide) | exact Nat.lt_trans (nm_lt _ _) (by decide) | exact Nat.lt_trans (np_lt _ _) (by decide) | exact Nat.lt_trans (p_at_lt htx) (by decide))).mp c7
      subst hQ
      exact m_vret C0 hS dX6_requireRegister_20 (u := ()) hP (by first | trivial | rfl | omega)
    · have c7 : ¬ (k < 8) := fun qq9 => c7 ((nI_ltI (a := k) (b := 8) (by first | omega | exact Nat.lt_of_le_of_lt Nat.and_le_right (by decide) | exact Nat.lt_trans (nm_lt _ _) (by decide) | exact Nat.lt_trans (np_lt _ _) (by decide) | exact Nat.lt_trans (p_at_lt htx) (by decide)) (by first | omega | exact Nat.lt_of_le_of_lt Nat.and_le_right (by decide) | exact Nat.lt_trans (nm_lt _ _) (by decide) | exact Nat.lt_trans (np_lt _ _) (by decide) | exact Nat.lt_trans (p_at_lt htx) (by decide))).mpr qq9)
      exfalso; omega
set_option maxHeartbeats 4000000 in
set_option maxRecDepth 100000 in
theorem c_X6_requireRegister_x (l : Launch) (hfl : l.stackTraces = false) (D : va_G) (cY : Nat → ClassId) (eS : Nat → Nat) (eO : Nat) (x : Int32) (hn : ¬ m_isR x) : m_Mx l yX6_requireRegister wsX6_requireRegister 6 96 D cY eS eO [.int x] [] e_IO (fun (u : Unit) => []) := by
  refine m_enterX (cc := cX6_requireRegister) (maxL := 1) (ret := none) (by decide +kernel) rfl (Nat.le_of_ble_eq_true rfl) ?_
  intro p e s m below meth c A ls C0 hnt hE hP hD hl
  obtain ⟨hx, hb, hr, hml, hts, hown, hlocks, hK, hA⟩ := id C0
  obtain ⟨hz1, hz2, ⟨hcIO, hcIA, hcIS⟩, hdcl, ⟨hs0, hs1, hs2, hs3, hs4, hs5, hs6, hs7⟩, ⟨hn1, hn2⟩, ⟨hl0, hl1, hl2, hl3, hl4⟩, hzO, htO⟩ := id hE
  generalize hQ : vx_MQ below _ _ _ s 1 6 A = Q
  have hS : va_S A s.heap s.heap [] := va_S.rf
  have hl : lv_has ls 1 [(0, .int x)] := hl
  have hwd0 := hts (.classLink RX6 168 e_IO) (by decide +kernel)
  have hwd1 := hts (.initialized e_IO) (by decide +kernel)
  refine lv_iload_n hx hb dX6_requireRegister_0 rfl (lv_at hl 0 rfl) ?_
  refine lv_if_lt (tgt := 10) hx hb dX6_requireRegister_1 (by decide) (fun c1 => ?_) (fun c1 => ?_)
  · have c1 := c1
    subst hQ
    exact m_throw (k := 0) hfl C0 hnt hE hl hP hS (by decide +kernel) hwd0 hwd1 hs0 hcIO (by decide +kernel) (by decide +kernel) (by decide +kernel) dX6_requireRegister_10 dX6_requireRegister_13 dX6_requireRegister_14 dX6_requireRegister_16 dX6_requireRegister_19 (Nat.le_of_ble_eq_true rfl) (Nat.le_of_ble_eq_true rfl) (Nat.le_of_ble_eq_true rfl) (Nat.le_of_ble_eq_true rfl) () rfl
  · have c1 := c1
    refine lv_iload_n hx hb dX6_requireRegister_4 rfl (lv_at hl 0 rfl) ?_
    refine lv_bipush (v := nI 8) hx hb dX6_requireRegister_5 (by decide) ?_
    refine lv_icmp_lt (tgt := 20) hx hb dX6_requireRegister_7 (by decide) (fun c7 => ?_) (fun c7 => ?_)
    · have c7 := c7
      exfalso; exact hn ⟨Int32.not_lt.mp c1, m_lt8 c7⟩
    · have c7 := c7
      subst hQ
      exact m_throw (k := 0) hfl C0 hnt hE hl hP hS (by decide +kernel) hwd0 hwd1 hs0 hcIO (by decide +kernel) (by decide +kernel) (by decide +kernel) dX6_requireRegister_10 dX6_requireRegister_13 dX6_requireRegister_14 dX6_requireRegister_16 dX6_requireRegister_19 (Nat.le_of_ble_eq_true rfl) (Nat.le_of_ble_eq_true rfl) (Nat.le_of_ble_eq_true rfl) (Nat.le_of_ble_eq_true rfl) () rfl
set_option maxHeartbeats 4000000 in
set_option maxRecDepth 100000 in
theorem c_X6_requireRange (l : Launch) (D : va_G) (cY : Nat → ClassId) (k g : Nat) (hk : k ≤ g) (hg : g < 2 ^ 31) : m_Mv l yX6_requireRange wsX6_requireRange 0 0 D cY [.int (nI k), .int (nI g)] [] (fun (u : Unit) => True) (fun (u : Unit) => []) := by
  refine m_enterV (cc := cX6_requireRange) (maxL := 2) (ret := none) (by decide +kernel) rfl (Nat.le_of_ble_eq_true rfl) ?_
  intro p e s m below meth c A ls C0 hP hD hl
  obtain ⟨hx, hb, hr, hml, hts, hown, hlocks, hK, hA⟩ := id C0
  generalize hQ : MQ below _ _ s 0 0 A = Q
  have hS : va_S A s.heap s.heap [] := va_S.rf
  have hl : lv_has ls 2 [(0, .int (nI k)), (1, .int (nI g))] := hl
  refine lv_iload_n hx hb dX6_requireRange_0 rfl (lv_at hl 0 rfl) ?_
  refine lv_if_lt (tgt := 9) hx hb dX6_requireRange_1 (by decide) (fun c1 => ?_) (fun c1 => ?_)
  · have c1 : k < 0 := (nI_ltI (a := k) (b := 0) (by first | omega | exact Nat.lt_of_le_of_lt Nat.and_le_right (by decide) | exact Nat.lt_trans (nm_lt _ _) (by decide) | exact Nat.lt_trans (np_lt _ _) (by decide) | exact Nat.lt_trans (p_at_lt htx) (by decide)) (by first | omega | exact Nat.lt_of_le_of_lt Nat.and_le_right (by decide) | exact Nat.lt_trans (nm_lt _ _) (by decide) | exact Nat.lt_trans (np_lt _ _) (by decide) | exact Nat.lt_trans (p_at_lt htx) (by decide))).mp c1
    exfalso; omega
  · have c1 : ¬ (k < 0) := fun qq9 => c1 ((nI_ltI (a := k) (b := 0) (by first | omega | exact Nat.lt_of_le_of_lt Nat.and_le_right (by decide) | exact Nat.lt_trans (nm_lt _ _) (by decide) | exact Nat.lt_trans (np_lt _ _) (by decide) | exact Nat.lt_trans (p_at_lt htx) (by decide)) (by first | omega | exact Nat.lt_of_le_of_lt Nat.and_le_right (by decide) | exact Nat.lt_trans (nm_lt _ _) (by decide) | exact Nat.lt_trans (np_lt _ _) (by decide) | exact Nat.lt_trans (p_at_lt htx) (by decide))).mpr qq9)
    refine lv_iload_n hx hb dX6_requireRange_4 rfl (lv_at hl 0 rfl) ?_
    refine lv_iload_n hx hb dX6_requireRange_5 rfl (lv_at hl 1 rfl) ?_
    refine lv_icmp_le (tgt := 19) hx hb dX6_requireRange_6 (by decide) (fun c6 => ?_) (fun c6 => ?_)
    · have c6 : k ≤ g := (nI_leI (a := k) (b := g) (by first | omega | exact Nat.lt_of_le_of_lt Nat.and_le_right (by decide) | exact Nat.lt_trans (nm_lt _ _) (by decide) | exact Nat.lt_trans (np_lt _ _) (by decide) | exact Nat.lt_trans (p_at_lt htx) (by decide)) (by first | omega | exact Nat.lt_of_le_of_lt Nat.and_le_right (by decide) | exact Nat.lt_trans (nm_lt _ _) (by decide) | exact Nat.lt_trans (np_lt _ _) (by decide) | exact Nat.lt_trans (p_at_lt htx) (by decide))).mp c6
      subst hQ
      exact m_vret C0 hS dX6_requireRange_19 (u := ()) hP (by first | trivial | rfl | omega)
    · have c6 : ¬ (k ≤ g) := fun qq9 => c6 ((nI_leI (a := k) (b := g) (by first | omega | exact Nat.lt_of_le_of_lt Nat.and_le_right (by decide) | exact Nat.lt_trans (nm_lt _ _) (by decide) | exact Nat.lt_trans (np_lt _ _) (by decide) | exact Nat.lt_trans (p_at_lt htx) (by decide)) (by first | omega | exact Nat.lt_of_le_of_lt Nat.and_le_right (by decide) | exact Nat.lt_trans (nm_lt _ _) (by decide) | exact Nat.lt_trans (np_lt _ _) (by decide) | exact Nat.lt_trans (p_at_lt htx) (by decide))).mpr qq9)
      exfalso; omega
set_option maxHeartbeats 4000000 in
set_option maxRecDepth 100000 in
theorem c_X6_requireRange_x (l : Launch) (hfl : l.stackTraces = false) (D : va_G) (cY : Nat → ClassId) (eS : Nat → Nat) (eO : Nat) (x g : Int32) (hn : ¬ m_inI x 0 g) : m_Mx l yX6_requireRange wsX6_requireRange 6 96 D cY eS eO [.int x, .int g] [] e_IA (fun (u : Unit) => []) := by
  refine m_enterX (cc := cX6_requireRange) (maxL := 2) (ret := none) (by decide +kernel) rfl (Nat.le_of_ble_eq_true rfl) ?_
  intro p e s m below meth c A ls C0 hnt hE hP hD hl
  obtain ⟨hx, hb, hr, hml, hts, hown, hlocks, hK, hA⟩ := id C0
  obtain ⟨hz1, hz2, ⟨hcIO, hcIA, hcIS⟩, hdcl, ⟨hs0, hs1, hs2, hs3, hs4, hs5, hs6, hs7⟩, ⟨hn1, hn2⟩, ⟨hl0, hl1, hl2, hl3, hl4⟩, hzO, htO⟩ := id hE
  generalize hQ : vx_MQ below _ _ _ s 1 6 A = Q
  have hS : va_S A s.heap s.heap [] := va_S.rf
  have hl : lv_has ls 2 [(0, .int x), (1, .int g)] := hl
  have hwd0 := hts (.classLink RX6 173 e_IA) (by decide +kernel)
  have hwd1 := hts (.initialized e_IA) (by decide +kernel)
  refine lv_iload_n hx hb dX6_requireRange_0 rfl (lv_at hl 0 rfl) ?_
  refine lv_if_lt (tgt := 9) hx hb dX6_requireRange_1 (by decide) (fun c1 => ?_) (fun c1 => ?_)
  · have c1 := c1
    subst hQ
    exact m_throw (k := 1) hfl C0 hnt hE hl hP hS (by decide +kernel) hwd0 hwd1 hs1 hcIA (by decide +kernel) (by decide +kernel) (by decide +kernel) dX6_requireRange_9 dX6_requireRange_12 dX6_requireRange_13 dX6_requireRange_15 dX6_requireRange_18 (Nat.le_of_ble_eq_true rfl) (Nat.le_of_ble_eq_true rfl) (Nat.le_of_ble_eq_true rfl) (Nat.le_of_ble_eq_true rfl) () rfl
  · have c1 := c1
    refine lv_iload_n hx hb dX6_requireRange_4 rfl (lv_at hl 0 rfl) ?_
    refine lv_iload_n hx hb dX6_requireRange_5 rfl (lv_at hl 1 rfl) ?_
    refine lv_icmp_le (tgt := 19) hx hb dX6_requireRange_6 (by decide) (fun c6 => ?_) (fun c6 => ?_)
    · have c6 := c6
      exfalso; exact hn ⟨Int32.not_lt.mp c1, c6⟩
    · have c6 := c6
      subst hQ
      exact m_throw (k := 1) hfl C0 hnt hE hl hP hS (by decide +kernel) hwd0 hwd1 hs1 hcIA (by decide +kernel) (by decide +kernel) (by decide +kernel) dX6_requireRange_9 dX6_requireRange_12 dX6_requireRange_13 dX6_requireRange_15 dX6_requireRange_18 (Nat.le_of_ble_eq_true rfl) (Nat.le_of_ble_eq_true rfl) (Nat.le_of_ble_eq_true rfl) (Nat.le_of_ble_eq_true rfl) () rfl
set_option maxHeartbeats 4000000 in
set_option maxRecDepth 100000 in
theorem c_X6_requireValidProgram_x (l : Launch) (hfl : l.stackTraces = false) (D : va_G) (cY : Nat → ClassId) (eS : Nat → Nat) (eO : Nat) (nx fd tb pr ad rd wd h sk : Nat) (tp sp len sc cur : Nat) (tx : Nat → Nat) (sa : Nat → Nat) (pt pg pf pe : Nat → Int32) (w : Nat) (hlen : len ≤ 60) (htx : ∀ j, tx j < 65536) (hv : p_prog tx len 15 0 = .inl w) : m_Mx l yX6_requireValidProgram wsX6_requireValidProgram 6 107 D cY eS eO [.ref nx] ([(nx, .inr (6, [.ref fd, .ref tb, .ref pr, .ref ad, .ref rd, .ref wd, .ref h, .int (nI sk)])), (pr, .inr (3, [.ref tp, .ref sp, .int (nI len), .int (nI sc), .int (nI cur)])), (tp, .inl (cY 1, 60, .inl (m_nf tx))), (sp, .inl (cY 4, 15, .inr (.inr (.inr (.inr (m_sa sa))))))] ++ m_pool sa pt pg pf pe) e_IS (fun (u : Nat × Nat × (Nat → Int32) × (Nat → Int32) × (Nat → Int32) × (Nat → Int32)) => ([(nx, .inr (6, [.ref fd, .ref tb, .ref pr, .ref ad, .ref rd, .ref wd, .ref h, .int (nI sk)])), (pr, .inr (3, [.ref tp, .ref sp, .int (nI len), .int (nI u.1), .int (nI u.2.1)])), (tp, .inl (cY 1, 60, .inl (m_nf tx))), (sp, .inl (cY 4, 15, .inr (.inr (.inr (.inr (m_sa sa))))))] ++ m_pool sa u.2.2.1 u.2.2.2.1 u.2.2.2.2.1 u.2.2.2.2.2)) := by
  refine m_enterX (cc := cX6_requireValidProgram) (maxL := 1) (ret := none) (by decide +kernel) rfl (Nat.le_of_ble_eq_true rfl) ?_
  intro p e s m below meth c A ls C0 hnt hE hP hD hl
  obtain ⟨hx, hb, hr, hml, hts, hown, hlocks, hK, hA⟩ := id C0
  obtain ⟨hz1, hz2, ⟨hcIO, hcIA, hcIS⟩, hdcl, ⟨hs0, hs1, hs2, hs3, hs4, hs5, hs6, hs7⟩, ⟨hn1, hn2⟩, ⟨hl0, hl1, hl2, hl3, hl4⟩, hzO, htO⟩ := id hE
  generalize hQ : vx_MQ below _ _ _ s 1 6 A = Q
  have hS : va_S A s.heap s.heap [] := va_S.rf
  have hl : lv_has ls 1 [(0, .ref nx)] := hl
  have hwd0 := hts (.fieldLink RX6 26 "NimberField" "program" "LNimberField$Program;") (by decide +kernel)
  have hwd1 := (show ∀ w ∈ u_ws RX6 TX6 8, w ∈ wsX6_requireValidProgram from by decide +kernel)
  have hwd2 := hts (.classLink RX6 74 e_IS) (by decide +kernel)
  have hwd3 := hts (.initialized e_IS) (by decide +kernel)
  refine lv_aload_n hx hb dX6_requireValidProgram_0 rfl (lv_at hl 0 rfl) ?_
  refine va_get (D := D) (ci := 6) (v := .ref pr) (C := RX6) (T := TX6) (N := 8) hx hb hts hwd1 hown hK hP 0 rfl rfl 2 (by decide) hwd0 (fun _ h9 => h9) rfl dX6_requireValidProgram_1 ?_
  refine m_callPi (As := []) (rest := []) C0 hl hP hD hS (c_X3_read l D cY pr tp sp len sc cur tx sa pt pg pf pe (by first | assumption | omega | exact nm_lt _ _ | exact np_lt _ _ | decide) (by first | assumption | omega | exact nm_lt _ _ | exact np_lt _ _ | decide)) (cwV 0 hts gX6_requireValidProgram_X3_read rfl rfl rfl (by decide +kernel) ⟨Nat.le_of_ble_eq_true rfl, Nat.le_of_ble_eq_true rfl⟩) dX6_requireValidProgram_4 [1, 2, 3] rfl rfl 1 rfl rfl rfl rfl (Nat.le_of_ble_eq_true rfl) (Nat.zero_le _) (Nat.zero_le _) (fun _ => rfl) (fun _ => m_pool_fst) (fun r8 u H1 locs hw hP hD hS => ?_)
  obtain ⟨sc9_2, cur9_3, pt9_4, pg9_5, pf9_6, pe9_7⟩ := u
  try dsimp only at hw
  have hq9 := hw; clear hw
  have hP : va_P D vwCl ([(nx, .inr (6, [.ref fd, .ref tb, .ref pr, .ref ad, .ref rd, .ref wd, .ref h, .int (nI sk)])), (pr, .inr (3, [.ref tp, .ref sp, .int (nI len), .int (nI sc9_2), .int (nI cur9_3)])), (tp, .inl (cY 1, 60, .inl (m_nf tx))), (sp, .inl (cY 4, 15, .inr (.inr (.inr (.inr (m_sa sa))))))] ++ m_pool sa pt9_4 pg9_5 pf9_6 pe9_7) H1 := hP
  have hD : va_D A ([(nx, .inr (6, [.ref fd, .ref tb, .ref pr, .ref ad, .ref rd, .ref wd, .ref h, .int (nI sk)])), (pr, .inr (3, [.ref tp, .ref sp, .int (nI len), .int (nI sc9_2), .int (nI cur9_3)])), (tp, .inl (cY 1, 60, .inl (m_nf tx))), (sp, .inl (cY 4, 15, .inr (.inr (.inr (.inr (m_sa sa))))))] ++ m_pool sa pt9_4 pg9_5 pf9_6 pe9_7) := hD
  rcases hq9 with ⟨w9, rfl, hw60, hz⟩ | ⟨ps9, rfl, hz, hsc9, hps15, hps1, hheld⟩
  · skip
    refine lv_iconst (v := (-1)) hx hb dX6_requireValidProgram_7 (by decide) ?_
    refine lv_icmp_eq (tgt := 21) hx hb dX6_requireValidProgram_8 (by decide) (fun c8 => ?_) (fun c8 => ?_)
    · have c8 := c8
      exfalso; exact n_nem1 (by omega) c8
    · have c8 := c8
      subst hQ
      exact m_throw (k := 4) hfl C0 hnt hE hl hP hS (by decide +kernel) hwd2 hwd3 hs4 hcIS (by decide +kernel) (by decide +kernel) (by decide +kernel) dX6_requireValidProgram_11 dX6_requireValidProgram_14 dX6_requireValidProgram_15 dX6_requireValidProgram_17 dX6_requireValidProgram_20 (Nat.le_of_ble_eq_true rfl) (Nat.le_of_ble_eq_true rfl) (Nat.le_of_ble_eq_true rfl) (Nat.le_of_ble_eq_true rfl) (sc9_2, cur9_3, pt9_4, pg9_5, pf9_6, pe9_7) rfl
  · skip
    exact absurd (hv.symm.trans hz) (by intro h; cases h)
set_option maxHeartbeats 4000000 in
set_option maxRecDepth 100000 in
theorem c_X6_requireValidProgram (l : Launch) (D : va_G) (cY : Nat → ClassId) (nx fd tb pr ad rd wd h sk : Nat) (tp sp len sc cur : Nat) (tx : Nat → Nat) (sa : Nat → Nat) (pt pg pf pe : Nat → Int32) (ps : List p_St) (hlen : len ≤ 60) (htx : ∀ j, tx j < 65536) (hv : p_prog tx len 15 0 = .inr ps) : m_Mv l yX6_requireValidProgram wsX6_requireValidProgram 5 107 D cY [.ref nx] ([(nx, .inr (6, [.ref fd, .ref tb, .ref pr, .ref ad, .ref rd, .ref wd, .ref h, .int (nI sk)])), (pr, .inr (3, [.ref tp, .ref sp, .int (nI len), .int (nI sc), .int (nI cur)])), (tp, .inl (cY 1, 60, .inl (m_nf tx))), (sp, .inl (cY 4, 15, .inr (.inr (.inr (.inr (m_sa sa))))))] ++ m_pool sa pt pg pf pe) (fun (u : Nat × Nat × (Nat → Int32) × (Nat → Int32) × (Nat → Int32) × (Nat → Int32)) => (u.1 = ps.length) ∧ (ps.length ≤ 15) ∧ (1 ≤ ps.length) ∧ (p_held ps u.2.2.1 u.2.2.2.1 u.2.2.2.2.1 u.2.2.2.2.2)) (fun (u : Nat × Nat × (Nat → Int32) × (Nat → Int32) × (Nat → Int32) × (Nat → Int32)) => ([(nx, .inr (6, [.ref fd, .ref tb, .ref pr, .ref ad, .ref rd, .ref wd, .ref h, .int (nI sk)])), (pr, .inr (3, [.ref tp, .ref sp, .int (nI len), .int (nI u.1), .int (nI u.2.1)])), (tp, .inl (cY 1, 60, .inl (m_nf tx))), (sp, .inl (cY 4, 15, .inr (.inr (.inr (.inr (m_sa sa))))))] ++ m_pool sa u.2.2.1 u.2.2.2.1 u.2.2.2.2.1 u.2.2.2.2.2)) := by
  refine m_enterV (cc := cX6_requireValidProgram) (maxL := 1) (ret := none) (by decide +kernel) rfl (Nat.le_of_ble_eq_true rfl) ?_
  intro p e s m below meth c A ls C0 hP hD hl
  obtain ⟨hx, hb, hr, hml, hts, hown, hlocks, hK, hA⟩ := id C0
  generalize hQ : MQ below _ _ s 0 0 A = Q
  have hS : va_S A s.heap s.heap [] := va_S.rf
  have hl : lv_has ls 1 [(0, .ref nx)] := hl
  have hwd0 := hts (.fieldLink RX6 26 "NimberField" "program" "LNimberField$Program;") (by decide +kernel)
  have hwd1 := (show ∀ w ∈ u_ws RX6 TX6 8, w ∈ wsX6_requireValidProgram from by decide +kernel)
  refine lv_aload_n hx hb dX6_requireValidProgram_0 rfl (lv_at hl 0 rfl) ?_
  refine va_get (D := D) (ci := 6) (v := .ref pr) (C := RX6) (T := TX6) (N := 8) hx hb hts hwd1 hown hK hP 0 rfl rfl 2 (by decide) hwd0 (fun _ h9 => h9) rfl dX6_requireValidProgram_1 ?_
  refine m_callPi (As := []) (rest := []) C0 hl hP hD hS (c_X3_read l D cY pr tp sp len sc cur tx sa pt pg pf pe (by first | assumption | omega | exact nm_lt _ _ | exact np_lt _ _ | decide) (by first | assumption | omega | exact nm_lt _ _ | exact np_lt _ _ | decide)) (cwV 0 hts gX6_requireValidProgram_X3_read rfl rfl rfl (by decide +kernel) ⟨Nat.le_of_ble_eq_true rfl, Nat.le_of_ble_eq_true rfl⟩) dX6_requireValidProgram_4 [1, 2, 3] rfl rfl 1 rfl rfl rfl rfl (Nat.le_of_ble_eq_true rfl) (Nat.zero_le _) (Nat.zero_le _) (fun _ => rfl) (fun _ => m_pool_fst) (fun r8 u H1 locs hw hP hD hS => ?_)
  obtain ⟨sc9_2, cur9_3, pt9_4, pg9_5, pf9_6, pe9_7⟩ := u
  try dsimp only at hw
  have hq9 := hw; clear hw
  have hP : va_P D vwCl ([(nx, .inr (6, [.ref fd, .ref tb, .ref pr, .ref ad, .ref rd, .ref wd, .ref h, .int (nI sk)])), (pr, .inr (3, [.ref tp, .ref sp, .int (nI len), .int (nI sc9_2), .int (nI cur9_3)])), (tp, .inl (cY 1, 60, .inl (m_nf tx))), (sp, .inl (cY 4, 15, .inr (.inr (.inr (.inr (m_sa sa))))))] ++ m_pool sa pt9_4 pg9_5 pf9_6 pe9_7) H1 := hP
  have hD : va_D A ([(nx, .inr (6, [.ref fd, .ref tb, .ref pr, .ref ad, .ref rd, .ref wd, .ref h, .int (nI sk)])), (pr, .inr (3, [.ref tp, .ref sp, .int (nI len), .int (nI sc9_2), .int (nI cur9_3)])), (tp, .inl (cY 1, 60, .inl (m_nf tx))), (sp, .inl (cY 4, 15, .inr (.inr (.inr (.inr (m_sa sa))))))] ++ m_pool sa pt9_4 pg9_5 pf9_6 pe9_7) := hD
  rcases hq9 with ⟨w9, rfl, hw60, hz⟩ | ⟨ps9, rfl, hz, hsc9, hps15, hps1, hheld⟩
  · skip
    exact absurd (hv.symm.trans hz) (by intro h; cases h)
  · skip
    have hps9 : ps9 = ps := by (have h9 := hv.symm.trans hz); cases h9; rfl
    subst hps9
    refine lv_iconst (v := (-1)) hx hb dX6_requireValidProgram_7 (by decide) ?_
    refine lv_icmp_eq (tgt := 21) hx hb dX6_requireValidProgram_8 (by decide) (fun c8 => ?_) (fun c8 => ?_)
    · have c8 := c8
      subst hQ
      exact m_vret C0 hS dX6_requireValidProgram_21 (u := (sc9_2, cur9_3, pt9_4, pg9_5, pf9_6, pe9_7)) hP (⟨hsc9, hps15, hps1, hheld⟩)
    · have c8 := c8
      exfalso; exact c8 rfl
set_option maxHeartbeats 4000000 in
set_option maxRecDepth 100000 in
theorem c_X6_replace (l : Launch) (D : va_G) (cY : Nat → ClassId) (nx fd tb pr ad rd wd h sk : Nat) (ab cnt : Nat) (f : Nat → Nat) (kp z s0 s1 s2 s3 b0 b1 b2 b3 t0 t1 t2 t3 : Nat) (g0 g1 g2 g3 : Nat → Nat) (k v : Nat) (hf8 : m_z 8 f) (hf16 : ∀ j, f j < 65536) (hg0 : m_z 8 g0) (hg1 : m_z 8 g1) (hg2 : m_z 8 g2) (hg3 : m_z 8 g3) (hz4 : z ≤ 4) (hk : k < 8) : m_Mi l yX6_replace wsX6_replace 3 65 D cY [.ref nx, .int (nI k), .int (nI v)] [(nx, .inr (6, [.ref fd, .ref tb, .ref pr, .ref ad, .ref rd, .ref wd, .ref h, .int (nI sk)])), (ad, .inr (4, [.ref ab, .int (nI cnt)])), (ab, .inl (cY 0, 8, .inl (m_nf f))), (h, .inr (0, [.ref kp, .int (nI z)])), (kp, .inl (cY 3, 4, .inr (.inr (.inr (.inr (m_k4 s0 s1 s2 s3)))))), (s0, .inr (4, [.ref b0, .int (nI t0)])), (b0, .inl (cY 0, 8, .inl (m_nf g0))), (s1, .inr (4, [.ref b1, .int (nI t1)])), (b1, .inl (cY 0, 8, .inl (m_nf g1))), (s2, .inr (4, [.ref b2, .int (nI t2)])), (b2, .inl (cY 0, 8, .inl (m_nf g2))), (s3, .inr (4, [.ref b3, .int (nI t3)])), (b3, .inl (cY 0, 8, .inl (m_nf g3)))] (fun (res : Int32) (u : Unit) => res = nI v) (fun (u : Unit) => [(nx, .inr (6, [.ref fd, .ref tb, .ref pr, .ref ad, .ref rd, .ref wd, .ref h, .int (nI sk)])), (ad, .inr (4, [.ref ab, .int (nI cnt)])), (ab, .inl (cY 0, 8, .inl (m_nf (m_up f k v)))), (h, .inr (0, [.ref kp, .int (nI (min (z + 1) 4))])), (kp, .inl (cY 3, 4, .inr (.inr (.inr (.inr (m_k4 s0 s1 s2 s3)))))), (s0, .inr (4, [.ref b0, .int (nI cnt)])), (b0, .inl (cY 0, 8, .inl (m_nf f))), (s1, .inr (4, [.ref b1, .int (nI t0)])), (b1, .inl (cY 0, 8, .inl (m_nf g0))), (s2, .inr (4, [.ref b2, .int (nI t1)])), (b2, .inl (cY 0, 8, .inl (m_nf g1))), (s3, .inr (4, [.ref b3, .int (nI t2)])), (b3, .inl (cY 0, 8, .inl (m_nf g2)))]) := by
  refine m_enterI (cc := cX6_replace) (maxL := 3) (ret := (some .int)) (by decide +kernel) rfl (Nat.le_of_ble_eq_true rfl) ?_
  intro p e s m below meth c A ls C0 hP hD hl
  obtain ⟨hx, hb, hr, hml, hts, hown, hlocks, hK, hA⟩ := id C0
  generalize hQ : MQ below _ _ s 0 0 A = Q
  have hS : va_S A s.heap s.heap [] := va_S.rf
  have hl : lv_has ls 3 [(0, .ref nx), (1, .int (nI k)), (2, .int (nI v))] := hl
  have hwd0 := hts (.fieldLink RX6 46 "NimberField" "history" "LNimberField$History;") (by decide +kernel)
  have hwd1 := (show ∀ w ∈ u_ws RX6 TX6 8, w ∈ wsX6_replace from by decide +kernel)
  have hwd2 := hts (.fieldLink RX6 33 "NimberField" "state" "LNimberField$State;") (by decide +kernel)
  refine lv_aload_n hx hb dX6_replace_0 rfl (lv_at hl 0 rfl) ?_
  refine va_get (D := D) (ci := 6) (v := .ref h) (C := RX6) (T := TX6) (N := 8) hx hb hts hwd1 hown hK hP 0 rfl rfl 6 (by decide) hwd0 (fun _ h9 => h9) rfl dX6_replace_1 ?_
  refine lv_aload_n hx hb dX6_replace_4 rfl (lv_at hl 0 rfl) ?_
  refine va_get (D := D) (ci := 6) (v := .ref ad) (C := RX6) (T := TX6) (N := 8) hx hb hts hwd1 hown hK hP 0 rfl rfl 3 (by decide) hwd2 (fun _ h9 => h9) rfl dX6_replace_5 ?_
  refine m_callVv (As := [.ref ad]) (rest := []) C0 hl hP hD hS (c_X0_record l D cY h kp z s0 s1 s2 s3 b0 b1 b2 b3 t0 t1 t2 t3 g0 g1 g2 g3 ad ab cnt f (by first | assumption | omega | exact nm_lt _ _ | exact np_lt _ _ | decide) (by first | assumption | omega | exact nm_lt _ _ | exact np_lt _ _ | decide) (by first | assumption | omega | exact nm_lt _ _ | exact np_lt _ _ | decide) (by first | assumption | omega | exact nm_lt _ _ | exact np_lt _ _ | decide) (by first | assumption | omega | exact nm_lt _ _ | exact np_lt _ _ | decide) (by first | assumption | omega | exact nm_lt _ _ | exact np_lt _ _ | decide)) (cwV 1 hts gX6_replace_X0_record rfl rfl rfl (by decide +kernel) ⟨Nat.le_of_ble_eq_true rfl, Nat.le_of_ble_eq_true rfl⟩) dX6_replace_8 [3, 4, 5, 6, 7, 8, 9, 10, 11, 12, 1, 2] rfl rfl 3 rfl rfl rfl rfl (Nat.le_of_ble_eq_true rfl) (Nat.zero_le _) (Nat.zero_le _) (fun _ => rfl) (fun u H1 locs hw hP hD hS => ?_)
  try dsimp only at hw
  clear hw
  have hP : va_P D vwCl [(nx, .inr (6, [.ref fd, .ref tb, .ref pr, .ref ad, .ref rd, .ref wd, .ref h, .int (nI sk)])), (ad, .inr (4, [.ref ab, .int (nI cnt)])), (ab, .inl (cY 0, 8, .inl (m_nf f))), (h, .inr (0, [.ref kp, .int (nI (min (z + 1) 4))])), (kp, .inl (cY 3, 4, .inr (.inr (.inr (.inr (m_k4 s0 s1 s2 s3)))))), (s0, .inr (4, [.ref b0, .int (nI cnt)])), (b0, .inl (cY 0, 8, .inl (m_nf f))), (s1, .inr (4, [.ref b1, .int (nI t0)])), (b1, .inl (cY 0, 8, .inl (m_nf g0))), (s2, .inr (4, [.ref b2, .int (nI t1)])), (b2, .inl (cY 0, 8, .inl (m_nf g1))), (s3, .inr (4, [.ref b3, .int (nI t2)])), (b3, .inl (cY 0, 8, .inl (m_nf g2)))] H1 := hP
  have hD : va_D A [(nx, .inr (6, [.ref fd, .ref tb, .ref pr, .ref ad, .ref rd, .ref wd, .ref h, .int (nI sk)])), (ad, .inr (4, [.ref ab, .int (nI cnt)])), (ab, .inl (cY 0, 8, .inl (m_nf f))), (h, .inr (0, [.ref kp, .int (nI (min (z + 1) 4))])), (kp, .inl (cY 3, 4, .inr (.inr (.inr (.inr (m_k4 s0 s1 s2 s3)))))), (s0, .inr (4, [.ref b0, .int (nI cnt)])), (b0, .inl (cY 0, 8, .inl (m_nf f))), (s1, .inr (4, [.ref b1, .int (nI t0)])), (b1, .inl (cY 0, 8, .inl (m_nf g0))), (s2, .inr (4, [.ref b2, .int (nI t1)])), (b2, .inl (cY 0, 8, .inl (m_nf g1))), (s3, .inr (4, [.ref b3, .int (nI t2)])), (b3, .inl (cY 0, 8, .inl (m_nf g2)))] := hD
  refine lv_aload_n hx hb dX6_replace_11 rfl (lv_at hl 0 rfl) ?_
  refine va_get (D := D) (ci := 6) (v := .ref ad) (C := RX6) (T := TX6) (N := 8) hx hb hts hwd1 hown hK hP 0 rfl rfl 3 (by decide) hwd2 (fun _ h9 => h9) rfl dX6_replace_12 ?_
  refine lv_iload_n hx hb dX6_replace_15 rfl (lv_at hl 1 rfl) ?_
  refine lv_iload_n hx hb dX6_replace_16 rfl (lv_at hl 2 rfl) ?_
  refine m_callVv (As := [.int (nI k), .int (nI v)]) (rest := []) C0 hl hP hD hS (c_X4_put l D cY ad ab cnt f k v (by first | assumption | omega | exact nm_lt _ _ | exact np_lt _ _ | decide)) (cwV 2 hts gX6_replace_X4_put rfl rfl rfl (by decide +kernel) ⟨Nat.le_of_ble_eq_true rfl, Nat.le_of_ble_eq_true rfl⟩) dX6_replace_17 [1, 2] rfl rfl 1 rfl rfl rfl rfl (Nat.le_of_ble_eq_true rfl) (Nat.zero_le _) (Nat.zero_le _) (fun _ => rfl) (fun u H2 locs hw hP hD hS => ?_)
  try dsimp only at hw
  clear hw
  have hP : va_P D vwCl [(nx, .inr (6, [.ref fd, .ref tb, .ref pr, .ref ad, .ref rd, .ref wd, .ref h, .int (nI sk)])), (ad, .inr (4, [.ref ab, .int (nI cnt)])), (ab, .inl (cY 0, 8, .inl (m_nf (m_up f k v)))), (h, .inr (0, [.ref kp, .int (nI (min (z + 1) 4))])), (kp, .inl (cY 3, 4, .inr (.inr (.inr (.inr (m_k4 s0 s1 s2 s3)))))), (s0, .inr (4, [.ref b0, .int (nI cnt)])), (b0, .inl (cY 0, 8, .inl (m_nf f))), (s1, .inr (4, [.ref b1, .int (nI t0)])), (b1, .inl (cY 0, 8, .inl (m_nf g0))), (s2, .inr (4, [.ref b2, .int (nI t1)])), (b2, .inl (cY 0, 8, .inl (m_nf g1))), (s3, .inr (4, [.ref b3, .int (nI t2)])), (b3, .inl (cY 0, 8, .inl (m_nf g2)))] H2 := hP
  have hD : va_D A [(nx, .inr (6, [.ref fd, .ref tb, .ref pr, .ref ad, .ref rd, .ref wd, .ref h, .int (nI sk)])), (ad, .inr (4, [.ref ab, .int (nI cnt)])), (ab, .inl (cY 0, 8, .inl (m_nf (m_up f k v)))), (h, .inr (0, [.ref kp, .int (nI (min (z + 1) 4))])), (kp, .inl (cY 3, 4, .inr (.inr (.inr (.inr (m_k4 s0 s1 s2 s3)))))), (s0, .inr (4, [.ref b0, .int (nI cnt)])), (b0, .inl (cY 0, 8, .inl (m_nf f))), (s1, .inr (4, [.ref b1, .int (nI t0)])), (b1, .inl (cY 0, 8, .inl (m_nf g0))), (s2, .inr (4, [.ref b2, .int (nI t1)])), (b2, .inl (cY 0, 8, .inl (m_nf g1))), (s3, .inr (4, [.ref b3, .int (nI t2)])), (b3, .inl (cY 0, 8, .inl (m_nf g2)))] := hD
  refine lv_iload_n hx hb dX6_replace_20 rfl (lv_at hl 2 rfl) ?_
  subst hQ
  exact m_iret C0 hS dX6_replace_21 (u := ()) hP (by first | trivial | rfl | omega)
set_option maxHeartbeats 4000000 in
set_option maxRecDepth 100000 in
theorem c_X6_tryProgram (l : Launch) (D : va_G) (cY : Nat → ClassId) (nx fd tb pr ad rd wd h sk : Nat) (tp sp len sc cur : Nat) (tx : Nat → Nat) (sa : Nat → Nat) (pt pg pf pe : Nat → Int32) (ab cnt : Nat) (f : Nat → Nat) (rb rc : Nat) (rf : Nat → Nat) (fb : Nat) (bp : Nat → Nat) (ps : List p_St) (hf8 : m_z 8 f) (hf16 : ∀ j, f j < 65536) (hrf8 : m_z 8 rf) (hB : n_bp bp) (hsc : sc = ps.length) (hps : ps.length ≤ 15) (hheld : p_held ps pt pg pf pe) : m_Mi l yX6_tryProgram wsX6_tryProgram 5 119 D cY [.ref nx] ([(nx, .inr (6, [.ref fd, .ref tb, .ref pr, .ref ad, .ref rd, .ref wd, .ref h, .int (nI sk)])), (pr, .inr (3, [.ref tp, .ref sp, .int (nI len), .int (nI sc), .int (nI cur)])), (tp, .inl (cY 1, 60, .inl (m_nf tx))), (sp, .inl (cY 4, 15, .inr (.inr (.inr (.inr (m_sa sa)))))), (ad, .inr (4, [.ref ab, .int (nI cnt)])), (ab, .inl (cY 0, 8, .inl (m_nf f))), (rd, .inr (4, [.ref rb, .int (nI rc)])), (rb, .inl (cY 0, 8, .inl (m_nf rf))), (fd, .inr (2, [.ref fb])), (fb, .inl (cY 0, 256, .inl (m_nf bp)))] ++ m_pool sa pt pg pf pe) (fun (res : Int32) (u : (Nat → Nat) × Nat) => ((res, u.1, u.2) = p_run ps 0 f cnt) ∧ (m_z 8 u.1) ∧ (∀ j, u.1 j < 65536)) (fun (u : (Nat → Nat) × Nat) => ([(nx, .inr (6, [.ref fd, .ref tb, .ref pr, .ref ad, .ref rd, .ref wd, .ref h, .int (nI sk)])), (pr, .inr (3, [.ref tp, .ref sp, .int (nI len), .int (nI sc), .int (nI cur)])), (tp, .inl (cY 1, 60, .inl (m_nf tx))), (sp, .inl (cY 4, 15, .inr (.inr (.inr (.inr (m_sa sa)))))), (ad, .inr (4, [.ref ab, .int (nI cnt)])), (ab, .inl (cY 0, 8, .inl (m_nf f))), (rd, .inr (4, [.ref rb, .int (nI u.2)])), (rb, .inl (cY 0, 8, .inl (m_nf u.1))), (fd, .inr (2, [.ref fb])), (fb, .inl (cY 0, 256, .inl (m_nf bp)))] ++ m_pool sa pt pg pf pe)) := by
  refine m_enterI (cc := cX6_tryProgram) (maxL := 1) (ret := (some .int)) (by decide +kernel) rfl (Nat.le_of_ble_eq_true rfl) ?_
  intro p e s m below meth c A ls C0 hP hD hl
  obtain ⟨hx, hb, hr, hml, hts, hown, hlocks, hK, hA⟩ := id C0
  generalize hQ : MQ below _ _ s 0 0 A = Q
  have hS : va_S A s.heap s.heap [] := va_S.rf
  have hl : lv_has ls 1 [(0, .ref nx)] := hl
  have hwd0 := hts (.fieldLink RX6 37 "NimberField" "trial" "LNimberField$State;") (by decide +kernel)
  have hwd1 := (show ∀ w ∈ u_ws RX6 TX6 8, w ∈ wsX6_tryProgram from by decide +kernel)
  have hwd2 := hts (.fieldLink RX6 33 "NimberField" "state" "LNimberField$State;") (by decide +kernel)
  have hwd3 := hts (.fieldLink RX6 26 "NimberField" "program" "LNimberField$Program;") (by decide +kernel)
  have hwd4 := hts (.fieldLink RX6 12 "NimberField" "field" "LNimberField$Nimbers;") (by decide +kernel)
  refine lv_aload_n hx hb dX6_tryProgram_0 rfl (lv_at hl 0 rfl) ?_
  refine va_get (D := D) (ci := 6) (v := .ref rd) (C := RX6) (T := TX6) (N := 8) hx hb hts hwd1 hown hK hP 0 rfl rfl 4 (by decide) hwd0 (fun _ h9 => h9) rfl dX6_tryProgram_1 ?_
  refine lv_aload_n hx hb dX6_tryProgram_4 rfl (lv_at hl 0 rfl) ?_
  refine va_get (D := D) (ci := 6) (v := .ref ad) (C := RX6) (T := TX6) (N := 8) hx hb hts hwd1 hown hK hP 0 rfl rfl 3 (by decide) hwd2 (fun _ h9 => h9) rfl dX6_tryProgram_5 ?_
  refine m_callVv (As := [.ref ad]) (rest := []) C0 hl hP hD hS (c_X4_copyFrom l D cY rd rb rc rf ad ab cnt f (by first | assumption | omega | exact nm_lt _ _ | exact np_lt _ _ | decide) (by first | assumption | omega | exact nm_lt _ _ | exact np_lt _ _ | decide)) (cwV 1 hts gX6_tryProgram_X4_copyFrom rfl rfl rfl (by decide +kernel) ⟨Nat.le_of_ble_eq_true rfl, Nat.le_of_ble_eq_true rfl⟩) dX6_tryProgram_8 [6, 7, 4, 5] rfl rfl 6 rfl rfl rfl rfl (Nat.le_of_ble_eq_true rfl) (Nat.zero_le _) (Nat.zero_le _) (fun _ => rfl) (fun u H1 locs hw hP hD hS => ?_)
  try dsimp only at hw
  clear hw
  have hP : va_P D vwCl ([(nx, .inr (6, [.ref fd, .ref tb, .ref pr, .ref ad, .ref rd, .ref wd, .ref h, .int (nI sk)])), (pr, .inr (3, [.ref tp, .ref sp, .int (nI len), .int (nI sc), .int (nI cur)])), (tp, .inl (cY 1, 60, .inl (m_nf tx))), (sp, .inl (cY 4, 15, .inr (.inr (.inr (.inr (m_sa sa)))))), (ad, .inr (4, [.ref ab, .int (nI cnt)])), (ab, .inl (cY 0, 8, .inl (m_nf f))), (rd, .inr (4, [.ref rb, .int (nI cnt)])), (rb, .inl (cY 0, 8, .inl (m_nf f))), (fd, .inr (2, [.ref fb])), (fb, .inl (cY 0, 256, .inl (m_nf bp)))] ++ m_pool sa pt pg pf pe) H1 := hP
  have hD : va_D A ([(nx, .inr (6, [.ref fd, .ref tb, .ref pr, .ref ad, .ref rd, .ref wd, .ref h, .int (nI sk)])), (pr, .inr (3, [.ref tp, .ref sp, .int (nI len), .int (nI sc), .int (nI cur)])), (tp, .inl (cY 1, 60, .inl (m_nf tx))), (sp, .inl (cY 4, 15, .inr (.inr (.inr (.inr (m_sa sa)))))), (ad, .inr (4, [.ref ab, .int (nI cnt)])), (ab, .inl (cY 0, 8, .inl (m_nf f))), (rd, .inr (4, [.ref rb, .int (nI cnt)])), (rb, .inl (cY 0, 8, .inl (m_nf f))), (fd, .inr (2, [.ref fb])), (fb, .inl (cY 0, 256, .inl (m_nf bp)))] ++ m_pool sa pt pg pf pe) := hD
  refine lv_aload_n hx hb dX6_tryProgram_11 rfl (lv_at hl 0 rfl) ?_
  refine va_get (D := D) (ci := 6) (v := .ref pr) (C := RX6) (T := TX6) (N := 8) hx hb hts hwd1 hown hK hP 0 rfl rfl 2 (by decide) hwd3 (fun _ h9 => h9) rfl dX6_tryProgram_12 ?_
  refine lv_aload_n hx hb dX6_tryProgram_15 rfl (lv_at hl 0 rfl) ?_
  refine va_get (D := D) (ci := 6) (v := .ref rd) (C := RX6) (T := TX6) (N := 8) hx hb hts hwd1 hown hK hP 0 rfl rfl 4 (by decide) hwd0 (fun _ h9 => h9) rfl dX6_tryProgram_16 ?_
  refine lv_aload_n hx hb dX6_tryProgram_19 rfl (lv_at hl 0 rfl) ?_
  refine va_get (D := D) (ci := 6) (v := .ref fd) (C := RX6) (T := TX6) (N := 8) hx hb hts hwd1 hown hK hP 0 rfl rfl 0 (by decide) hwd4 (fun _ h9 => h9) rfl dX6_tryProgram_20 ?_
  refine m_callPi (As := [.ref rd, .ref fd]) (rest := []) C0 hl hP hD hS (c_X3_runOn l D cY pr tp sp len sc cur tx rd rb cnt fd fb f bp sa pt pg pf pe ps (by first | assumption | omega | exact nm_lt _ _ | exact np_lt _ _ | decide) (by first | assumption | omega | exact nm_lt _ _ | exact np_lt _ _ | decide) (by first | assumption | omega | exact nm_lt _ _ | exact np_lt _ _ | decide) (by first | assumption | omega | exact nm_lt _ _ | exact np_lt _ _ | decide) (by first | assumption | omega | exact nm_lt _ _ | exact np_lt _ _ | decide) (by first | assumption | omega | exact nm_lt _ _ | exact np_lt _ _ | decide)) (cwV 2 hts gX6_tryProgram_X3_runOn rfl rfl rfl (by decide +kernel) ⟨Nat.le_of_ble_eq_true rfl, Nat.le_of_ble_eq_true rfl⟩) dX6_tryProgram_23 [1, 2, 3, 6, 7, 8, 9] rfl rfl 1 rfl rfl rfl rfl (Nat.le_of_ble_eq_true rfl) (Nat.zero_le _) (Nat.zero_le _) (fun _ => rfl) (fun _ => m_pool_fst) (fun r5 u H2 locs hw hP hD hS => ?_)
  obtain ⟨f9_3, cnt9_4⟩ := u
  try dsimp only at hw
  obtain ⟨hq6, hq7, hq8⟩ := hw
  have hP : va_P D vwCl ([(nx, .inr (6, [.ref fd, .ref tb, .ref pr, .ref ad, .ref rd, .ref wd, .ref h, .int (nI sk)])), (pr, .inr (3, [.ref tp, .ref sp, .int (nI len), .int (nI sc), .int (nI cur)])), (tp, .inl (cY 1, 60, .inl (m_nf tx))), (sp, .inl (cY 4, 15, .inr (.inr (.inr (.inr (m_sa sa)))))), (ad, .inr (4, [.ref ab, .int (nI cnt)])), (ab, .inl (cY 0, 8, .inl (m_nf f))), (rd, .inr (4, [.ref rb, .int (nI cnt9_4)])), (rb, .inl (cY 0, 8, .inl (m_nf f9_3))), (fd, .inr (2, [.ref fb])), (fb, .inl (cY 0, 256, .inl (m_nf bp)))] ++ m_pool sa pt pg pf pe) H2 := hP
  have hD : va_D A ([(nx, .inr (6, [.ref fd, .ref tb, .ref pr, .ref ad, .ref rd, .ref wd, .ref h, .int (nI sk)])), (pr, .inr (3, [.ref tp, .ref sp, .int (nI len), .int (nI sc), .int (nI cur)])), (tp, .inl (cY 1, 60, .inl (m_nf tx))), (sp, .inl (cY 4, 15, .inr (.inr (.inr (.inr (m_sa sa)))))), (ad, .inr (4, [.ref ab, .int (nI cnt)])), (ab, .inl (cY 0, 8, .inl (m_nf f))), (rd, .inr (4, [.ref rb, .int (nI cnt9_4)])), (rb, .inl (cY 0, 8, .inl (m_nf f9_3))), (fd, .inr (2, [.ref fb])), (fb, .inl (cY 0, 256, .inl (m_nf bp)))] ++ m_pool sa pt pg pf pe) := hD
  subst hQ
  exact m_iret C0 hS dX6_tryProgram_26 (u := (f9_3, cnt9_4)) hP (⟨hq6, hq7, hq8⟩)
