/-! The law's methods. -/
set_option maxHeartbeats 4000000 in
set_option maxRecDepth 100000 in
theorem c_L_up (l : Launch) (D : va_G) (cY : Nat → ClassId) (x : Int32) (n9 : Nat) (h0 : 0 < n9) (hn : n9 < 2 ^ 31) : m_Mi l yL_up wsL_up 0 0 D cY [.int x, .int (nI n9)] [] (fun (res : Int32) (u : Nat) => (res = nI u) ∧ (u < n9)) (fun (u : Nat) => []) := by
  refine m_enterI (cc := cL_up) (maxL := 2) (ret := (some .int)) (by decide +kernel) rfl (Nat.le_of_ble_eq_true rfl) ?_
  intro p e s m below meth c A ls C0 hP hD hl
  obtain ⟨hx, hb, hr, hml, hts, hown, hlocks, hK, hA⟩ := id C0
  generalize hQ : MQ below _ _ s 0 0 A = Q
  have hS : va_S A s.heap s.heap [] := va_S.rf
  have hl : lv_has ls 2 [(0, .int x), (1, .int (nI n9))] := hl
  have hwd0 := hts (.constant RL 8 (2147483647)) (by decide +kernel)
  refine lv_iload_n hx hb dL_up_0 rfl (lv_at hl 0 rfl) ?_
  refine lv_ldc hx hb hown hwd0 dL_up_1 ?_
  refine lv_topi (nm_r (show ((2147483647 : Int32)) = nI 2147483647 from by decide) ?_)
  refine lv_iand hx hb dL_up_3 ?_
  obtain ⟨q8, hq8, eq8⟩ := l_andm x (m := 2147483647) (by decide)
  refine lv_topi (nm_r (eq8) ?_)
  refine lv_iload_n hx hb dL_up_4 rfl (lv_at hl 1 rfl) ?_
  refine lv_irem hx hb dL_up_5 (l_ne0 h0 hn) ?_
  refine lv_topi (nm_r (pk_rem (by omega) (by omega) (by omega)) ?_)
  subst hQ
  exact m_iret C0 hS dL_up_6 (u := (q8 % n9)) hP (⟨rfl, Nat.mod_lt _ h0⟩)
theorem o_up (l : Launch) (D : va_G) (cY : Nat → ClassId) (eS : Nat → Nat) (eO : Nat) (x : Int32) (n9 : Nat) (h0 : 0 < n9) (hn : n9 < 2 ^ 31) : m_Me l yL_up wsL_up 0 0 0 0 D cY eS eO [.int x, .int (nI n9)] [] (fun (res : Int32) (u : Nat) => res = nI u ∧ u < n9) (fun _ => []) := m_ofI (c_L_up l D cY x n9 h0 hn)
set_option maxHeartbeats 8000000 in
set_option maxRecDepth 100000 in
theorem o_square (l : Launch) (hfl : l.stackTraces = false) (D : va_G) (cY : Nat → ClassId) (eS : Nat → Nat) (eO : Nat) (aa sa bp : Nat → Nat) (hB : n_bp bp) (j : oJ) (c : oC) (hj : o_J j) (hc : o_C c) (x : Nat) (hxx : x < 65536) : m_Me l yL_square wsL_square 7 200 0 0 D cY eS eO [.ref (aa 0), .int (nI x)] (o_w cY aa sa bp j c) (fun (res : Int32) (u : Unit) => (res = nI (q_s x))) (fun (u : Unit) => o_w cY aa sa bp j c) := by
  refine m_enterE (cc := cL_square) (maxL := 2) (ret := (some .int)) (by decide +kernel) rfl (Nat.le_of_ble_eq_true rfl) ?_
  intro p e s m below meth cq A ls C0 hE hP hD hl
  obtain ⟨hx, hb, hr, hml, hts, hown, hlocks, hK, hA⟩ := id C0
  generalize hQ : MQ below _ _ s 0 0 A = Q
  have hS : va_S A s.heap s.heap [] := va_S.rf
  have hl : lv_has ls 2 [(0, .ref (aa 0)), (1, .int (nI x))] := hl
  refine lv_aload_n hx hb dL_square_0 rfl (lv_at hl 0 rfl) ?_
  refine lv_iload_n hx hb dL_square_1 rfl (lv_at hl 1 rfl) ?_
  refine lv_iload_n hx hb dL_square_2 rfl (lv_at hl 1 rfl) ?_
  refine f_TO (As := [.ref (aa 0), .int (nI x), .int (nI x)]) (rest := []) C0 hE hl hP hD hS (o_halves l hfl D cY eS eO aa sa bp hB j c hj hc x x (by first | assumption | omega | exact nm_lt _ _ | exact np_lt _ _ | exact q_s_lt _ | decide) (by first | assumption | omega | exact nm_lt _ _ | exact np_lt _ _ | exact q_s_lt _ | decide)) (vx_cwSW 3 hts gL_square_L_halves rfl rfl rfl (by decide +kernel) ⟨Nat.le_of_ble_eq_true rfl, Nat.le_of_ble_eq_true rfl⟩) dL_square_3 rfl (Nat.le_of_ble_eq_true rfl) (Nat.le_of_ble_eq_true rfl) (Nat.le_of_ble_eq_true rfl) (fun _ => rfl) (fun r2 u H1 locs hw hP hD hS => ?_)
  try dsimp only at hw
  obtain rfl := hw
  have hP : va_P D vwCl (o_w cY aa sa bp j c) H1 := hP
  have hD : va_D A (o_w cY aa sa bp j c) := hD
  subst hQ
  exact f_iret (by decide) (by decide) C0 hS dL_square_6 (u := ()) hP (rfl)
