set_option maxHeartbeats 4000000 in
set_option maxRecDepth 100000 in
theorem c_X6_set (l : Launch) (D : va_G) (cY : Nat → ClassId) (nx fd tb pr ad rd wd h sk : Nat) (ab cnt : Nat) (f : Nat → Nat) (kp z s0 s1 s2 s3 b0 b1 b2 b3 t0 t1 t2 t3 : Nat) (g0 g1 g2 g3 : Nat → Nat) (k v : Nat) (hf8 : m_z 8 f) (hf16 : ∀ j, f j < 65536) (hg0 : m_z 8 g0) (hg1 : m_z 8 g1) (hg2 : m_z 8 g2) (hg3 : m_z 8 g3) (hz4 : z ≤ 4) (hk : k < 8) (hv : v < 65536) : m_Mi l yX6_set wsX6_set 3 65 D cY [.ref nx, .int (nI k), .int (nI v)] [(nx, .inr (6, [.ref fd, .ref tb, .ref pr, .ref ad, .ref rd, .ref wd, .ref h, .int (nI sk)])), (ad, .inr (4, [.ref ab, .int (nI cnt)])), (ab, .inl (cY 0, 8, .inl (m_nf f))), (h, .inr (0, [.ref kp, .int (nI z)])), (kp, .inl (cY 3, 4, .inr (.inr (.inr (.inr (m_k4 s0 s1 s2 s3)))))), (s0, .inr (4, [.ref b0, .int (nI t0)])), (b0, .inl (cY 0, 8, .inl (m_nf g0))), (s1, .inr (4, [.ref b1, .int (nI t1)])), (b1, .inl (cY 0, 8, .inl (m_nf g1))), (s2, .inr (4, [.ref b2, .int (nI t2)])), (b2, .inl (cY 0, 8, .inl (m_nf g2))), (s3, .inr (4, [.ref b3, .int (nI t3)])), (b3, .inl (cY 0, 8, .inl (m_nf g3)))] (fun (res : Int32) (u : Unit) => res = nI (f k)) (fun (u : Unit) => [(nx, .inr (6, [.ref fd, .ref tb, .ref pr, .ref ad, .ref rd, .ref wd, .ref h, .int (nI sk)])), (ad, .inr (4, [.ref ab, .int (nI cnt)])), (ab, .inl (cY 0, 8, .inl (m_nf (m_up f k v)))), (h, .inr (0, [.ref kp, .int (nI (min (z + 1) 4))])), (kp, .inl (cY 3, 4, .inr (.inr (.inr (.inr (m_k4 s0 s1 s2 s3)))))), (s0, .inr (4, [.ref b0, .int (nI cnt)])), (b0, .inl (cY 0, 8, .inl (m_nf f))), (s1, .inr (4, [.ref b1, .int (nI t0)])), (b1, .inl (cY 0, 8, .inl (m_nf g0))), (s2, .inr (4, [.ref b2, .int (nI t1)])), (b2, .inl (cY 0, 8, .inl (m_nf g1))), (s3, .inr (4, [.ref b3, .int (nI t2)])), (b3, .inl (cY 0, 8, .inl (m_nf g2)))]) := by
  refine m_enterI (cc := cX6_set) (maxL := 4) (ret := (some .int)) (by decide +kernel) rfl (Nat.le_of_ble_eq_true rfl) ?_
  intro p e s m below meth c A ls C0 hP hD hl
  obtain ⟨hx, hb, hr, hml, hts, hown, hlocks, hK, hA⟩ := id C0
  generalize hQ : MQ below _ _ s 0 0 A = Q
  have hS : va_S A s.heap s.heap [] := va_S.rf
  have hl : lv_has ls 4 [(0, .ref nx), (1, .int (nI k)), (2, .int (nI v))] := hl
  have hwd0 := hts (.constant RX6 58 (65535)) (by decide +kernel)
  have hwd1 := hts (.fieldLink RX6 33 "NimberField" "state" "LNimberField$State;") (by decide +kernel)
  have hwd2 := (show ∀ w ∈ u_ws RX6 TX6 8, w ∈ wsX6_set from by decide +kernel)
  have hwd3 := hts (.fieldLink RX6 46 "NimberField" "history" "LNimberField$History;") (by decide +kernel)
  refine lv_iload_n hx hb dX6_set_0 rfl (lv_at hl 1 rfl) ?_
  refine m_callSv (As := [.int (nI k)]) (rest := []) C0 hl hP hD hS (c_X6_requireRegister l D cY k (by first | assumption | omega | exact nm_lt _ _ | exact np_lt _ _ | decide)) (va_cwS 1 hts gX6_set_X6_requireRegister rfl rfl rfl (by decide +kernel) ⟨Nat.le_of_ble_eq_true rfl, Nat.le_of_ble_eq_true rfl⟩) dX6_set_1 [] rfl rfl rfl (Nat.le_of_ble_eq_true rfl) (Nat.zero_le _) (Nat.zero_le _) (fun _ => rfl) (fun u H1 locs hw hP hD hS => ?_)
  try dsimp only at hw
  clear hw
  have hP : va_P D vwCl [(nx, .inr (6, [.ref fd, .ref tb, .ref pr, .ref ad, .ref rd, .ref wd, .ref h, .int (nI sk)])), (ad, .inr (4, [.ref ab, .int (nI cnt)])), (ab, .inl (cY 0, 8, .inl (m_nf f))), (h, .inr (0, [.ref kp, .int (nI z)])), (kp, .inl (cY 3, 4, .inr (.inr (.inr (.inr (m_k4 s0 s1 s2 s3)))))), (s0, .inr (4, [.ref b0, .int (nI t0)])), (b0, .inl (cY 0, 8, .inl (m_nf g0))), (s1, .inr (4, [.ref b1, .int (nI t1)])), (b1, .inl (cY 0, 8, .inl (m_nf g1))), (s2, .inr (4, [.ref b2, .int (nI t2)])), (b2, .inl (cY 0, 8, .inl (m_nf g2))), (s3, .inr (4, [.ref b3, .int (nI t3)])), (b3, .inl (cY 0, 8, .inl (m_nf g3)))] H1 := hP
  have hD : va_D A [(nx, .inr (6, [.ref fd, .ref tb, .ref pr, .ref ad, .ref rd, .ref wd, .ref h, .int (nI sk)])), (ad, .inr (4, [.ref ab, .int (nI cnt)])), (ab, .inl (cY 0, 8, .inl (m_nf f))), (h, .inr (0, [.ref kp, .int (nI z)])), (kp, .inl (cY 3, 4, .inr (.inr (.inr (.inr (m_k4 s0 s1 s2 s3)))))), (s0, .inr (4, [.ref b0, .int (nI t0)])), (b0, .inl (cY 0, 8, .inl (m_nf g0))), (s1, .inr (4, [.ref b1, .int (nI t1)])), (b1, .inl (cY 0, 8, .inl (m_nf g1))), (s2, .inr (4, [.ref b2, .int (nI t2)])), (b2, .inl (cY 0, 8, .inl (m_nf g2))), (s3, .inr (4, [.ref b3, .int (nI t3)])), (b3, .inl (cY 0, 8, .inl (m_nf g3)))] := hD
  refine lv_iload_n hx hb dX6_set_4 rfl (lv_at hl 2 rfl) ?_
  refine lv_ldc hx hb hown hwd0 dX6_set_5 ?_
  refine lv_topi (nm_r (show ((65535 : Int32)) = nI 65535 from by decide) ?_)
  refine m_callSv (As := [.int (nI v), .int (nI 65535)]) (rest := []) C0 hl hP hD hS (c_X6_requireRange l D cY v 65535 (by omega) (by decide)) (va_cwS 2 hts gX6_set_X6_requireRange rfl rfl rfl (by decide +kernel) ⟨Nat.le_of_ble_eq_true rfl, Nat.le_of_ble_eq_true rfl⟩) dX6_set_7 [] rfl rfl rfl (Nat.le_of_ble_eq_true rfl) (Nat.zero_le _) (Nat.zero_le _) (fun _ => rfl) (fun u H2 locs hw hP hD hS => ?_)
  try dsimp only at hw
  clear hw
  have hP : va_P D vwCl [(nx, .inr (6, [.ref fd, .ref tb, .ref pr, .ref ad, .ref rd, .ref wd, .ref h, .int (nI sk)])), (ad, .inr (4, [.ref ab, .int (nI cnt)])), (ab, .inl (cY 0, 8, .inl (m_nf f))), (h, .inr (0, [.ref kp, .int (nI z)])), (kp, .inl (cY 3, 4, .inr (.inr (.inr (.inr (m_k4 s0 s1 s2 s3)))))), (s0, .inr (4, [.ref b0, .int (nI t0)])), (b0, .inl (cY 0, 8, .inl (m_nf g0))), (s1, .inr (4, [.ref b1, .int (nI t1)])), (b1, .inl (cY 0, 8, .inl (m_nf g1))), (s2, .inr (4, [.ref b2, .int (nI t2)])), (b2, .inl (cY 0, 8, .inl (m_nf g2))), (s3, .inr (4, [.ref b3, .int (nI t3)])), (b3, .inl (cY 0, 8, .inl (m_nf g3)))] H2 := hP
  have hD : va_D A [(nx, .inr (6, [.ref fd, .ref tb, .ref pr, .ref ad, .ref rd, .ref wd, .ref h, .int (nI sk)])), (ad, .inr (4, [.ref ab, .int (nI cnt)])), (ab, .inl (cY 0, 8, .inl (m_nf f))), (h, .inr (0, [.ref kp, .int (nI z)])), (kp, .inl (cY 3, 4, .inr (.inr (.inr (.inr (m_k4 s0 s1 s2 s3)))))), (s0, .inr (4, [.ref b0, .int (nI t0)])), (b0, .inl (cY 0, 8, .inl (m_nf g0))), (s1, .inr (4, [.ref b1, .int (nI t1)])), (b1, .inl (cY 0, 8, .inl (m_nf g1))), (s2, .inr (4, [.ref b2, .int (nI t2)])), (b2, .inl (cY 0, 8, .inl (m_nf g2))), (s3, .inr (4, [.ref b3, .int (nI t3)])), (b3, .inl (cY 0, 8, .inl (m_nf g3)))] := hD
  refine lv_aload_n hx hb dX6_set_10 rfl (lv_at hl 0 rfl) ?_
  refine va_get (D := D) (ci := 6) (v := .ref ad) (C := RX6) (T := TX6) (N := 8) hx hb hts hwd2 hown hK hP 0 rfl rfl 3 (by decide) hwd1 (fun _ h9 => h9) rfl dX6_set_11 ?_
  refine lv_iload_n hx hb dX6_set_14 rfl (lv_at hl 1 rfl) ?_
  refine m_callVi (As := [.int (nI k)]) (rest := []) C0 hl hP hD hS (c_X4_nimberIn l D cY ad ab cnt f k (by first | assumption | omega | exact nm_lt _ _ | exact np_lt _ _ | decide)) (cwV 1 hts gX6_set_X4_nimberIn rfl rfl rfl (by decide +kernel) ⟨Nat.le_of_ble_eq_true rfl, Nat.le_of_ble_eq_true rfl⟩) dX6_set_15 [1, 2] rfl rfl 1 rfl rfl rfl rfl (Nat.le_of_ble_eq_true rfl) (Nat.zero_le _) (Nat.zero_le _) (fun _ => rfl) (fun r4 u H3 locs hw hP hD hS => ?_)
  try dsimp only at hw
  obtain rfl := hw
  have hP : va_P D vwCl [(nx, .inr (6, [.ref fd, .ref tb, .ref pr, .ref ad, .ref rd, .ref wd, .ref h, .int (nI sk)])), (ad, .inr (4, [.ref ab, .int (nI cnt)])), (ab, .inl (cY 0, 8, .inl (m_nf f))), (h, .inr (0, [.ref kp, .int (nI z)])), (kp, .inl (cY 3, 4, .inr (.inr (.inr (.inr (m_k4 s0 s1 s2 s3)))))), (s0, .inr (4, [.ref b0, .int (nI t0)])), (b0, .inl (cY 0, 8, .inl (m_nf g0))), (s1, .inr (4, [.ref b1, .int (nI t1)])), (b1, .inl (cY 0, 8, .inl (m_nf g1))), (s2, .inr (4, [.ref b2, .int (nI t2)])), (b2, .inl (cY 0, 8, .inl (m_nf g2))), (s3, .inr (4, [.ref b3, .int (nI t3)])), (b3, .inl (cY 0, 8, .inl (m_nf g3)))] H3 := hP
  have hD : va_D A [(nx, .inr (6, [.ref fd, .ref tb, .ref pr, .ref ad, .ref rd, .ref wd, .ref h, .int (nI sk)])), (ad, .inr (4, [.ref ab, .int (nI cnt)])), (ab, .inl (cY 0, 8, .inl (m_nf f))), (h, .inr (0, [.ref kp, .int (nI z)])), (kp, .inl (cY 3, 4, .inr (.inr (.inr (.inr (m_k4 s0 s1 s2 s3)))))), (s0, .inr (4, [.ref b0, .int (nI t0)])), (b0, .inl (cY 0, 8, .inl (m_nf g0))), (s1, .inr (4, [.ref b1, .int (nI t1)])), (b1, .inl (cY 0, 8, .inl (m_nf g1))), (s2, .inr (4, [.ref b2, .int (nI t2)])), (b2, .inl (cY 0, 8, .inl (m_nf g2))), (s3, .inr (4, [.ref b3, .int (nI t3)])), (b3, .inl (cY 0, 8, .inl (m_nf g3)))] := hD
  refine lv_istore_n (lv' := [(3, .int (nI (f k))), (0, .ref nx), (1, .int (nI k)), (2, .int (nI v))]) hx hb dX6_set_18 rfl hl (by decide) rfl (fun ls hl => ?_)
  refine lv_aload_n hx hb dX6_set_19 rfl (lv_at hl 1 rfl) ?_
  refine va_get (D := D) (ci := 6) (v := .ref h) (C := RX6) (T := TX6) (N := 8) hx hb hts hwd2 hown hK hP 0 rfl rfl 6 (by decide) hwd3 (fun _ h9 => h9) rfl dX6_set_20 ?_
  refine lv_aload_n hx hb dX6_set_23 rfl (lv_at hl 1 rfl) ?_
  refine va_get (D := D) (ci := 6) (v := .ref ad) (C := RX6) (T := TX6) (N := 8) hx hb hts hwd2 hown hK hP 0 rfl rfl 3 (by decide) hwd1 (fun _ h9 => h9) rfl dX6_set_24 ?_
  refine m_callVv (As := [.ref ad]) (rest := []) C0 hl hP hD hS (c_X0_record l D cY h kp z s0 s1 s2 s3 b0 b1 b2 b3 t0 t1 t2 t3 g0 g1 g2 g3 ad ab cnt f (by first | assumption | omega | exact nm_lt _ _ | exact np_lt _ _ | decide) (by first | assumption | omega | exact nm_lt _ _ | exact np_lt _ _ | decide) (by first | assumption | omega | exact nm_lt _ _ | exact np_lt _ _ | decide) (by first | assumption | omega | exact nm_lt _ _ | exact np_lt _ _ | decide) (by first | assumption | omega | exact nm_lt _ _ | exact np_lt _ _ | decide) (by first | assumption | omega | exact nm_lt _ _ | exact np_lt _ _ | decide)) (cwV 1 hts gX6_set_X0_record rfl rfl rfl (by decide +kernel) ⟨Nat.le_of_ble_eq_true rfl, Nat.le_of_ble_eq_true rfl⟩) dX6_set_27 [3, 4, 5, 6, 7, 8, 9, 10, 11, 12, 1, 2] rfl rfl 3 rfl rfl rfl rfl (Nat.le_of_ble_eq_true rfl) (Nat.zero_le _) (Nat.zero_le _) (fun _ => rfl) (fun u H5 locs hw hP hD hS => ?_)
  try dsimp only at hw
  clear hw
  have hP : va_P D vwCl [(nx, .inr (6, [.ref fd, .ref tb, .ref pr, .ref ad, .ref rd, .ref wd, .ref h, .int (nI sk)])), (ad, .inr (4, [.ref ab, .int (nI cnt)])), (ab, .inl (cY 0, 8, .inl (m_nf f))), (h, .inr (0, [.ref kp, .int (nI (min (z + 1) 4))])), (kp, .inl (cY 3, 4, .inr (.inr (.inr (.inr (m_k4 s0 s1 s2 s3)))))), (s0, .inr (4, [.ref b0, .int (nI cnt)])), (b0, .inl (cY 0, 8, .inl (m_nf f))), (s1, .inr (4, [.ref b1, .int (nI t0)])), (b1, .inl (cY 0, 8, .inl (m_nf g0))), (s2, .inr (4, [.ref b2, .int (nI t1)])), (b2, .inl (cY 0, 8, .inl (m_nf g1))), (s3, .inr (4, [.ref b3, .int (nI t2)])), (b3, .inl (cY 0, 8, .inl (m_nf g2)))] H5 := hP
  have hD : va_D A [(nx, .inr (6, [.ref fd, .ref tb, .ref pr, .ref ad, .ref rd, .ref wd, .ref h, .int (nI sk)])), (ad, .inr (4, [.ref ab, .int (nI cnt)])), (ab, .inl (cY 0, 8, .inl (m_nf f))), (h, .inr (0, [.ref kp, .int (nI (min (z + 1) 4))])), (kp, .inl (cY 3, 4, .inr (.inr (.inr (.inr (m_k4 s0 s1 s2 s3)))))), (s0, .inr (4, [.ref b0, .int (nI cnt)])), (b0, .inl (cY 0, 8, .inl (m_nf f))), (s1, .inr (4, [.ref b1, .int (nI t0)])), (b1, .inl (cY 0, 8, .inl (m_nf g0))), (s2, .inr (4, [.ref b2, .int (nI t1)])), (b2, .inl (cY 0, 8, .inl (m_nf g1))), (s3, .inr (4, [.ref b3, .int (nI t2)])), (b3, .inl (cY 0, 8, .inl (m_nf g2)))] := hD
  refine lv_aload_n hx hb dX6_set_30 rfl (lv_at hl 1 rfl) ?_
  refine va_get (D := D) (ci := 6) (v := .ref ad) (C := RX6) (T := TX6) (N := 8) hx hb hts hwd2 hown hK hP 0 rfl rfl 3 (by decide) hwd1 (fun _ h9 => h9) rfl dX6_set_31 ?_
  refine lv_iload_n hx hb dX6_set_34 rfl (lv_at hl 2 rfl) ?_
  refine lv_iload_n hx hb dX6_set_35 rfl (lv_at hl 3 rfl) ?_
  refine m_callVv (As := [.int (nI k), .int (nI v)]) (rest := []) C0 hl hP hD hS (c_X4_put l D cY ad ab cnt f k v (by first | assumption | omega | exact nm_lt _ _ | exact np_lt _ _ | decide)) (cwV 2 hts gX6_set_X4_put rfl rfl rfl (by decide +kernel) ⟨Nat.le_of_ble_eq_true rfl, Nat.le_of_ble_eq_true rfl⟩) dX6_set_36 [1, 2] rfl rfl 1 rfl rfl rfl rfl (Nat.le_of_ble_eq_true rfl) (Nat.zero_le _) (Nat.zero_le _) (fun _ => rfl) (fun u H6 locs hw hP hD hS => ?_)
  try dsimp only at hw
  clear hw
  have hP : va_P D vwCl [(nx, .inr (6, [.ref fd, .ref tb, .ref pr, .ref ad, .ref rd, .ref wd, .ref h, .int (nI sk)])), (ad, .inr (4, [.ref ab, .int (nI cnt)])), (ab, .inl (cY 0, 8, .inl (m_nf (m_up f k v)))), (h, .inr (0, [.ref kp, .int (nI (min (z + 1) 4))])), (kp, .inl (cY 3, 4, .inr (.inr (.inr (.inr (m_k4 s0 s1 s2 s3)))))), (s0, .inr (4, [.ref b0, .int (nI cnt)])), (b0, .inl (cY 0, 8, .inl (m_nf f))), (s1, .inr (4, [.ref b1, .int (nI t0)])), (b1, .inl (cY 0, 8, .inl (m_nf g0))), (s2, .inr (4, [.ref b2, .int (nI t1)])), (b2, .inl (cY 0, 8, .inl (m_nf g1))), (s3, .inr (4, [.ref b3, .int (nI t2)])), (b3, .inl (cY 0, 8, .inl (m_nf g2)))] H6 := hP
  have hD : va_D A [(nx, .inr (6, [.ref fd, .ref tb, .ref pr, .ref ad, .ref rd, .ref wd, .ref h, .int (nI sk)])), (ad, .inr (4, [.ref ab, .int (nI cnt)])), (ab, .inl (cY 0, 8, .inl (m_nf (m_up f k v)))), (h, .inr (0, [.ref kp, .int (nI (min (z + 1) 4))])), (kp, .inl (cY 3, 4, .inr (.inr (.inr (.inr (m_k4 s0 s1 s2 s3)))))), (s0, .inr (4, [.ref b0, .int (nI cnt)])), (b0, .inl (cY 0, 8, .inl (m_nf f))), (s1, .inr (4, [.ref b1, .int (nI t0)])), (b1, .inl (cY 0, 8, .inl (m_nf g0))), (s2, .inr (4, [.ref b2, .int (nI t1)])), (b2, .inl (cY 0, 8, .inl (m_nf g1))), (s3, .inr (4, [.ref b3, .int (nI t2)])), (b3, .inl (cY 0, 8, .inl (m_nf g2)))] := hD
  refine lv_iload_n hx hb dX6_set_39 rfl (lv_at hl 0 rfl) ?_
  subst hQ
  exact m_iret C0 hS dX6_set_40 (u := ()) hP (by first | trivial | rfl | omega)
set_option maxHeartbeats 4000000 in
set_option maxRecDepth 100000 in
theorem c_X6_set_x1 (l : Launch) (hfl : l.stackTraces = false) (D : va_G) (cY : Nat → ClassId) (eS : Nat → Nat) (eO : Nat) (nx fd tb pr ad rd wd h sk : Nat) (x y : Int32) (hn : ¬ m_isR x) : m_Mx l yX6_set wsX6_set 7 116 D cY eS eO [.ref nx, .int x, .int y] [(nx, .inr (6, [.ref fd, .ref tb, .ref pr, .ref ad, .ref rd, .ref wd, .ref h, .int (nI sk)]))] e_IO (fun (u : Unit) => [(nx, .inr (6, [.ref fd, .ref tb, .ref pr, .ref ad, .ref rd, .ref wd, .ref h, .int (nI sk)]))]) := by
  refine m_enterX (cc := cX6_set) (maxL := 4) (ret := (some .int)) (by decide +kernel) rfl (Nat.le_of_ble_eq_true rfl) ?_
  intro p e s m below meth c A ls C0 hnt hE hP hD hl
  obtain ⟨hx, hb, hr, hml, hts, hown, hlocks, hK, hA⟩ := id C0
  obtain ⟨hz1, hz2, ⟨hcIO, hcIA, hcIS⟩, hdcl, ⟨hs0, hs1, hs2, hs3, hs4, hs5, hs6, hs7⟩, ⟨hn1, hn2⟩, ⟨hl0, hl1, hl2, hl3, hl4⟩, hzO, htO⟩ := id hE
  generalize hQ : vx_MQ below _ _ _ s 1 6 A = Q
  have hS : va_S A s.heap s.heap [] := va_S.rf
  have hl : lv_has ls 4 [(0, .ref nx), (1, .int x), (2, .int y)] := hl
  refine lv_iload_n hx hb dX6_set_0 rfl (lv_at hl 1 rfl) ?_
  subst hQ
  exact m_callSx (As := [.int x]) (rest := []) C0 hnt hE hl hP hD hS (c_X6_requireRegister_x l hfl D cY eS eO x (by first | assumption | omega | exact nm_lt _ _ | exact np_lt _ _ | decide)) (va_cwS 1 hts gX6_set_X6_requireRegister rfl rfl rfl (by decide +kernel) ⟨Nat.le_of_ble_eq_true rfl, Nat.le_of_ble_eq_true rfl⟩) dX6_set_1 [] rfl rfl rfl (Nat.le_of_ble_eq_true rfl) (Nat.le_of_ble_eq_true rfl) (Nat.le_of_ble_eq_true rfl) (fun _ => rfl) (fun _ => ⟨(), rfl⟩)
set_option maxHeartbeats 4000000 in
set_option maxRecDepth 100000 in
theorem c_X6_set_x2 (l : Launch) (hfl : l.stackTraces = false) (D : va_G) (cY : Nat → ClassId) (eS : Nat → Nat) (eO : Nat) (nx fd tb pr ad rd wd h sk : Nat) (k : Nat) (y : Int32) (hk : k < 8) (hn : ¬ m_isN y) : m_Mx l yX6_set wsX6_set 7 117 D cY eS eO [.ref nx, .int (nI k), .int y] [(nx, .inr (6, [.ref fd, .ref tb, .ref pr, .ref ad, .ref rd, .ref wd, .ref h, .int (nI sk)]))] e_IA (fun (u : Unit) => [(nx, .inr (6, [.ref fd, .ref tb, .ref pr, .ref ad, .ref rd, .ref wd, .ref h, .int (nI sk)]))]) := by
  refine m_enterX (cc := cX6_set) (maxL := 4) (ret := (some .int)) (by decide +kernel) rfl (Nat.le_of_ble_eq_true rfl) ?_
  intro p e s m below meth c A ls C0 hnt hE hP hD hl
  obtain ⟨hx, hb, hr, hml, hts, hown, hlocks, hK, hA⟩ := id C0
  obtain ⟨hz1, hz2, ⟨hcIO, hcIA, hcIS⟩, hdcl, ⟨hs0, hs1, hs2, hs3, hs4, hs5, hs6, hs7⟩, ⟨hn1, hn2⟩, ⟨hl0, hl1, hl2, hl3, hl4⟩, hzO, htO⟩ := id hE
  generalize hQ : vx_MQ below _ _ _ s 1 6 A = Q
  have hS : va_S A s.heap s.heap [] := va_S.rf
  have hl : lv_has ls 4 [(0, .ref nx), (1, .int (nI k)), (2, .int y)] := hl
  have hwd0 := hts (.constant RX6 58 (65535)) (by decide +kernel)
  refine lv_iload_n hx hb dX6_set_0 rfl (lv_at hl 1 rfl) ?_
  refine m_callSv (As := [.int (nI k)]) (rest := []) C0 hl hP hD hS (c_X6_requireRegister l D cY k (by first | assumption | omega | exact nm_lt _ _ | exact np_lt _ _ | decide)) (va_cwS 1 hts gX6_set_X6_requireRegister rfl rfl rfl (by decide +kernel) ⟨Nat.le_of_ble_eq_true rfl, Nat.le_of_ble_eq_true rfl⟩) dX6_set_1 [] rfl rfl rfl (Nat.le_of_ble_eq_true rfl) (Nat.zero_le _) (Nat.zero_le _) (fun _ => rfl) (fun u H1 locs hw hP hD hS => ?_)
  try dsimp only at hw
  clear hw
  have hP : va_P D vwCl [(nx, .inr (6, [.ref fd, .ref tb, .ref pr, .ref ad, .ref rd, .ref wd, .ref h, .int (nI sk)]))] H1 := hP
  have hD : va_D A [(nx, .inr (6, [.ref fd, .ref tb, .ref pr, .ref ad, .ref rd, .ref wd, .ref h, .int (nI sk)]))] := hD
  refine lv_iload_n hx hb dX6_set_4 rfl (lv_at hl 2 rfl) ?_
  refine lv_ldc hx hb hown hwd0 dX6_set_5 ?_
  refine lv_topi (nm_r (show ((65535 : Int32)) = nI 65535 from by decide) ?_)
  subst hQ
  exact m_callSx (As := [.int y, .int (nI 65535)]) (rest := []) C0 hnt hE hl hP hD hS (c_X6_requireRange_x l hfl D cY eS eO y (nI 65535) (hn)) (va_cwS 2 hts gX6_set_X6_requireRange rfl rfl rfl (by decide +kernel) ⟨Nat.le_of_ble_eq_true rfl, Nat.le_of_ble_eq_true rfl⟩) dX6_set_7 [] rfl rfl rfl (Nat.le_of_ble_eq_true rfl) (Nat.le_of_ble_eq_true rfl) (Nat.le_of_ble_eq_true rfl) (fun _ => rfl) (fun _ => ⟨(), rfl⟩)
set_option maxHeartbeats 4000000 in
set_option maxRecDepth 100000 in
theorem c_X6_invert (l : Launch) (D : va_G) (cY : Nat → ClassId) (nx fd tb pr ad rd wd h sk : Nat) (ab cnt : Nat) (f : Nat → Nat) (kp z s0 s1 s2 s3 b0 b1 b2 b3 t0 t1 t2 t3 : Nat) (g0 g1 g2 g3 : Nat → Nat) (fb : Nat) (bp : Nat → Nat) (k : Nat) (hf8 : m_z 8 f) (hf16 : ∀ j, f j < 65536) (hg0 : m_z 8 g0) (hg1 : m_z 8 g1) (hg2 : m_z 8 g2) (hg3 : m_z 8 g3) (hz4 : z ≤ 4) (hB : n_bp bp) (hk : k < 8) (hz : ¬ f k = 0) : m_Mi l yX6_invert wsX6_invert 4 87 D cY [.ref nx, .int (nI k)] [(nx, .inr (6, [.ref fd, .ref tb, .ref pr, .ref ad, .ref rd, .ref wd, .ref h, .int (nI sk)])), (ad, .inr (4, [.ref ab, .int (nI cnt)])), (ab, .inl (cY 0, 8, .inl (m_nf f))), (h, .inr (0, [.ref kp, .int (nI z)])), (kp, .inl (cY 3, 4, .inr (.inr (.inr (.inr (m_k4 s0 s1 s2 s3)))))), (s0, .inr (4, [.ref b0, .int (nI t0)])), (b0, .inl (cY 0, 8, .inl (m_nf g0))), (s1, .inr (4, [.ref b1, .int (nI t1)])), (b1, .inl (cY 0, 8, .inl (m_nf g1))), (s2, .inr (4, [.ref b2, .int (nI t2)])), (b2, .inl (cY 0, 8, .inl (m_nf g2))), (s3, .inr (4, [.ref b3, .int (nI t3)])), (b3, .inl (cY 0, 8, .inl (m_nf g3))), (fd, .inr (2, [.ref fb])), (fb, .inl (cY 0, 256, .inl (m_nf bp)))] (fun (res : Int32) (u : Unit) => res = nI (np (f k) 65534)) (fun (u : Unit) => [(nx, .inr (6, [.ref fd, .ref tb, .ref pr, .ref ad, .ref rd, .ref wd, .ref h, .int (nI sk)])), (ad, .inr (4, [.ref ab, .int (nI cnt)])), (ab, .inl (cY 0, 8, .inl (m_nf (m_up f k (np (f k) 65534))))), (h, .inr (0, [.ref kp, .int (nI (min (z + 1) 4))])), (kp, .inl (cY 3, 4, .inr (.inr (.inr (.inr (m_k4 s0 s1 s2 s3)))))), (s0, .inr (4, [.ref b0, .int (nI cnt)])), (b0, .inl (cY 0, 8, .inl (m_nf f))), (s1, .inr (4, [.ref b1, .int (nI t0)])), (b1, .inl (cY 0, 8, .inl (m_nf g0))), (s2, .inr (4, [.ref b2, .int (nI t1)])), (b2, .inl (cY 0, 8, .inl (m_nf g1))), (s3, .inr (4, [.ref b3, .int (nI t2)])), (b3, .inl (cY 0, 8, .inl (m_nf g2))), (fd, .inr (2, [.ref fb])), (fb, .inl (cY 0, 256, .inl (m_nf bp)))]) := by
  refine m_enterI (cc := cX6_invert) (maxL := 3) (ret := (some .int)) (by decide +kernel) rfl (Nat.le_of_ble_eq_true rfl) ?_
  intro p e s m below meth c A ls C0 hP hD hl
  obtain ⟨hx, hb, hr, hml, hts, hown, hlocks, hK, hA⟩ := id C0
  generalize hQ : MQ below _ _ s 0 0 A = Q
  have hS : va_S A s.heap s.heap [] := va_S.rf
  have hl : lv_has ls 3 [(0, .ref nx), (1, .int (nI k))] := hl
  have hwd0 := hts (.fieldLink RX6 33 "NimberField" "state" "LNimberField$State;") (by decide +kernel)
  have hwd1 := (show ∀ w ∈ u_ws RX6 TX6 8, w ∈ wsX6_invert from by decide +kernel)
  have hwd2 := hts (.fieldLink RX6 12 "NimberField" "field" "LNimberField$Nimbers;") (by decide +kernel)
  have hfk := hf16 k
  refine lv_iload_n hx hb dX6_invert_0 rfl (lv_at hl 1 rfl) ?_
  refine m_callSv (As := [.int (nI k)]) (rest := []) C0 hl hP hD hS (c_X6_requireRegister l D cY k (by first | assumption | omega | exact nm_lt _ _ | exact np_lt _ _ | decide)) (va_cwS 1 hts gX6_invert_X6_requireRegister rfl rfl rfl (by decide +kernel) ⟨Nat.le_of_ble_eq_true rfl, Nat.le_of_ble_eq_true rfl⟩) dX6_invert_1 [] rfl rfl rfl (Nat.le_of_ble_eq_true rfl) (Nat.zero_le _) (Nat.zero_le _) (fun _ => rfl) (fun u H1 locs hw hP hD hS => ?_)
  try dsimp only at hw
  clear hw
  have hP : va_P D vwCl [(nx, .inr (6, [.ref fd, .ref tb, .ref pr, .ref ad, .ref rd, .ref wd, .ref h, .int (nI sk)])), (ad, .inr (4, [.ref ab, .int (nI cnt)])), (ab, .inl (cY 0, 8, .inl (m_nf f))), (h, .inr (0, [.ref kp, .int (nI z)])), (kp, .inl (cY 3, 4, .inr (.inr (.inr (.inr (m_k4 s0 s1 s2 s3)))))), (s0, .inr (4, [.ref b0, .int (nI t0)])), (b0, .inl (cY 0, 8, .inl (m_nf g0))), (s1, .inr (4, [.ref b1, .int (nI t1)])), (b1, .inl (cY 0, 8, .inl (m_nf g1))), (s2, .inr (4, [.ref b2, .int (nI t2)])), (b2, .inl (cY 0, 8, .inl (m_nf g2))), (s3, .inr (4, [.ref b3, .int (nI t3)])), (b3, .inl (cY 0, 8, .inl (m_nf g3))), (fd, .inr (2, [.ref fb])), (fb, .inl (cY 0, 256, .inl (m_nf bp)))] H1 := hP
  have hD : va_D A [(nx, .inr (6, [.ref fd, .ref tb, .ref pr, .ref ad, .ref rd, .ref wd, .ref h, .int (nI sk)])), (ad, .inr (4, [.ref ab, .int (nI cnt)])), (ab, .inl (cY 0, 8, .inl (m_nf f))), (h, .inr (0, [.ref kp, .int (nI z)])), (kp, .inl (cY 3, 4, .inr (.inr (.inr (.inr (m_k4 s0 s1 s2 s3)))))), (s0, .inr (4, [.ref b0, .int (nI t0)])), (b0, .inl (cY 0, 8, .inl (m_nf g0))), (s1, .inr (4, [.ref b1, .int (nI t1)])), (b1, .inl (cY 0, 8, .inl (m_nf g1))), (s2, .inr (4, [.ref b2, .int (nI t2)])), (b2, .inl (cY 0, 8, .inl (m_nf g2))), (s3, .inr (4, [.ref b3, .int (nI t3)])), (b3, .inl (cY 0, 8, .inl (m_nf g3))), (fd, .inr (2, [.ref fb])), (fb, .inl (cY 0, 256, .inl (m_nf bp)))] := hD
  refine lv_aload_n hx hb dX6_invert_4 rfl (lv_at hl 0 rfl) ?_
  refine va_get (D := D) (ci := 6) (v := .ref ad) (C := RX6) (T := TX6) (N := 8) hx hb hts hwd1 hown hK hP 0 rfl rfl 3 (by decide) hwd0 (fun _ h9 => h9) rfl dX6_invert_5 ?_
  refine lv_iload_n hx hb dX6_invert_8 rfl (lv_at hl 1 rfl) ?_
  refine m_callVi (As := [.int (nI k)]) (rest := []) C0 hl hP hD hS (c_X4_nimberIn l D cY ad ab cnt f k (by first | assumption | omega | exact nm_lt _ _ | exact np_lt _ _ | decide)) (cwV 1 hts gX6_invert_X4_nimberIn rfl rfl rfl (by decide +kernel) ⟨Nat.le_of_ble_eq_true rfl, Nat.le_of_ble_eq_true rfl⟩) dX6_invert_9 [1, 2] rfl rfl 1 rfl rfl rfl rfl (Nat.le_of_ble_eq_true rfl) (Nat.zero_le _) (Nat.zero_le _) (fun _ => rfl) (fun r3 u H2 locs hw hP hD hS => ?_)
  try dsimp only at hw
  obtain rfl := hw
  have hP : va_P D vwCl [(nx, .inr (6, [.ref fd, .ref tb, .ref pr, .ref ad, .ref rd, .ref wd, .ref h, .int (nI sk)])), (ad, .inr (4, [.ref ab, .int (nI cnt)])), (ab, .inl (cY 0, 8, .inl (m_nf f))), (h, .inr (0, [.ref kp, .int (nI z)])), (kp, .inl (cY 3, 4, .inr (.inr (.inr (.inr (m_k4 s0 s1 s2 s3)))))), (s0, .inr (4, [.ref b0, .int (nI t0)])), (b0, .inl (cY 0, 8, .inl (m_nf g0))), (s1, .inr (4, [.ref b1, .int (nI t1)])), (b1, .inl (cY 0, 8, .inl (m_nf g1))), (s2, .inr (4, [.ref b2, .int (nI t2)])), (b2, .inl (cY 0, 8, .inl (m_nf g2))), (s3, .inr (4, [.ref b3, .int (nI t3)])), (b3, .inl (cY 0, 8, .inl (m_nf g3))), (fd, .inr (2, [.ref fb])), (fb, .inl (cY 0, 256, .inl (m_nf bp)))] H2 := hP
  have hD : va_D A [(nx, .inr (6, [.ref fd, .ref tb, .ref pr, .ref ad, .ref rd, .ref wd, .ref h, .int (nI sk)])), (ad, .inr (4, [.ref ab, .int (nI cnt)])), (ab, .inl (cY 0, 8, .inl (m_nf f))), (h, .inr (0, [.ref kp, .int (nI z)])), (kp, .inl (cY 3, 4, .inr (.inr (.inr (.inr (m_k4 s0 s1 s2 s3)))))), (s0, .inr (4, [.ref b0, .int (nI t0)])), (b0, .inl (cY 0, 8, .inl (m_nf g0))), (s1, .inr (4, [.ref b1, .int (nI t1)])), (b1, .inl (cY 0, 8, .inl (m_nf g1))), (s2, .inr (4, [.ref b2, .int (nI t2)])), (b2, .inl (cY 0, 8, .inl (m_nf g2))), (s3, .inr (4, [.ref b3, .int (nI t3)])), (b3, .inl (cY 0, 8, .inl (m_nf g3))), (fd, .inr (2, [.ref fb])), (fb, .inl (cY 0, 256, .inl (m_nf bp)))] := hD
  refine lv_istore_n (lv' := [(2, .int (nI (f k))), (0, .ref nx), (1, .int (nI k))]) hx hb dX6_invert_12 rfl hl (by decide) rfl (fun ls hl => ?_)
  refine lv_iload_n hx hb dX6_invert_13 rfl (lv_at hl 0 rfl) ?_
  refine lv_if_ne (tgt := 27) hx hb dX6_invert_14 (by decide) (fun c14 => ?_) (fun c14 => ?_)
  · have c14 : ¬ ((f k) = 0) := fun qq9 => c14 ((nI_eq (a := (f k)) (b := 0) (by first | omega | exact Nat.lt_of_le_of_lt Nat.and_le_right (by decide) | exact Nat.lt_trans (nm_lt _ _) (by decide) | exact Nat.lt_trans (np_lt _ _) (by decide) | exact Nat.lt_trans (p_at_lt htx) (by decide)) (by first | omega | exact Nat.lt_of_le_of_lt Nat.and_le_right (by decide) | exact Nat.lt_trans (nm_lt _ _) (by decide) | exact Nat.lt_trans (np_lt _ _) (by decide) | exact Nat.lt_trans (p_at_lt htx) (by decide))).mpr qq9)
    refine lv_aload_n hx hb dX6_invert_27 rfl (lv_at hl 1 rfl) ?_
    refine lv_iload_n hx hb dX6_invert_28 rfl (lv_at hl 2 rfl) ?_
    refine lv_aload_n hx hb dX6_invert_29 rfl (lv_at hl 1 rfl) ?_
    refine va_get (D := D) (ci := 6) (v := .ref fd) (C := RX6) (T := TX6) (N := 8) hx hb hts hwd1 hown hK hP 0 rfl rfl 0 (by decide) hwd2 (fun _ h9 => h9) rfl dX6_invert_30 ?_
    refine lv_iconst (v := nI 1) hx hb dX6_invert_33 (by decide) ?_
    refine lv_iload_n hx hb dX6_invert_34 rfl (lv_at hl 0 rfl) ?_
    refine m_callVi (As := [.int (nI 1), .int (nI (f k))]) (rest := [.int (nI k), .ref nx]) C0 hl hP hD hS (c_X2_dividedBy l D cY fd fb bp 1 (f k) (by first | assumption | omega | exact nm_lt _ _ | exact np_lt _ _ | decide) (by first | assumption | omega | exact nm_lt _ _ | exact np_lt _ _ | decide) (by first | assumption | omega | exact nm_lt _ _ | exact np_lt _ _ | decide)) (cwV 2 hts gX6_invert_X2_dividedBy rfl rfl rfl (by decide +kernel) ⟨Nat.le_of_ble_eq_true rfl, Nat.le_of_ble_eq_true rfl⟩) dX6_invert_35 [13, 14] rfl rfl 13 rfl rfl rfl rfl (Nat.le_of_ble_eq_true rfl) (Nat.zero_le _) (Nat.zero_le _) (fun _ => rfl) (fun r5 u H4 locs hw hP hD hS => ?_)
    try dsimp only at hw
    obtain rfl := hw
    have hP : va_P D vwCl [(nx, .inr (6, [.ref fd, .ref tb, .ref pr, .ref ad, .ref rd, .ref wd, .ref h, .int (nI sk)])), (ad, .inr (4, [.ref ab, .int (nI cnt)])), (ab, .inl (cY 0, 8, .inl (m_nf f))), (h, .inr (0, [.ref kp, .int (nI z)])), (kp, .inl (cY 3, 4, .inr (.inr (.inr (.inr (m_k4 s0 s1 s2 s3)))))), (s0, .inr (4, [.ref b0, .int (nI t0)])), (b0, .inl (cY 0, 8, .inl (m_nf g0))), (s1, .inr (4, [.ref b1, .int (nI t1)])), (b1, .inl (cY 0, 8, .inl (m_nf g1))), (s2, .inr (4, [.ref b2, .int (nI t2)])), (b2, .inl (cY 0, 8, .inl (m_nf g2))), (s3, .inr (4, [.ref b3, .int (nI t3)])), (b3, .inl (cY 0, 8, .inl (m_nf g3))), (fd, .inr (2, [.ref fb])), (fb, .inl (cY 0, 256, .inl (m_nf bp)))] H4 := hP
    have hD : va_D A [(nx, .inr (6, [.ref fd, .ref tb, .ref pr, .ref ad, .ref rd, .ref wd, .ref h, .int (nI sk)])), (ad, .inr (4, [.ref ab, .int (nI cnt)])), (ab, .inl (cY 0, 8, .inl (m_nf f))), (h, .inr (0, [.ref kp, .int (nI z)])), (kp, .inl (cY 3, 4, .inr (.inr (.inr (.inr (m_k4 s0 s1 s2 s3)))))), (s0, .inr (4, [.ref b0, .int (nI t0)])), (b0, .inl (cY 0, 8, .inl (m_nf g0))), (s1, .inr (4, [.ref b1, .int (nI t1)])), (b1, .inl (cY 0, 8, .inl (m_nf g1))), (s2, .inr (4, [.ref b2, .int (nI t2)])), (b2, .inl (cY 0, 8, .inl (m_nf g2))), (s3, .inr (4, [.ref b3, .int (nI t3)])), (b3, .inl (cY 0, 8, .inl (m_nf g3))), (fd, .inr (2, [.ref fb])), (fb, .inl (cY 0, 256, .inl (m_nf bp)))] := hD
    refine lv_topi (nm_r (show n_div 1 (f k) = nI (np (f k) 65534) from by rw [n_div, if_neg hz, nm_one (np_lt _ _)]) ?_)
    refine m_callVi (As := [.int (nI k), .int (nI (np (f k) 65534))]) (rest := []) C0 hl hP hD hS (c_X6_replace l D cY nx fd tb pr ad rd wd h sk ab cnt f kp z s0 s1 s2 s3 b0 b1 b2 b3 t0 t1 t2 t3 g0 g1 g2 g3 k (np (f k) 65534) (by first | assumption | omega | exact nm_lt _ _ | exact np_lt _ _ | decide) (by first | assumption | omega | exact nm_lt _ _ | exact np_lt _ _ | decide) (by first | assumption | omega | exact nm_lt _ _ | exact np_lt _ _ | decide) (by first | assumption | omega | exact nm_lt _ _ | exact np_lt _ _ | decide) (by first | assumption | omega | exact nm_lt _ _ | exact np_lt _ _ | decide) (by first | assumption | omega | exact nm_lt _ _ | exact np_lt _ _ | decide) (by first | assumption | omega | exact nm_lt _ _ | exact np_lt _ _ | decide) (by first | assumption | omega | exact nm_lt _ _ | exact np_lt _ _ | decide)) (cwV 2 hts gX6_invert_X6_replace rfl rfl rfl (by decide +kernel) ⟨Nat.le_of_ble_eq_true rfl, Nat.le_of_ble_eq_true rfl⟩) dX6_invert_38 [0, 1, 2, 3, 4, 5, 6, 7, 8, 9, 10, 11, 12] rfl rfl 0 rfl rfl rfl rfl (Nat.le_of_ble_eq_true rfl) (Nat.zero_le _) (Nat.zero_le _) (fun _ => rfl) (fun r7 u H6 locs hw hP hD hS => ?_)
    try dsimp only at hw
    obtain rfl := hw
    have hP : va_P D vwCl [(nx, .inr (6, [.ref fd, .ref tb, .ref pr, .ref ad, .ref rd, .ref wd, .ref h, .int (nI sk)])), (ad, .inr (4, [.ref ab, .int (nI cnt)])), (ab, .inl (cY 0, 8, .inl (m_nf (m_up f k (np (f k) 65534))))), (h, .inr (0, [.ref kp, .int (nI (min (z + 1) 4))])), (kp, .inl (cY 3, 4, .inr (.inr (.inr (.inr (m_k4 s0 s1 s2 s3)))))), (s0, .inr (4, [.ref b0, .int (nI cnt)])), (b0, .inl (cY 0, 8, .inl (m_nf f))), (s1, .inr (4, [.ref b1, .int (nI t0)])), (b1, .inl (cY 0, 8, .inl (m_nf g0))), (s2, .inr (4, [.ref b2, .int (nI t1)])), (b2, .inl (cY 0, 8, .inl (m_nf g1))), (s3, .inr (4, [.ref b3, .int (nI t2)])), (b3, .inl (cY 0, 8, .inl (m_nf g2))), (fd, .inr (2, [.ref fb])), (fb, .inl (cY 0, 256, .inl (m_nf bp)))] H6 := hP
    have hD : va_D A [(nx, .inr (6, [.ref fd, .ref tb, .ref pr, .ref ad, .ref rd, .ref wd, .ref h, .int (nI sk)])), (ad, .inr (4, [.ref ab, .int (nI cnt)])), (ab, .inl (cY 0, 8, .inl (m_nf (m_up f k (np (f k) 65534))))), (h, .inr (0, [.ref kp, .int (nI (min (z + 1) 4))])), (kp, .inl (cY 3, 4, .inr (.inr (.inr (.inr (m_k4 s0 s1 s2 s3)))))), (s0, .inr (4, [.ref b0, .int (nI cnt)])), (b0, .inl (cY 0, 8, .inl (m_nf f))), (s1, .inr (4, [.ref b1, .int (nI t0)])), (b1, .inl (cY 0, 8, .inl (m_nf g0))), (s2, .inr (4, [.ref b2, .int (nI t1)])), (b2, .inl (cY 0, 8, .inl (m_nf g1))), (s3, .inr (4, [.ref b3, .int (nI t2)])), (b3, .inl (cY 0, 8, .inl (m_nf g2))), (fd, .inr (2, [.ref fb])), (fb, .inl (cY 0, 256, .inl (m_nf bp)))] := hD
    subst hQ
    exact m_iret C0 hS dX6_invert_41 (u := ()) hP (by first | trivial | rfl | omega)
  · have c14 : (f k) = 0 := (nI_eq (a := (f k)) (b := 0) (by first | omega | exact Nat.lt_of_le_of_lt Nat.and_le_right (by decide) | exact Nat.lt_trans (nm_lt _ _) (by decide) | exact Nat.lt_trans (np_lt _ _) (by decide) | exact Nat.lt_trans (p_at_lt htx) (by decide)) (by first | omega | exact Nat.lt_of_le_of_lt Nat.and_le_right (by decide) | exact Nat.lt_trans (nm_lt _ _) (by decide) | exact Nat.lt_trans (np_lt _ _) (by decide) | exact Nat.lt_trans (p_at_lt htx) (by decide))).mp c14
    exfalso; omega
set_option maxHeartbeats 4000000 in
set_option maxRecDepth 100000 in
theorem c_X6_invert_x1 (l : Launch) (hfl : l.stackTraces = false) (D : va_G) (cY : Nat → ClassId) (eS : Nat → Nat) (eO : Nat) (nx fd tb pr ad rd wd h sk : Nat) (x : Int32) (hn : ¬ m_isR x) : m_Mx l yX6_invert wsX6_invert 7 116 D cY eS eO [.ref nx, .int x] [(nx, .inr (6, [.ref fd, .ref tb, .ref pr, .ref ad, .ref rd, .ref wd, .ref h, .int (nI sk)]))] e_IO (fun (u : Unit) => [(nx, .inr (6, [.ref fd, .ref tb, .ref pr, .ref ad, .ref rd, .ref wd, .ref h, .int (nI sk)]))]) := by
  refine m_enterX (cc := cX6_invert) (maxL := 3) (ret := (some .int)) (by decide +kernel) rfl (Nat.le_of_ble_eq_true rfl) ?_
  intro p e s m below meth c A ls C0 hnt hE hP hD hl
  obtain ⟨hx, hb, hr, hml, hts, hown, hlocks, hK, hA⟩ := id C0
  obtain ⟨hz1, hz2, ⟨hcIO, hcIA, hcIS⟩, hdcl, ⟨hs0, hs1, hs2, hs3, hs4, hs5, hs6, hs7⟩, ⟨hn1, hn2⟩, ⟨hl0, hl1, hl2, hl3, hl4⟩, hzO, htO⟩ := id hE
  generalize hQ : vx_MQ below _ _ _ s 1 6 A = Q
  have hS : va_S A s.heap s.heap [] := va_S.rf
  have hl : lv_has ls 3 [(0, .ref nx), (1, .int x)] := hl
  refine lv_iload_n hx hb dX6_invert_0 rfl (lv_at hl 1 rfl) ?_
  subst hQ
  exact m_callSx (As := [.int x]) (rest := []) C0 hnt hE hl hP hD hS (c_X6_requireRegister_x l hfl D cY eS eO x (by first | assumption | omega | exact nm_lt _ _ | exact np_lt _ _ | decide)) (va_cwS 1 hts gX6_invert_X6_requireRegister rfl rfl rfl (by decide +kernel) ⟨Nat.le_of_ble_eq_true rfl, Nat.le_of_ble_eq_true rfl⟩) dX6_invert_1 [] rfl rfl rfl (Nat.le_of_ble_eq_true rfl) (Nat.le_of_ble_eq_true rfl) (Nat.le_of_ble_eq_true rfl) (fun _ => rfl) (fun _ => ⟨(), rfl⟩)
set_option maxHeartbeats 4000000 in
set_option maxRecDepth 100000 in
theorem c_X6_invert_x2 (l : Launch) (hfl : l.stackTraces = false) (D : va_G) (cY : Nat → ClassId) (eS : Nat → Nat) (eO : Nat) (nx fd tb pr ad rd wd h sk : Nat) (ab cnt : Nat) (f : Nat → Nat) (k : Nat) (hf8 : m_z 8 f) (hf16 : ∀ j, f j < 65536) (hk : k < 8) (hz : f k = 0) : m_Mx l yX6_invert wsX6_invert 6 96 D cY eS eO [.ref nx, .int (nI k)] [(nx, .inr (6, [.ref fd, .ref tb, .ref pr, .ref ad, .ref rd, .ref wd, .ref h, .int (nI sk)])), (ad, .inr (4, [.ref ab, .int (nI cnt)])), (ab, .inl (cY 0, 8, .inl (m_nf f)))] e_IS (fun (u : Unit) => [(nx, .inr (6, [.ref fd, .ref tb, .ref pr, .ref ad, .ref rd, .ref wd, .ref h, .int (nI sk)])), (ad, .inr (4, [.ref ab, .int (nI cnt)])), (ab, .inl (cY 0, 8, .inl (m_nf f)))]) := by
  refine m_enterX (cc := cX6_invert) (maxL := 3) (ret := (some .int)) (by decide +kernel) rfl (Nat.le_of_ble_eq_true rfl) ?_
  intro p e s m below meth c A ls C0 hnt hE hP hD hl
  obtain ⟨hx, hb, hr, hml, hts, hown, hlocks, hK, hA⟩ := id C0
  obtain ⟨hz1, hz2, ⟨hcIO, hcIA, hcIS⟩, hdcl, ⟨hs0, hs1, hs2, hs3, hs4, hs5, hs6, hs7⟩, ⟨hn1, hn2⟩, ⟨hl0, hl1, hl2, hl3, hl4⟩, hzO, htO⟩ := id hE
  generalize hQ : vx_MQ below _ _ _ s 1 6 A = Q
  have hS : va_S A s.heap s.heap [] := va_S.rf
  have hl : lv_has ls 3 [(0, .ref nx), (1, .int (nI k))] := hl
  have hwd0 := hts (.fieldLink RX6 33 "NimberField" "state" "LNimberField$State;") (by decide +kernel)
  have hwd1 := (show ∀ w ∈ u_ws RX6 TX6 8, w ∈ wsX6_invert from by decide +kernel)
  have hwd2 := hts (.classLink RX6 74 e_IS) (by decide +kernel)
  have hwd3 := hts (.initialized e_IS) (by decide +kernel)
  have hfk := hf16 k
  refine lv_iload_n hx hb dX6_invert_0 rfl (lv_at hl 1 rfl) ?_
  refine m_callSv (As := [.int (nI k)]) (rest := []) C0 hl hP hD hS (c_X6_requireRegister l D cY k (by first | assumption | omega | exact nm_lt _ _ | exact np_lt _ _ | decide)) (va_cwS 1 hts gX6_invert_X6_requireRegister rfl rfl rfl (by decide +kernel) ⟨Nat.le_of_ble_eq_true rfl, Nat.le_of_ble_eq_true rfl⟩) dX6_invert_1 [] rfl rfl rfl (Nat.le_of_ble_eq_true rfl) (Nat.zero_le _) (Nat.zero_le _) (fun _ => rfl) (fun u H1 locs hw hP hD hS => ?_)
  try dsimp only at hw
  clear hw
  have hP : va_P D vwCl [(nx, .inr (6, [.ref fd, .ref tb, .ref pr, .ref ad, .ref rd, .ref wd, .ref h, .int (nI sk)])), (ad, .inr (4, [.ref ab, .int (nI cnt)])), (ab, .inl (cY 0, 8, .inl (m_nf f)))] H1 := hP
  have hD : va_D A [(nx, .inr (6, [.ref fd, .ref tb, .ref pr, .ref ad, .ref rd, .ref wd, .ref h, .int (nI sk)])), (ad, .inr (4, [.ref ab, .int (nI cnt)])), (ab, .inl (cY 0, 8, .inl (m_nf f)))] := hD
  refine lv_aload_n hx hb dX6_invert_4 rfl (lv_at hl 0 rfl) ?_
  refine va_get (D := D) (ci := 6) (v := .ref ad) (C := RX6) (T := TX6) (N := 8) hx hb hts hwd1 hown hK hP 0 rfl rfl 3 (by decide) hwd0 (fun _ h9 => h9) rfl dX6_invert_5 ?_
  refine lv_iload_n hx hb dX6_invert_8 rfl (lv_at hl 1 rfl) ?_
  refine m_callVi (As := [.int (nI k)]) (rest := []) C0 hl hP hD hS (c_X4_nimberIn l D cY ad ab cnt f k (by first | assumption | omega | exact nm_lt _ _ | exact np_lt _ _ | decide)) (cwV 1 hts gX6_invert_X4_nimberIn rfl rfl rfl (by decide +kernel) ⟨Nat.le_of_ble_eq_true rfl, Nat.le_of_ble_eq_true rfl⟩) dX6_invert_9 [1, 2] rfl rfl 1 rfl rfl rfl rfl (Nat.le_of_ble_eq_true rfl) (Nat.zero_le _) (Nat.zero_le _) (fun _ => rfl) (fun r3 u H2 locs hw hP hD hS => ?_)
  try dsimp only at hw
  obtain rfl := hw
  have hP : va_P D vwCl [(nx, .inr (6, [.ref fd, .ref tb, .ref pr, .ref ad, .ref rd, .ref wd, .ref h, .int (nI sk)])), (ad, .inr (4, [.ref ab, .int (nI cnt)])), (ab, .inl (cY 0, 8, .inl (m_nf f)))] H2 := hP
  have hD : va_D A [(nx, .inr (6, [.ref fd, .ref tb, .ref pr, .ref ad, .ref rd, .ref wd, .ref h, .int (nI sk)])), (ad, .inr (4, [.ref ab, .int (nI cnt)])), (ab, .inl (cY 0, 8, .inl (m_nf f)))] := hD
  refine lv_istore_n (lv' := [(2, .int (nI (f k))), (0, .ref nx), (1, .int (nI k))]) hx hb dX6_invert_12 rfl hl (by decide) rfl (fun ls hl => ?_)
  refine lv_iload_n hx hb dX6_invert_13 rfl (lv_at hl 0 rfl) ?_
  refine lv_if_ne (tgt := 27) hx hb dX6_invert_14 (by decide) (fun c14 => ?_) (fun c14 => ?_)
  · have c14 : ¬ ((f k) = 0) := fun qq9 => c14 ((nI_eq (a := (f k)) (b := 0) (by first | omega | exact Nat.lt_of_le_of_lt Nat.and_le_right (by decide) | exact Nat.lt_trans (nm_lt _ _) (by decide) | exact Nat.lt_trans (np_lt _ _) (by decide) | exact Nat.lt_trans (p_at_lt htx) (by decide)) (by first | omega | exact Nat.lt_of_le_of_lt Nat.and_le_right (by decide) | exact Nat.lt_trans (nm_lt _ _) (by decide) | exact Nat.lt_trans (np_lt _ _) (by decide) | exact Nat.lt_trans (p_at_lt htx) (by decide))).mpr qq9)
    exfalso; omega
  · have c14 : (f k) = 0 := (nI_eq (a := (f k)) (b := 0) (by first | omega | exact Nat.lt_of_le_of_lt Nat.and_le_right (by decide) | exact Nat.lt_trans (nm_lt _ _) (by decide) | exact Nat.lt_trans (np_lt _ _) (by decide) | exact Nat.lt_trans (p_at_lt htx) (by decide)) (by first | omega | exact Nat.lt_of_le_of_lt Nat.and_le_right (by decide) | exact Nat.lt_trans (nm_lt _ _) (by decide) | exact Nat.lt_trans (np_lt _ _) (by decide) | exact Nat.lt_trans (p_at_lt htx) (by decide))).mp c14
    subst hQ
    exact m_throw (k := 2) hfl C0 hnt hE hl hP hS (by decide +kernel) hwd2 hwd3 hs2 hcIS (by decide +kernel) (by decide +kernel) (by decide +kernel) dX6_invert_17 dX6_invert_20 dX6_invert_21 dX6_invert_23 dX6_invert_26 (Nat.le_of_ble_eq_true rfl) (Nat.le_of_ble_eq_true rfl) (Nat.le_of_ble_eq_true rfl) (Nat.le_of_ble_eq_true rfl) () rfl
set_option maxHeartbeats 4000000 in
set_option maxRecDepth 100000 in
theorem c_X6_takeRoot (l : Launch) (D : va_G) (cY : Nat → ClassId) (nx fd tb pr ad rd wd h sk : Nat) (ab cnt : Nat) (f : Nat → Nat) (kp z s0 s1 s2 s3 b0 b1 b2 b3 t0 t1 t2 t3 : Nat) (g0 g1 g2 g3 : Nat → Nat) (fb : Nat) (bp : Nat → Nat) (k : Nat) (hf8 : m_z 8 f) (hf16 : ∀ j, f j < 65536) (hg0 : m_z 8 g0) (hg1 : m_z 8 g1) (hg2 : m_z 8 g2) (hg3 : m_z 8 g3) (hz4 : z ≤ 4) (hB : n_bp bp) (hk : k < 8) : m_Mi l yX6_takeRoot wsX6_takeRoot 4 87 D cY [.ref nx, .int (nI k)] [(nx, .inr (6, [.ref fd, .ref tb, .ref pr, .ref ad, .ref rd, .ref wd, .ref h, .int (nI sk)])), (ad, .inr (4, [.ref ab, .int (nI cnt)])), (ab, .inl (cY 0, 8, .inl (m_nf f))), (h, .inr (0, [.ref kp, .int (nI z)])), (kp, .inl (cY 3, 4, .inr (.inr (.inr (.inr (m_k4 s0 s1 s2 s3)))))), (s0, .inr (4, [.ref b0, .int (nI t0)])), (b0, .inl (cY 0, 8, .inl (m_nf g0))), (s1, .inr (4, [.ref b1, .int (nI t1)])), (b1, .inl (cY 0, 8, .inl (m_nf g1))), (s2, .inr (4, [.ref b2, .int (nI t2)])), (b2, .inl (cY 0, 8, .inl (m_nf g2))), (s3, .inr (4, [.ref b3, .int (nI t3)])), (b3, .inl (cY 0, 8, .inl (m_nf g3))), (fd, .inr (2, [.ref fb])), (fb, .inl (cY 0, 256, .inl (m_nf bp)))] (fun (res : Int32) (u : Unit) => res = nI (np (f k) 32768)) (fun (u : Unit) => [(nx, .inr (6, [.ref fd, .ref tb, .ref pr, .ref ad, .ref rd, .ref wd, .ref h, .int (nI sk)])), (ad, .inr (4, [.ref ab, .int (nI cnt)])), (ab, .inl (cY 0, 8, .inl (m_nf (m_up f k (np (f k) 32768))))), (h, .inr (0, [.ref kp, .int (nI (min (z + 1) 4))])), (kp, .inl (cY 3, 4, .inr (.inr (.inr (.inr (m_k4 s0 s1 s2 s3)))))), (s0, .inr (4, [.ref b0, .int (nI cnt)])), (b0, .inl (cY 0, 8, .inl (m_nf f))), (s1, .inr (4, [.ref b1, .int (nI t0)])), (b1, .inl (cY 0, 8, .inl (m_nf g0))), (s2, .inr (4, [.ref b2, .int (nI t1)])), (b2, .inl (cY 0, 8, .inl (m_nf g1))), (s3, .inr (4, [.ref b3, .int (nI t2)])), (b3, .inl (cY 0, 8, .inl (m_nf g2))), (fd, .inr (2, [.ref fb])), (fb, .inl (cY 0, 256, .inl (m_nf bp)))]) := by
  refine m_enterI (cc := cX6_takeRoot) (maxL := 2) (ret := (some .int)) (by decide +kernel) rfl (Nat.le_of_ble_eq_true rfl) ?_
  intro p e s m below meth c A ls C0 hP hD hl
  obtain ⟨hx, hb, hr, hml, hts, hown, hlocks, hK, hA⟩ := id C0
  generalize hQ : MQ below _ _ s 0 0 A = Q
  have hS : va_S A s.heap s.heap [] := va_S.rf
  have hl : lv_has ls 2 [(0, .ref nx), (1, .int (nI k))] := hl
  have hwd0 := hts (.fieldLink RX6 12 "NimberField" "field" "LNimberField$Nimbers;") (by decide +kernel)
  have hwd1 := (show ∀ w ∈ u_ws RX6 TX6 8, w ∈ wsX6_takeRoot from by decide +kernel)
  have hwd2 := hts (.fieldLink RX6 33 "NimberField" "state" "LNimberField$State;") (by decide +kernel)
  refine lv_iload_n hx hb dX6_takeRoot_0 rfl (lv_at hl 1 rfl) ?_
  refine m_callSv (As := [.int (nI k)]) (rest := []) C0 hl hP hD hS (c_X6_requireRegister l D cY k (by first | assumption | omega | exact nm_lt _ _ | exact np_lt _ _ | decide)) (va_cwS 1 hts gX6_takeRoot_X6_requireRegister rfl rfl rfl (by decide +kernel) ⟨Nat.le_of_ble_eq_true rfl, Nat.le_of_ble_eq_true rfl⟩) dX6_takeRoot_1 [] rfl rfl rfl (Nat.le_of_ble_eq_true rfl) (Nat.zero_le _) (Nat.zero_le _) (fun _ => rfl) (fun u H1 locs hw hP hD hS => ?_)
  try dsimp only at hw
  clear hw
  have hP : va_P D vwCl [(nx, .inr (6, [.ref fd, .ref tb, .ref pr, .ref ad, .ref rd, .ref wd, .ref h, .int (nI sk)])), (ad, .inr (4, [.ref ab, .int (nI cnt)])), (ab, .inl (cY 0, 8, .inl (m_nf f))), (h, .inr (0, [.ref kp, .int (nI z)])), (kp, .inl (cY 3, 4, .inr (.inr (.inr (.inr (m_k4 s0 s1 s2 s3)))))), (s0, .inr (4, [.ref b0, .int (nI t0)])), (b0, .inl (cY 0, 8, .inl (m_nf g0))), (s1, .inr (4, [.ref b1, .int (nI t1)])), (b1, .inl (cY 0, 8, .inl (m_nf g1))), (s2, .inr (4, [.ref b2, .int (nI t2)])), (b2, .inl (cY 0, 8, .inl (m_nf g2))), (s3, .inr (4, [.ref b3, .int (nI t3)])), (b3, .inl (cY 0, 8, .inl (m_nf g3))), (fd, .inr (2, [.ref fb])), (fb, .inl (cY 0, 256, .inl (m_nf bp)))] H1 := hP
  have hD : va_D A [(nx, .inr (6, [.ref fd, .ref tb, .ref pr, .ref ad, .ref rd, .ref wd, .ref h, .int (nI sk)])), (ad, .inr (4, [.ref ab, .int (nI cnt)])), (ab, .inl (cY 0, 8, .inl (m_nf f))), (h, .inr (0, [.ref kp, .int (nI z)])), (kp, .inl (cY 3, 4, .inr (.inr (.inr (.inr (m_k4 s0 s1 s2 s3)))))), (s0, .inr (4, [.ref b0, .int (nI t0)])), (b0, .inl (cY 0, 8, .inl (m_nf g0))), (s1, .inr (4, [.ref b1, .int (nI t1)])), (b1, .inl (cY 0, 8, .inl (m_nf g1))), (s2, .inr (4, [.ref b2, .int (nI t2)])), (b2, .inl (cY 0, 8, .inl (m_nf g2))), (s3, .inr (4, [.ref b3, .int (nI t3)])), (b3, .inl (cY 0, 8, .inl (m_nf g3))), (fd, .inr (2, [.ref fb])), (fb, .inl (cY 0, 256, .inl (m_nf bp)))] := hD
  refine lv_aload_n hx hb dX6_takeRoot_4 rfl (lv_at hl 0 rfl) ?_
  refine lv_iload_n hx hb dX6_takeRoot_5 rfl (lv_at hl 1 rfl) ?_
  refine lv_aload_n hx hb dX6_takeRoot_6 rfl (lv_at hl 0 rfl) ?_
  refine va_get (D := D) (ci := 6) (v := .ref fd) (C := RX6) (T := TX6) (N := 8) hx hb hts hwd1 hown hK hP 0 rfl rfl 0 (by decide) hwd0 (fun _ h9 => h9) rfl dX6_takeRoot_7 ?_
  refine lv_aload_n hx hb dX6_takeRoot_10 rfl (lv_at hl 0 rfl) ?_
  refine va_get (D := D) (ci := 6) (v := .ref ad) (C := RX6) (T := TX6) (N := 8) hx hb hts hwd1 hown hK hP 0 rfl rfl 3 (by decide) hwd2 (fun _ h9 => h9) rfl dX6_takeRoot_11 ?_
  refine lv_iload_n hx hb dX6_takeRoot_14 rfl (lv_at hl 1 rfl) ?_
  refine m_callVi (As := [.int (nI k)]) (rest := [.ref fd, .int (nI k), .ref nx]) C0 hl hP hD hS (c_X4_nimberIn l D cY ad ab cnt f k (by first | assumption | omega | exact nm_lt _ _ | exact np_lt _ _ | decide)) (cwV 1 hts gX6_takeRoot_X4_nimberIn rfl rfl rfl (by decide +kernel) ⟨Nat.le_of_ble_eq_true rfl, Nat.le_of_ble_eq_true rfl⟩) dX6_takeRoot_15 [1, 2] rfl rfl 1 rfl rfl rfl rfl (Nat.le_of_ble_eq_true rfl) (Nat.zero_le _) (Nat.zero_le _) (fun _ => rfl) (fun r3 u H2 locs hw hP hD hS => ?_)
  try dsimp only at hw
  obtain rfl := hw
  have hP : va_P D vwCl [(nx, .inr (6, [.ref fd, .ref tb, .ref pr, .ref ad, .ref rd, .ref wd, .ref h, .int (nI sk)])), (ad, .inr (4, [.ref ab, .int (nI cnt)])), (ab, .inl (cY 0, 8, .inl (m_nf f))), (h, .inr (0, [.ref kp, .int (nI z)])), (kp, .inl (cY 3, 4, .inr (.inr (.inr (.inr (m_k4 s0 s1 s2 s3)))))), (s0, .inr (4, [.ref b0, .int (nI t0)])), (b0, .inl (cY 0, 8, .inl (m_nf g0))), (s1, .inr (4, [.ref b1, .int (nI t1)])), (b1, .inl (cY 0, 8, .inl (m_nf g1))), (s2, .inr (4, [.ref b2, .int (nI t2)])), (b2, .inl (cY 0, 8, .inl (m_nf g2))), (s3, .inr (4, [.ref b3, .int (nI t3)])), (b3, .inl (cY 0, 8, .inl (m_nf g3))), (fd, .inr (2, [.ref fb])), (fb, .inl (cY 0, 256, .inl (m_nf bp)))] H2 := hP
  have hD : va_D A [(nx, .inr (6, [.ref fd, .ref tb, .ref pr, .ref ad, .ref rd, .ref wd, .ref h, .int (nI sk)])), (ad, .inr (4, [.ref ab, .int (nI cnt)])), (ab, .inl (cY 0, 8, .inl (m_nf f))), (h, .inr (0, [.ref kp, .int (nI z)])), (kp, .inl (cY 3, 4, .inr (.inr (.inr (.inr (m_k4 s0 s1 s2 s3)))))), (s0, .inr (4, [.ref b0, .int (nI t0)])), (b0, .inl (cY 0, 8, .inl (m_nf g0))), (s1, .inr (4, [.ref b1, .int (nI t1)])), (b1, .inl (cY 0, 8, .inl (m_nf g1))), (s2, .inr (4, [.ref b2, .int (nI t2)])), (b2, .inl (cY 0, 8, .inl (m_nf g2))), (s3, .inr (4, [.ref b3, .int (nI t3)])), (b3, .inl (cY 0, 8, .inl (m_nf g3))), (fd, .inr (2, [.ref fb])), (fb, .inl (cY 0, 256, .inl (m_nf bp)))] := hD
  refine m_callVi (As := [.int (nI (f k))]) (rest := [.int (nI k), .ref nx]) C0 hl hP hD hS (c_X2_root l D cY fd fb bp (f k) (hf16 k) (by first | assumption | omega | exact nm_lt _ _ | exact np_lt _ _ | decide)) (cwV 1 hts gX6_takeRoot_X2_root rfl rfl rfl (by decide +kernel) ⟨Nat.le_of_ble_eq_true rfl, Nat.le_of_ble_eq_true rfl⟩) dX6_takeRoot_18 [13, 14] rfl rfl 13 rfl rfl rfl rfl (Nat.le_of_ble_eq_true rfl) (Nat.zero_le _) (Nat.zero_le _) (fun _ => rfl) (fun r5 u H4 locs hw hP hD hS => ?_)
  try dsimp only at hw
  obtain rfl := hw
  have hP : va_P D vwCl [(nx, .inr (6, [.ref fd, .ref tb, .ref pr, .ref ad, .ref rd, .ref wd, .ref h, .int (nI sk)])), (ad, .inr (4, [.ref ab, .int (nI cnt)])), (ab, .inl (cY 0, 8, .inl (m_nf f))), (h, .inr (0, [.ref kp, .int (nI z)])), (kp, .inl (cY 3, 4, .inr (.inr (.inr (.inr (m_k4 s0 s1 s2 s3)))))), (s0, .inr (4, [.ref b0, .int (nI t0)])), (b0, .inl (cY 0, 8, .inl (m_nf g0))), (s1, .inr (4, [.ref b1, .int (nI t1)])), (b1, .inl (cY 0, 8, .inl (m_nf g1))), (s2, .inr (4, [.ref b2, .int (nI t2)])), (b2, .inl (cY 0, 8, .inl (m_nf g2))), (s3, .inr (4, [.ref b3, .int (nI t3)])), (b3, .inl (cY 0, 8, .inl (m_nf g3))), (fd, .inr (2, [.ref fb])), (fb, .inl (cY 0, 256, .inl (m_nf bp)))] H4 := hP
  have hD : va_D A [(nx, .inr (6, [.ref fd, .ref tb, .ref pr, .ref ad, .ref rd, .ref wd, .ref h, .int (nI sk)])), (ad, .inr (4, [.ref ab, .int (nI cnt)])), (ab, .inl (cY 0, 8, .inl (m_nf f))), (h, .inr (0, [.ref kp, .int (nI z)])), (kp, .inl (cY 3, 4, .inr (.inr (.inr (.inr (m_k4 s0 s1 s2 s3)))))), (s0, .inr (4, [.ref b0, .int (nI t0)])), (b0, .inl (cY 0, 8, .inl (m_nf g0))), (s1, .inr (4, [.ref b1, .int (nI t1)])), (b1, .inl (cY 0, 8, .inl (m_nf g1))), (s2, .inr (4, [.ref b2, .int (nI t2)])), (b2, .inl (cY 0, 8, .inl (m_nf g2))), (s3, .inr (4, [.ref b3, .int (nI t3)])), (b3, .inl (cY 0, 8, .inl (m_nf g3))), (fd, .inr (2, [.ref fb])), (fb, .inl (cY 0, 256, .inl (m_nf bp)))] := hD
  refine m_callVi (As := [.int (nI k), .int (nI (np (f k) 32768))]) (rest := []) C0 hl hP hD hS (c_X6_replace l D cY nx fd tb pr ad rd wd h sk ab cnt f kp z s0 s1 s2 s3 b0 b1 b2 b3 t0 t1 t2 t3 g0 g1 g2 g3 k (np (f k) 32768) (by first | assumption | omega | exact nm_lt _ _ | exact np_lt _ _ | decide) (by first | assumption | omega | exact nm_lt _ _ | exact np_lt _ _ | decide) (by first | assumption | omega | exact nm_lt _ _ | exact np_lt _ _ | decide) (by first | assumption | omega | exact nm_lt _ _ | exact np_lt _ _ | decide) (by first | assumption | omega | exact nm_lt _ _ | exact np_lt _ _ | decide) (by first | assumption | omega | exact nm_lt _ _ | exact np_lt _ _ | decide) (by first | assumption | omega | exact nm_lt _ _ | exact np_lt _ _ | decide) (by first | assumption | omega | exact nm_lt _ _ | exact np_lt _ _ | decide)) (cwV 2 hts gX6_takeRoot_X6_replace rfl rfl rfl (by decide +kernel) ⟨Nat.le_of_ble_eq_true rfl, Nat.le_of_ble_eq_true rfl⟩) dX6_takeRoot_21 [0, 1, 2, 3, 4, 5, 6, 7, 8, 9, 10, 11, 12] rfl rfl 0 rfl rfl rfl rfl (Nat.le_of_ble_eq_true rfl) (Nat.zero_le _) (Nat.zero_le _) (fun _ => rfl) (fun r7 u H6 locs hw hP hD hS => ?_)
  try dsimp only at hw
  obtain rfl := hw
  have hP : va_P D vwCl [(nx, .inr (6, [.ref fd, .ref tb, .ref pr, .ref ad, .ref rd, .ref wd, .ref h, .int (nI sk)])), (ad, .inr (4, [.ref ab, .int (nI cnt)])), (ab, .inl (cY 0, 8, .inl (m_nf (m_up f k (np (f k) 32768))))), (h, .inr (0, [.ref kp, .int (nI (min (z + 1) 4))])), (kp, .inl (cY 3, 4, .inr (.inr (.inr (.inr (m_k4 s0 s1 s2 s3)))))), (s0, .inr (4, [.ref b0, .int (nI cnt)])), (b0, .inl (cY 0, 8, .inl (m_nf f))), (s1, .inr (4, [.ref b1, .int (nI t0)])), (b1, .inl (cY 0, 8, .inl (m_nf g0))), (s2, .inr (4, [.ref b2, .int (nI t1)])), (b2, .inl (cY 0, 8, .inl (m_nf g1))), (s3, .inr (4, [.ref b3, .int (nI t2)])), (b3, .inl (cY 0, 8, .inl (m_nf g2))), (fd, .inr (2, [.ref fb])), (fb, .inl (cY 0, 256, .inl (m_nf bp)))] H6 := hP
  have hD : va_D A [(nx, .inr (6, [.ref fd, .ref tb, .ref pr, .ref ad, .ref rd, .ref wd, .ref h, .int (nI sk)])), (ad, .inr (4, [.ref ab, .int (nI cnt)])), (ab, .inl (cY 0, 8, .inl (m_nf (m_up f k (np (f k) 32768))))), (h, .inr (0, [.ref kp, .int (nI (min (z + 1) 4))])), (kp, .inl (cY 3, 4, .inr (.inr (.inr (.inr (m_k4 s0 s1 s2 s3)))))), (s0, .inr (4, [.ref b0, .int (nI cnt)])), (b0, .inl (cY 0, 8, .inl (m_nf f))), (s1, .inr (4, [.ref b1, .int (nI t0)])), (b1, .inl (cY 0, 8, .inl (m_nf g0))), (s2, .inr (4, [.ref b2, .int (nI t1)])), (b2, .inl (cY 0, 8, .inl (m_nf g1))), (s3, .inr (4, [.ref b3, .int (nI t2)])), (b3, .inl (cY 0, 8, .inl (m_nf g2))), (fd, .inr (2, [.ref fb])), (fb, .inl (cY 0, 256, .inl (m_nf bp)))] := hD
  subst hQ
  exact m_iret C0 hS dX6_takeRoot_24 (u := ()) hP (by first | trivial | rfl | omega)
set_option maxHeartbeats 4000000 in
set_option maxRecDepth 100000 in
theorem c_X6_takeRoot_x1 (l : Launch) (hfl : l.stackTraces = false) (D : va_G) (cY : Nat → ClassId) (eS : Nat → Nat) (eO : Nat) (nx fd tb pr ad rd wd h sk : Nat) (x : Int32) (hn : ¬ m_isR x) : m_Mx l yX6_takeRoot wsX6_takeRoot 7 116 D cY eS eO [.ref nx, .int x] [(nx, .inr (6, [.ref fd, .ref tb, .ref pr, .ref ad, .ref rd, .ref wd, .ref h, .int (nI sk)]))] e_IO (fun (u : Unit) => [(nx, .inr (6, [.ref fd, .ref tb, .ref pr, .ref ad, .ref rd, .ref wd, .ref h, .int (nI sk)]))]) := by
  refine m_enterX (cc := cX6_takeRoot) (maxL := 2) (ret := (some .int)) (by decide +kernel) rfl (Nat.le_of_ble_eq_true rfl) ?_
  intro p e s m below meth c A ls C0 hnt hE hP hD hl
  obtain ⟨hx, hb, hr, hml, hts, hown, hlocks, hK, hA⟩ := id C0
  obtain ⟨hz1, hz2, ⟨hcIO, hcIA, hcIS⟩, hdcl, ⟨hs0, hs1, hs2, hs3, hs4, hs5, hs6, hs7⟩, ⟨hn1, hn2⟩, ⟨hl0, hl1, hl2, hl3, hl4⟩, hzO, htO⟩ := id hE
  generalize hQ : vx_MQ below _ _ _ s 1 6 A = Q
  have hS : va_S A s.heap s.heap [] := va_S.rf
  have hl : lv_has ls 2 [(0, .ref nx), (1, .int x)] := hl
  refine lv_iload_n hx hb dX6_takeRoot_0 rfl (lv_at hl 1 rfl) ?_
  subst hQ
  exact m_callSx (As := [.int x]) (rest := []) C0 hnt hE hl hP hD hS (c_X6_requireRegister_x l hfl D cY eS eO x (by first | assumption | omega | exact nm_lt _ _ | exact np_lt _ _ | decide)) (va_cwS 1 hts gX6_takeRoot_X6_requireRegister rfl rfl rfl (by decide +kernel) ⟨Nat.le_of_ble_eq_true rfl, Nat.le_of_ble_eq_true rfl⟩) dX6_takeRoot_1 [] rfl rfl rfl (Nat.le_of_ble_eq_true rfl) (Nat.le_of_ble_eq_true rfl) (Nat.le_of_ble_eq_true rfl) (fun _ => rfl) (fun _ => ⟨(), rfl⟩)
set_option maxHeartbeats 4000000 in
set_option maxRecDepth 100000 in
theorem c_X6_multiply (l : Launch) (D : va_G) (cY : Nat → ClassId) (nx fd tb pr ad rd wd h sk : Nat) (ab cnt : Nat) (f : Nat → Nat) (kp z s0 s1 s2 s3 b0 b1 b2 b3 t0 t1 t2 t3 : Nat) (g0 g1 g2 g3 : Nat → Nat) (fb : Nat) (bp : Nat → Nat) (k j : Nat) (hf8 : m_z 8 f) (hf16 : ∀ j, f j < 65536) (hg0 : m_z 8 g0) (hg1 : m_z 8 g1) (hg2 : m_z 8 g2) (hg3 : m_z 8 g3) (hz4 : z ≤ 4) (hB : n_bp bp) (hk : k < 8) (hj : j < 8) : m_Mi l yX6_multiply wsX6_multiply 4 87 D cY [.ref nx, .int (nI k), .int (nI j)] [(nx, .inr (6, [.ref fd, .ref tb, .ref pr, .ref ad, .ref rd, .ref wd, .ref h, .int (nI sk)])), (ad, .inr (4, [.ref ab, .int (nI cnt)])), (ab, .inl (cY 0, 8, .inl (m_nf f))), (h, .inr (0, [.ref kp, .int (nI z)])), (kp, .inl (cY 3, 4, .inr (.inr (.inr (.inr (m_k4 s0 s1 s2 s3)))))), (s0, .inr (4, [.ref b0, .int (nI t0)])), (b0, .inl (cY 0, 8, .inl (m_nf g0))), (s1, .inr (4, [.ref b1, .int (nI t1)])), (b1, .inl (cY 0, 8, .inl (m_nf g1))), (s2, .inr (4, [.ref b2, .int (nI t2)])), (b2, .inl (cY 0, 8, .inl (m_nf g2))), (s3, .inr (4, [.ref b3, .int (nI t3)])), (b3, .inl (cY 0, 8, .inl (m_nf g3))), (fd, .inr (2, [.ref fb])), (fb, .inl (cY 0, 256, .inl (m_nf bp)))] (fun (res : Int32) (u : Unit) => res = nI (nm (f k) (f j))) (fun (u : Unit) => [(nx, .inr (6, [.ref fd, .ref tb, .ref pr, .ref ad, .ref rd, .ref wd, .ref h, .int (nI sk)])), (ad, .inr (4, [.ref ab, .int (nI (cnt + 1))])), (ab, .inl (cY 0, 8, .inl (m_nf (m_up f k (nm (f k) (f j)))))), (h, .inr (0, [.ref kp, .int (nI (min (z + 1) 4))])), (kp, .inl (cY 3, 4, .inr (.inr (.inr (.inr (m_k4 s0 s1 s2 s3)))))), (s0, .inr (4, [.ref b0, .int (nI cnt)])), (b0, .inl (cY 0, 8, .inl (m_nf f))), (s1, .inr (4, [.ref b1, .int (nI t0)])), (b1, .inl (cY 0, 8, .inl (m_nf g0))), (s2, .inr (4, [.ref b2, .int (nI t1)])), (b2, .inl (cY 0, 8, .inl (m_nf g1))), (s3, .inr (4, [.ref b3, .int (nI t2)])), (b3, .inl (cY 0, 8, .inl (m_nf g2))), (fd, .inr (2, [.ref fb])), (fb, .inl (cY 0, 256, .inl (m_nf bp)))]) := by
  refine m_enterI (cc := cX6_multiply) (maxL := 4) (ret := (some .int)) (by decide +kernel) rfl (Nat.le_of_ble_eq_true rfl) ?_
  intro p e s m below meth c A ls C0 hP hD hl
  obtain ⟨hx, hb, hr, hml, hts, hown, hlocks, hK, hA⟩ := id C0
  generalize hQ : MQ below _ _ s 0 0 A = Q
  have hS : va_S A s.heap s.heap [] := va_S.rf
  have hl : lv_has ls 4 [(0, .ref nx), (1, .int (nI k)), (2, .int (nI j))] := hl
  have hwd0 := hts (.fieldLink RX6 12 "NimberField" "field" "LNimberField$Nimbers;") (by decide +kernel)
  have hwd1 := (show ∀ w ∈ u_ws RX6 TX6 8, w ∈ wsX6_multiply from by decide +kernel)
  have hwd2 := hts (.fieldLink RX6 33 "NimberField" "state" "LNimberField$State;") (by decide +kernel)
  refine lv_iload_n hx hb dX6_multiply_0 rfl (lv_at hl 1 rfl) ?_
  refine m_callSv (As := [.int (nI k)]) (rest := []) C0 hl hP hD hS (c_X6_requireRegister l D cY k (by first | assumption | omega | exact nm_lt _ _ | exact np_lt _ _ | decide)) (va_cwS 1 hts gX6_multiply_X6_requireRegister rfl rfl rfl (by decide +kernel) ⟨Nat.le_of_ble_eq_true rfl, Nat.le_of_ble_eq_true rfl⟩) dX6_multiply_1 [] rfl rfl rfl (Nat.le_of_ble_eq_true rfl) (Nat.zero_le _) (Nat.zero_le _) (fun _ => rfl) (fun u H1 locs hw hP hD hS => ?_)
  try dsimp only at hw
  clear hw
  have hP : va_P D vwCl [(nx, .inr (6, [.ref fd, .ref tb, .ref pr, .ref ad, .ref rd, .ref wd, .ref h, .int (nI sk)])), (ad, .inr (4, [.ref ab, .int (nI cnt)])), (ab, .inl (cY 0, 8, .inl (m_nf f))), (h, .inr (0, [.ref kp, .int (nI z)])), (kp, .inl (cY 3, 4, .inr (.inr (.inr (.inr (m_k4 s0 s1 s2 s3)))))), (s0, .inr (4, [.ref b0, .int (nI t0)])), (b0, .inl (cY 0, 8, .inl (m_nf g0))), (s1, .inr (4, [.ref b1, .int (nI t1)])), (b1, .inl (cY 0, 8, .inl (m_nf g1))), (s2, .inr (4, [.ref b2, .int (nI t2)])), (b2, .inl (cY 0, 8, .inl (m_nf g2))), (s3, .inr (4, [.ref b3, .int (nI t3)])), (b3, .inl (cY 0, 8, .inl (m_nf g3))), (fd, .inr (2, [.ref fb])), (fb, .inl (cY 0, 256, .inl (m_nf bp)))] H1 := hP
  have hD : va_D A [(nx, .inr (6, [.ref fd, .ref tb, .ref pr, .ref ad, .ref rd, .ref wd, .ref h, .int (nI sk)])), (ad, .inr (4, [.ref ab, .int (nI cnt)])), (ab, .inl (cY 0, 8, .inl (m_nf f))), (h, .inr (0, [.ref kp, .int (nI z)])), (kp, .inl (cY 3, 4, .inr (.inr (.inr (.inr (m_k4 s0 s1 s2 s3)))))), (s0, .inr (4, [.ref b0, .int (nI t0)])), (b0, .inl (cY 0, 8, .inl (m_nf g0))), (s1, .inr (4, [.ref b1, .int (nI t1)])), (b1, .inl (cY 0, 8, .inl (m_nf g1))), (s2, .inr (4, [.ref b2, .int (nI t2)])), (b2, .inl (cY 0, 8, .inl (m_nf g2))), (s3, .inr (4, [.ref b3, .int (nI t3)])), (b3, .inl (cY 0, 8, .inl (m_nf g3))), (fd, .inr (2, [.ref fb])), (fb, .inl (cY 0, 256, .inl (m_nf bp)))] := hD
  refine lv_iload_n hx hb dX6_multiply_4 rfl (lv_at hl 2 rfl) ?_
  refine m_callSv (As := [.int (nI j)]) (rest := []) C0 hl hP hD hS (c_X6_requireRegister l D cY j (by first | assumption | omega | exact nm_lt _ _ | exact np_lt _ _ | decide)) (va_cwS 1 hts gX6_multiply_X6_requireRegister rfl rfl rfl (by decide +kernel) ⟨Nat.le_of_ble_eq_true rfl, Nat.le_of_ble_eq_true rfl⟩) dX6_multiply_5 [] rfl rfl rfl (Nat.le_of_ble_eq_true rfl) (Nat.zero_le _) (Nat.zero_le _) (fun _ => rfl) (fun u H2 locs hw hP hD hS => ?_)
  try dsimp only at hw
  clear hw
  have hP : va_P D vwCl [(nx, .inr (6, [.ref fd, .ref tb, .ref pr, .ref ad, .ref rd, .ref wd, .ref h, .int (nI sk)])), (ad, .inr (4, [.ref ab, .int (nI cnt)])), (ab, .inl (cY 0, 8, .inl (m_nf f))), (h, .inr (0, [.ref kp, .int (nI z)])), (kp, .inl (cY 3, 4, .inr (.inr (.inr (.inr (m_k4 s0 s1 s2 s3)))))), (s0, .inr (4, [.ref b0, .int (nI t0)])), (b0, .inl (cY 0, 8, .inl (m_nf g0))), (s1, .inr (4, [.ref b1, .int (nI t1)])), (b1, .inl (cY 0, 8, .inl (m_nf g1))), (s2, .inr (4, [.ref b2, .int (nI t2)])), (b2, .inl (cY 0, 8, .inl (m_nf g2))), (s3, .inr (4, [.ref b3, .int (nI t3)])), (b3, .inl (cY 0, 8, .inl (m_nf g3))), (fd, .inr (2, [.ref fb])), (fb, .inl (cY 0, 256, .inl (m_nf bp)))] H2 := hP
  have hD : va_D A [(nx, .inr (6, [.ref fd, .ref tb, .ref pr, .ref ad, .ref rd, .ref wd, .ref h, .int (nI sk)])), (ad, .inr (4, [.ref ab, .int (nI cnt)])), (ab, .inl (cY 0, 8, .inl (m_nf f))), (h, .inr (0, [.ref kp, .int (nI z)])), (kp, .inl (cY 3, 4, .inr (.inr (.inr (.inr (m_k4 s0 s1 s2 s3)))))), (s0, .inr (4, [.ref b0, .int (nI t0)])), (b0, .inl (cY 0, 8, .inl (m_nf g0))), (s1, .inr (4, [.ref b1, .int (nI t1)])), (b1, .inl (cY 0, 8, .inl (m_nf g1))), (s2, .inr (4, [.ref b2, .int (nI t2)])), (b2, .inl (cY 0, 8, .inl (m_nf g2))), (s3, .inr (4, [.ref b3, .int (nI t3)])), (b3, .inl (cY 0, 8, .inl (m_nf g3))), (fd, .inr (2, [.ref fb])), (fb, .inl (cY 0, 256, .inl (m_nf bp)))] := hD
  refine lv_aload_n hx hb dX6_multiply_8 rfl (lv_at hl 0 rfl) ?_
  refine lv_iload_n hx hb dX6_multiply_9 rfl (lv_at hl 1 rfl) ?_
  refine lv_aload_n hx hb dX6_multiply_10 rfl (lv_at hl 0 rfl) ?_
  refine va_get (D := D) (ci := 6) (v := .ref fd) (C := RX6) (T := TX6) (N := 8) hx hb hts hwd1 hown hK hP 0 rfl rfl 0 (by decide) hwd0 (fun _ h9 => h9) rfl dX6_multiply_11 ?_
  refine lv_aload_n hx hb dX6_multiply_14 rfl (lv_at hl 0 rfl) ?_
  refine va_get (D := D) (ci := 6) (v := .ref ad) (C := RX6) (T := TX6) (N := 8) hx hb hts hwd1 hown hK hP 0 rfl rfl 3 (by decide) hwd2 (fun _ h9 => h9) rfl dX6_multiply_15 ?_
  refine lv_iload_n hx hb dX6_multiply_18 rfl (lv_at hl 1 rfl) ?_
  refine m_callVi (As := [.int (nI k)]) (rest := [.ref fd, .int (nI k), .ref nx]) C0 hl hP hD hS (c_X4_nimberIn l D cY ad ab cnt f k (by first | assumption | omega | exact nm_lt _ _ | exact np_lt _ _ | decide)) (cwV 1 hts gX6_multiply_X4_nimberIn rfl rfl rfl (by decide +kernel) ⟨Nat.le_of_ble_eq_true rfl, Nat.le_of_ble_eq_true rfl⟩) dX6_multiply_19 [1, 2] rfl rfl 1 rfl rfl rfl rfl (Nat.le_of_ble_eq_true rfl) (Nat.zero_le _) (Nat.zero_le _) (fun _ => rfl) (fun r4 u H3 locs hw hP hD hS => ?_)
  try dsimp only at hw
  obtain rfl := hw
  have hP : va_P D vwCl [(nx, .inr (6, [.ref fd, .ref tb, .ref pr, .ref ad, .ref rd, .ref wd, .ref h, .int (nI sk)])), (ad, .inr (4, [.ref ab, .int (nI cnt)])), (ab, .inl (cY 0, 8, .inl (m_nf f))), (h, .inr (0, [.ref kp, .int (nI z)])), (kp, .inl (cY 3, 4, .inr (.inr (.inr (.inr (m_k4 s0 s1 s2 s3)))))), (s0, .inr (4, [.ref b0, .int (nI t0)])), (b0, .inl (cY 0, 8, .inl (m_nf g0))), (s1, .inr (4, [.ref b1, .int (nI t1)])), (b1, .inl (cY 0, 8, .inl (m_nf g1))), (s2, .inr (4, [.ref b2, .int (nI t2)])), (b2, .inl (cY 0, 8, .inl (m_nf g2))), (s3, .inr (4, [.ref b3, .int (nI t3)])), (b3, .inl (cY 0, 8, .inl (m_nf g3))), (fd, .inr (2, [.ref fb])), (fb, .inl (cY 0, 256, .inl (m_nf bp)))] H3 := hP
  have hD : va_D A [(nx, .inr (6, [.ref fd, .ref tb, .ref pr, .ref ad, .ref rd, .ref wd, .ref h, .int (nI sk)])), (ad, .inr (4, [.ref ab, .int (nI cnt)])), (ab, .inl (cY 0, 8, .inl (m_nf f))), (h, .inr (0, [.ref kp, .int (nI z)])), (kp, .inl (cY 3, 4, .inr (.inr (.inr (.inr (m_k4 s0 s1 s2 s3)))))), (s0, .inr (4, [.ref b0, .int (nI t0)])), (b0, .inl (cY 0, 8, .inl (m_nf g0))), (s1, .inr (4, [.ref b1, .int (nI t1)])), (b1, .inl (cY 0, 8, .inl (m_nf g1))), (s2, .inr (4, [.ref b2, .int (nI t2)])), (b2, .inl (cY 0, 8, .inl (m_nf g2))), (s3, .inr (4, [.ref b3, .int (nI t3)])), (b3, .inl (cY 0, 8, .inl (m_nf g3))), (fd, .inr (2, [.ref fb])), (fb, .inl (cY 0, 256, .inl (m_nf bp)))] := hD
  refine lv_aload_n hx hb dX6_multiply_22 rfl (lv_at hl 0 rfl) ?_
  refine va_get (D := D) (ci := 6) (v := .ref ad) (C := RX6) (T := TX6) (N := 8) hx hb hts hwd1 hown hK hP 0 rfl rfl 3 (by decide) hwd2 (fun _ h9 => h9) rfl dX6_multiply_23 ?_
  refine lv_iload_n hx hb dX6_multiply_26 rfl (lv_at hl 2 rfl) ?_
  refine m_callVi (As := [.int (nI j)]) (rest := [.int (nI (f k)), .ref fd, .int (nI k), .ref nx]) C0 hl hP hD hS (c_X4_nimberIn l D cY ad ab cnt f j (by first | assumption | omega | exact nm_lt _ _ | exact np_lt _ _ | decide)) (cwV 1 hts gX6_multiply_X4_nimberIn rfl rfl rfl (by decide +kernel) ⟨Nat.le_of_ble_eq_true rfl, Nat.le_of_ble_eq_true rfl⟩) dX6_multiply_27 [1, 2] rfl rfl 1 rfl rfl rfl rfl (Nat.le_of_ble_eq_true rfl) (Nat.zero_le _) (Nat.zero_le _) (fun _ => rfl) (fun r6 u H5 locs hw hP hD hS => ?_)
  try dsimp only at hw
  obtain rfl := hw
  have hP : va_P D vwCl [(nx, .inr (6, [.ref fd, .ref tb, .ref pr, .ref ad, .ref rd, .ref wd, .ref h, .int (nI sk)])), (ad, .inr (4, [.ref ab, .int (nI cnt)])), (ab, .inl (cY 0, 8, .inl (m_nf f))), (h, .inr (0, [.ref kp, .int (nI z)])), (kp, .inl (cY 3, 4, .inr (.inr (.inr (.inr (m_k4 s0 s1 s2 s3)))))), (s0, .inr (4, [.ref b0, .int (nI t0)])), (b0, .inl (cY 0, 8, .inl (m_nf g0))), (s1, .inr (4, [.ref b1, .int (nI t1)])), (b1, .inl (cY 0, 8, .inl (m_nf g1))), (s2, .inr (4, [.ref b2, .int (nI t2)])), (b2, .inl (cY 0, 8, .inl (m_nf g2))), (s3, .inr (4, [.ref b3, .int (nI t3)])), (b3, .inl (cY 0, 8, .inl (m_nf g3))), (fd, .inr (2, [.ref fb])), (fb, .inl (cY 0, 256, .inl (m_nf bp)))] H5 := hP
  have hD : va_D A [(nx, .inr (6, [.ref fd, .ref tb, .ref pr, .ref ad, .ref rd, .ref wd, .ref h, .int (nI sk)])), (ad, .inr (4, [.ref ab, .int (nI cnt)])), (ab, .inl (cY 0, 8, .inl (m_nf f))), (h, .inr (0, [.ref kp, .int (nI z)])), (kp, .inl (cY 3, 4, .inr (.inr (.inr (.inr (m_k4 s0 s1 s2 s3)))))), (s0, .inr (4, [.ref b0, .int (nI t0)])), (b0, .inl (cY 0, 8, .inl (m_nf g0))), (s1, .inr (4, [.ref b1, .int (nI t1)])), (b1, .inl (cY 0, 8, .inl (m_nf g1))), (s2, .inr (4, [.ref b2, .int (nI t2)])), (b2, .inl (cY 0, 8, .inl (m_nf g2))), (s3, .inr (4, [.ref b3, .int (nI t3)])), (b3, .inl (cY 0, 8, .inl (m_nf g3))), (fd, .inr (2, [.ref fb])), (fb, .inl (cY 0, 256, .inl (m_nf bp)))] := hD
  refine m_callVi (As := [.int (nI (f k)), .int (nI (f j))]) (rest := [.int (nI k), .ref nx]) C0 hl hP hD hS (c_X2_times l D cY fd fb bp (f k) (f j) (hf16 k) (hf16 j) (by first | assumption | omega | exact nm_lt _ _ | exact np_lt _ _ | decide)) (cwV 2 hts gX6_multiply_X2_times rfl rfl rfl (by decide +kernel) ⟨Nat.le_of_ble_eq_true rfl, Nat.le_of_ble_eq_true rfl⟩) dX6_multiply_30 [13, 14] rfl rfl 13 rfl rfl rfl rfl (Nat.le_of_ble_eq_true rfl) (Nat.zero_le _) (Nat.zero_le _) (fun _ => rfl) (fun r8 u H7 locs hw hP hD hS => ?_)
  try dsimp only at hw
  obtain rfl := hw
  have hP : va_P D vwCl [(nx, .inr (6, [.ref fd, .ref tb, .ref pr, .ref ad, .ref rd, .ref wd, .ref h, .int (nI sk)])), (ad, .inr (4, [.ref ab, .int (nI cnt)])), (ab, .inl (cY 0, 8, .inl (m_nf f))), (h, .inr (0, [.ref kp, .int (nI z)])), (kp, .inl (cY 3, 4, .inr (.inr (.inr (.inr (m_k4 s0 s1 s2 s3)))))), (s0, .inr (4, [.ref b0, .int (nI t0)])), (b0, .inl (cY 0, 8, .inl (m_nf g0))), (s1, .inr (4, [.ref b1, .int (nI t1)])), (b1, .inl (cY 0, 8, .inl (m_nf g1))), (s2, .inr (4, [.ref b2, .int (nI t2)])), (b2, .inl (cY 0, 8, .inl (m_nf g2))), (s3, .inr (4, [.ref b3, .int (nI t3)])), (b3, .inl (cY 0, 8, .inl (m_nf g3))), (fd, .inr (2, [.ref fb])), (fb, .inl (cY 0, 256, .inl (m_nf bp)))] H7 := hP
  have hD : va_D A [(nx, .inr (6, [.ref fd, .ref tb, .ref pr, .ref ad, .ref rd, .ref wd, .ref h, .int (nI sk)])), (ad, .inr (4, [.ref ab, .int (nI cnt)])), (ab, .inl (cY 0, 8, .inl (m_nf f))), (h, .inr (0, [.ref kp, .int (nI z)])), (kp, .inl (cY 3, 4, .inr (.inr (.inr (.inr (m_k4 s0 s1 s2 s3)))))), (s0, .inr (4, [.ref b0, .int (nI t0)])), (b0, .inl (cY 0, 8, .inl (m_nf g0))), (s1, .inr (4, [.ref b1, .int (nI t1)])), (b1, .inl (cY 0, 8, .inl (m_nf g1))), (s2, .inr (4, [.ref b2, .int (nI t2)])), (b2, .inl (cY 0, 8, .inl (m_nf g2))), (s3, .inr (4, [.ref b3, .int (nI t3)])), (b3, .inl (cY 0, 8, .inl (m_nf g3))), (fd, .inr (2, [.ref fb])), (fb, .inl (cY 0, 256, .inl (m_nf bp)))] := hD
  refine m_callVi (As := [.int (nI k), .int (nI (nm (f k) (f j)))]) (rest := []) C0 hl hP hD hS (c_X6_replace l D cY nx fd tb pr ad rd wd h sk ab cnt f kp z s0 s1 s2 s3 b0 b1 b2 b3 t0 t1 t2 t3 g0 g1 g2 g3 k (nm (f k) (f j)) (by first | assumption | omega | exact nm_lt _ _ | exact np_lt _ _ | decide) (by first | assumption | omega | exact nm_lt _ _ | exact np_lt _ _ | decide) (by first | assumption | omega | exact nm_lt _ _ | exact np_lt _ _ | decide) (by first | assumption | omega | exact nm_lt _ _ | exact np_lt _ _ | decide) (by first | assumption | omega | exact nm_lt _ _ | exact np_lt _ _ | decide) (by first | assumption | omega | exact nm_lt _ _ | exact np_lt _ _ | decide) (by first | assumption | omega | exact nm_lt _ _ | exact np_lt _ _ | decide) (by first | assumption | omega | exact nm_lt _ _ | exact np_lt _ _ | decide)) (cwV 2 hts gX6_multiply_X6_replace rfl rfl rfl (by decide +kernel) ⟨Nat.le_of_ble_eq_true rfl, Nat.le_of_ble_eq_true rfl⟩) dX6_multiply_33 [0, 1, 2, 3, 4, 5, 6, 7, 8, 9, 10, 11, 12] rfl rfl 0 rfl rfl rfl rfl (Nat.le_of_ble_eq_true rfl) (Nat.zero_le _) (Nat.zero_le _) (fun _ => rfl) (fun r10 u H9 locs hw hP hD hS => ?_)
  try dsimp only at hw
  obtain rfl := hw
  have hP : va_P D vwCl [(nx, .inr (6, [.ref fd, .ref tb, .ref pr, .ref ad, .ref rd, .ref wd, .ref h, .int (nI sk)])), (ad, .inr (4, [.ref ab, .int (nI cnt)])), (ab, .inl (cY 0, 8, .inl (m_nf (m_up f k (nm (f k) (f j)))))), (h, .inr (0, [.ref kp, .int (nI (min (z + 1) 4))])), (kp, .inl (cY 3, 4, .inr (.inr (.inr (.inr (m_k4 s0 s1 s2 s3)))))), (s0, .inr (4, [.ref b0, .int (nI cnt)])), (b0, .inl (cY 0, 8, .inl (m_nf f))), (s1, .inr (4, [.ref b1, .int (nI t0)])), (b1, .inl (cY 0, 8, .inl (m_nf g0))), (s2, .inr (4, [.ref b2, .int (nI t1)])), (b2, .inl (cY 0, 8, .inl (m_nf g1))), (s3, .inr (4, [.ref b3, .int (nI t2)])), (b3, .inl (cY 0, 8, .inl (m_nf g2))), (fd, .inr (2, [.ref fb])), (fb, .inl (cY 0, 256, .inl (m_nf bp)))] H9 := hP
  have hD : va_D A [(nx, .inr (6, [.ref fd, .ref tb, .ref pr, .ref ad, .ref rd, .ref wd, .ref h, .int (nI sk)])), (ad, .inr (4, [.ref ab, .int (nI cnt)])), (ab, .inl (cY 0, 8, .inl (m_nf (m_up f k (nm (f k) (f j)))))), (h, .inr (0, [.ref kp, .int (nI (min (z + 1) 4))])), (kp, .inl (cY 3, 4, .inr (.inr (.inr (.inr (m_k4 s0 s1 s2 s3)))))), (s0, .inr (4, [.ref b0, .int (nI cnt)])), (b0, .inl (cY 0, 8, .inl (m_nf f))), (s1, .inr (4, [.ref b1, .int (nI t0)])), (b1, .inl (cY 0, 8, .inl (m_nf g0))), (s2, .inr (4, [.ref b2, .int (nI t1)])), (b2, .inl (cY 0, 8, .inl (m_nf g1))), (s3, .inr (4, [.ref b3, .int (nI t2)])), (b3, .inl (cY 0, 8, .inl (m_nf g2))), (fd, .inr (2, [.ref fb])), (fb, .inl (cY 0, 256, .inl (m_nf bp)))] := hD
  refine lv_istore_n (lv' := [(3, .int (nI (nm (f k) (f j)))), (0, .ref nx), (1, .int (nI k)), (2, .int (nI j))]) hx hb dX6_multiply_36 rfl hl (by decide) rfl (fun ls hl => ?_)
  refine lv_aload_n hx hb dX6_multiply_37 rfl (lv_at hl 1 rfl) ?_
  refine va_get (D := D) (ci := 6) (v := .ref ad) (C := RX6) (T := TX6) (N := 8) hx hb hts hwd1 hown hK hP 0 rfl rfl 3 (by decide) hwd2 (fun _ h9 => h9) rfl dX6_multiply_38 ?_
  refine m_callVv (As := []) (rest := []) C0 hl hP hD hS (c_X4_countProduct l D cY ad ab cnt (m_up f k (nm (f k) (f j))) ) (cwV 0 hts gX6_multiply_X4_countProduct rfl rfl rfl (by decide +kernel) ⟨Nat.le_of_ble_eq_true rfl, Nat.le_of_ble_eq_true rfl⟩) dX6_multiply_41 [1, 2] rfl rfl 1 rfl rfl rfl rfl (Nat.le_of_ble_eq_true rfl) (Nat.zero_le _) (Nat.zero_le _) (fun _ => rfl) (fun u H11 locs hw hP hD hS => ?_)
  try dsimp only at hw
  clear hw
  have hP : va_P D vwCl [(nx, .inr (6, [.ref fd, .ref tb, .ref pr, .ref ad, .ref rd, .ref wd, .ref h, .int (nI sk)])), (ad, .inr (4, [.ref ab, .int (nI (cnt + 1))])), (ab, .inl (cY 0, 8, .inl (m_nf (m_up f k (nm (f k) (f j)))))), (h, .inr (0, [.ref kp, .int (nI (min (z + 1) 4))])), (kp, .inl (cY 3, 4, .inr (.inr (.inr (.inr (m_k4 s0 s1 s2 s3)))))), (s0, .inr (4, [.ref b0, .int (nI cnt)])), (b0, .inl (cY 0, 8, .inl (m_nf f))), (s1, .inr (4, [.ref b1, .int (nI t0)])), (b1, .inl (cY 0, 8, .inl (m_nf g0))), (s2, .inr (4, [.ref b2, .int (nI t1)])), (b2, .inl (cY 0, 8, .inl (m_nf g1))), (s3, .inr (4, [.ref b3, .int (nI t2)])), (b3, .inl (cY 0, 8, .inl (m_nf g2))), (fd, .inr (2, [.ref fb])), (fb, .inl (cY 0, 256, .inl (m_nf bp)))] H11 := hP
  have hD : va_D A [(nx, .inr (6, [.ref fd, .ref tb, .ref pr, .ref ad, .ref rd, .ref wd, .ref h, .int (nI sk)])), (ad, .inr (4, [.ref ab, .int (nI (cnt + 1))])), (ab, .inl (cY 0, 8, .inl (m_nf (m_up f k (nm (f k) (f j)))))), (h, .inr (0, [.ref kp, .int (nI (min (z + 1) 4))])), (kp, .inl (cY 3, 4, .inr (.inr (.inr (.inr (m_k4 s0 s1 s2 s3)))))), (s0, .inr (4, [.ref b0, .int (nI cnt)])), (b0, .inl (cY 0, 8, .inl (m_nf f))), (s1, .inr (4, [.ref b1, .int (nI t0)])), (b1, .inl (cY 0, 8, .inl (m_nf g0))), (s2, .inr (4, [.ref b2, .int (nI t1)])), (b2, .inl (cY 0, 8, .inl (m_nf g1))), (s3, .inr (4, [.ref b3, .int (nI t2)])), (b3, .inl (cY 0, 8, .inl (m_nf g2))), (fd, .inr (2, [.ref fb])), (fb, .inl (cY 0, 256, .inl (m_nf bp)))] := hD
  refine lv_iload_n hx hb dX6_multiply_44 rfl (lv_at hl 0 rfl) ?_
  subst hQ
  exact m_iret C0 hS dX6_multiply_45 (u := ()) hP (by first | trivial | rfl | omega)
set_option maxHeartbeats 4000000 in
set_option maxRecDepth 100000 in
theorem c_X6_multiply_x1 (l : Launch) (hfl : l.stackTraces = false) (D : va_G) (cY : Nat → ClassId) (eS : Nat → Nat) (eO : Nat) (nx fd tb pr ad rd wd h sk : Nat) (x y : Int32) (hn : ¬ (m_isR x ∧ m_isR y)) : m_Mx l yX6_multiply wsX6_multiply 7 116 D cY eS eO [.ref nx, .int x, .int y] [(nx, .inr (6, [.ref fd, .ref tb, .ref pr, .ref ad, .ref rd, .ref wd, .ref h, .int (nI sk)]))] e_IO (fun (u : Unit) => [(nx, .inr (6, [.ref fd, .ref tb, .ref pr, .ref ad, .ref rd, .ref wd, .ref h, .int (nI sk)]))]) := by
  refine m_enterX (cc := cX6_multiply) (maxL := 4) (ret := (some .int)) (by decide +kernel) rfl (Nat.le_of_ble_eq_true rfl) ?_
  intro p e s m below meth c A ls C0 hnt hE hP hD hl
  obtain ⟨hx, hb, hr, hml, hts, hown, hlocks, hK, hA⟩ := id C0
  obtain ⟨hz1, hz2, ⟨hcIO, hcIA, hcIS⟩, hdcl, ⟨hs0, hs1, hs2, hs3, hs4, hs5, hs6, hs7⟩, ⟨hn1, hn2⟩, ⟨hl0, hl1, hl2, hl3, hl4⟩, hzO, htO⟩ := id hE
  generalize hQ : vx_MQ below _ _ _ s 1 6 A = Q
  have hS : va_S A s.heap s.heap [] := va_S.rf
  have hl : lv_has ls 4 [(0, .ref nx), (1, .int x), (2, .int y)] := hl
  rcases Decidable.em (m_isR x) with hc | hc
  · skip
    obtain ⟨k, hk, rfl⟩ := m_isR_to hc
    refine lv_iload_n hx hb dX6_multiply_0 rfl (lv_at hl 1 rfl) ?_
    refine m_callSv (As := [.int (nI k)]) (rest := []) C0 hl hP hD hS (c_X6_requireRegister l D cY k (hk)) (va_cwS 1 hts gX6_multiply_X6_requireRegister rfl rfl rfl (by decide +kernel) ⟨Nat.le_of_ble_eq_true rfl, Nat.le_of_ble_eq_true rfl⟩) dX6_multiply_1 [] rfl rfl rfl (Nat.le_of_ble_eq_true rfl) (Nat.zero_le _) (Nat.zero_le _) (fun _ => rfl) (fun u H1 locs hw hP hD hS => ?_)
    try dsimp only at hw
    clear hw
    have hP : va_P D vwCl [(nx, .inr (6, [.ref fd, .ref tb, .ref pr, .ref ad, .ref rd, .ref wd, .ref h, .int (nI sk)]))] H1 := hP
    have hD : va_D A [(nx, .inr (6, [.ref fd, .ref tb, .ref pr, .ref ad, .ref rd, .ref wd, .ref h, .int (nI sk)]))] := hD
    refine lv_iload_n hx hb dX6_multiply_4 rfl (lv_at hl 2 rfl) ?_
    subst hQ
    exact m_callSx (As := [.int y]) (rest := []) C0 hnt hE hl hP hD hS (c_X6_requireRegister_x l hfl D cY eS eO y (fun q => hn ⟨hc, q⟩)) (va_cwS 1 hts gX6_multiply_X6_requireRegister rfl rfl rfl (by decide +kernel) ⟨Nat.le_of_ble_eq_true rfl, Nat.le_of_ble_eq_true rfl⟩) dX6_multiply_5 [] rfl rfl rfl (Nat.le_of_ble_eq_true rfl) (Nat.le_of_ble_eq_true rfl) (Nat.le_of_ble_eq_true rfl) (fun _ => rfl) (fun _ => ⟨(), rfl⟩)
  · skip
    refine lv_iload_n hx hb dX6_multiply_0 rfl (lv_at hl 1 rfl) ?_
    subst hQ
    exact m_callSx (As := [.int x]) (rest := []) C0 hnt hE hl hP hD hS (c_X6_requireRegister_x l hfl D cY eS eO x (hc)) (va_cwS 1 hts gX6_multiply_X6_requireRegister rfl rfl rfl (by decide +kernel) ⟨Nat.le_of_ble_eq_true rfl, Nat.le_of_ble_eq_true rfl⟩) dX6_multiply_1 [] rfl rfl rfl (Nat.le_of_ble_eq_true rfl) (Nat.le_of_ble_eq_true rfl) (Nat.le_of_ble_eq_true rfl) (fun _ => rfl) (fun _ => ⟨(), rfl⟩)
set_option maxHeartbeats 4000000 in
set_option maxRecDepth 100000 in
theorem c_X6_exchange_x1 (l : Launch) (hfl : l.stackTraces = false) (D : va_G) (cY : Nat → ClassId) (eS : Nat → Nat) (eO : Nat) (nx fd tb pr ad rd wd h sk : Nat) (x y : Int32) (hn : ¬ (m_isR x ∧ m_isR y)) : m_Mx l yX6_exchange wsX6_exchange 7 116 D cY eS eO [.ref nx, .int x, .int y] [(nx, .inr (6, [.ref fd, .ref tb, .ref pr, .ref ad, .ref rd, .ref wd, .ref h, .int (nI sk)]))] e_IO (fun (u : Unit) => [(nx, .inr (6, [.ref fd, .ref tb, .ref pr, .ref ad, .ref rd, .ref wd, .ref h, .int (nI sk)]))]) := by
  refine m_enterX (cc := cX6_exchange) (maxL := 5) (ret := (some .int)) (by decide +kernel) rfl (Nat.le_of_ble_eq_true rfl) ?_
  intro p e s m below meth c A ls C0 hnt hE hP hD hl
  obtain ⟨hx, hb, hr, hml, hts, hown, hlocks, hK, hA⟩ := id C0
  obtain ⟨hz1, hz2, ⟨hcIO, hcIA, hcIS⟩, hdcl, ⟨hs0, hs1, hs2, hs3, hs4, hs5, hs6, hs7⟩, ⟨hn1, hn2⟩, ⟨hl0, hl1, hl2, hl3, hl4⟩, hzO, htO⟩ := id hE
  generalize hQ : vx_MQ below _ _ _ s 1 6 A = Q
  have hS : va_S A s.heap s.heap [] := va_S.rf
  have hl : lv_has ls 5 [(0, .ref nx), (1, .int x), (2, .int y)] := hl
  rcases Decidable.em (m_isR x) with hc | hc
  · skip
    obtain ⟨k, hk, rfl⟩ := m_isR_to hc
    refine lv_iload_n hx hb dX6_exchange_0 rfl (lv_at hl 1 rfl) ?_
    refine m_callSv (As := [.int (nI k)]) (rest := []) C0 hl hP hD hS (c_X6_requireRegister l D cY k (hk)) (va_cwS 1 hts gX6_exchange_X6_requireRegister rfl rfl rfl (by decide +kernel) ⟨Nat.le_of_ble_eq_true rfl, Nat.le_of_ble_eq_true rfl⟩) dX6_exchange_1 [] rfl rfl rfl (Nat.le_of_ble_eq_true rfl) (Nat.zero_le _) (Nat.zero_le _) (fun _ => rfl) (fun u H1 locs hw hP hD hS => ?_)
    try dsimp only at hw
    clear hw
    have hP : va_P D vwCl [(nx, .inr (6, [.ref fd, .ref tb, .ref pr, .ref ad, .ref rd, .ref wd, .ref h, .int (nI sk)]))] H1 := hP
    have hD : va_D A [(nx, .inr (6, [.ref fd, .ref tb, .ref pr, .ref ad, .ref rd, .ref wd, .ref h, .int (nI sk)]))] := hD
    refine lv_iload_n hx hb dX6_exchange_4 rfl (lv_at hl 2 rfl) ?_
    subst hQ
    exact m_callSx (As := [.int y]) (rest := []) C0 hnt hE hl hP hD hS (c_X6_requireRegister_x l hfl D cY eS eO y (fun q => hn ⟨hc, q⟩)) (va_cwS 1 hts gX6_exchange_X6_requireRegister rfl rfl rfl (by decide +kernel) ⟨Nat.le_of_ble_eq_true rfl, Nat.le_of_ble_eq_true rfl⟩) dX6_exchange_5 [] rfl rfl rfl (Nat.le_of_ble_eq_true rfl) (Nat.le_of_ble_eq_true rfl) (Nat.le_of_ble_eq_true rfl) (fun _ => rfl) (fun _ => ⟨(), rfl⟩)
  · skip
    refine lv_iload_n hx hb dX6_exchange_0 rfl (lv_at hl 1 rfl) ?_
    subst hQ
    exact m_callSx (As := [.int x]) (rest := []) C0 hnt hE hl hP hD hS (c_X6_requireRegister_x l hfl D cY eS eO x (hc)) (va_cwS 1 hts gX6_exchange_X6_requireRegister rfl rfl rfl (by decide +kernel) ⟨Nat.le_of_ble_eq_true rfl, Nat.le_of_ble_eq_true rfl⟩) dX6_exchange_1 [] rfl rfl rfl (Nat.le_of_ble_eq_true rfl) (Nat.le_of_ble_eq_true rfl) (Nat.le_of_ble_eq_true rfl) (fun _ => rfl) (fun _ => ⟨(), rfl⟩)
set_option maxHeartbeats 4000000 in
set_option maxRecDepth 100000 in
theorem c_X6_exchange (l : Launch) (D : va_G) (cY : Nat → ClassId) (nx fd tb pr ad rd wd h sk : Nat) (ab cnt : Nat) (f : Nat → Nat) (kp z s0 s1 s2 s3 b0 b1 b2 b3 t0 t1 t2 t3 : Nat) (g0 g1 g2 g3 : Nat → Nat) (k j : Nat) (hf8 : m_z 8 f) (hf16 : ∀ j, f j < 65536) (hg0 : m_z 8 g0) (hg1 : m_z 8 g1) (hg2 : m_z 8 g2) (hg3 : m_z 8 g3) (hz4 : z ≤ 4) (hk : k < 8) (hj : j < 8) : m_Mi l yX6_exchange wsX6_exchange 3 65 D cY [.ref nx, .int (nI k), .int (nI j)] [(nx, .inr (6, [.ref fd, .ref tb, .ref pr, .ref ad, .ref rd, .ref wd, .ref h, .int (nI sk)])), (ad, .inr (4, [.ref ab, .int (nI cnt)])), (ab, .inl (cY 0, 8, .inl (m_nf f))), (h, .inr (0, [.ref kp, .int (nI z)])), (kp, .inl (cY 3, 4, .inr (.inr (.inr (.inr (m_k4 s0 s1 s2 s3)))))), (s0, .inr (4, [.ref b0, .int (nI t0)])), (b0, .inl (cY 0, 8, .inl (m_nf g0))), (s1, .inr (4, [.ref b1, .int (nI t1)])), (b1, .inl (cY 0, 8, .inl (m_nf g1))), (s2, .inr (4, [.ref b2, .int (nI t2)])), (b2, .inl (cY 0, 8, .inl (m_nf g2))), (s3, .inr (4, [.ref b3, .int (nI t3)])), (b3, .inl (cY 0, 8, .inl (m_nf g3)))] (fun (res : Int32) (u : Unit) => res = nI (f j)) (fun (u : Unit) => [(nx, .inr (6, [.ref fd, .ref tb, .ref pr, .ref ad, .ref rd, .ref wd, .ref h, .int (nI sk)])), (ad, .inr (4, [.ref ab, .int (nI cnt)])), (ab, .inl (cY 0, 8, .inl (m_nf (m_up (m_up f k (f j)) j (f k))))), (h, .inr (0, [.ref kp, .int (nI (min (z + 1) 4))])), (kp, .inl (cY 3, 4, .inr (.inr (.inr (.inr (m_k4 s0 s1 s2 s3)))))), (s0, .inr (4, [.ref b0, .int (nI cnt)])), (b0, .inl (cY 0, 8, .inl (m_nf f))), (s1, .inr (4, [.ref b1, .int (nI t0)])), (b1, .inl (cY 0, 8, .inl (m_nf g0))), (s2, .inr (4, [.ref b2, .int (nI t1)])), (b2, .inl (cY 0, 8, .inl (m_nf g1))), (s3, .inr (4, [.ref b3, .int (nI t2)])), (b3, .inl (cY 0, 8, .inl (m_nf g2)))]) := by
  refine m_enterI (cc := cX6_exchange) (maxL := 5) (ret := (some .int)) (by decide +kernel) rfl (Nat.le_of_ble_eq_true rfl) ?_
  intro p e s m below meth c A ls C0 hP hD hl
  obtain ⟨hx, hb, hr, hml, hts, hown, hlocks, hK, hA⟩ := id C0
  generalize hQ : MQ below _ _ s 0 0 A = Q
  have hS : va_S A s.heap s.heap [] := va_S.rf
  have hl : lv_has ls 5 [(0, .ref nx), (1, .int (nI k)), (2, .int (nI j))] := hl
  have hwd0 := hts (.fieldLink RX6 33 "NimberField" "state" "LNimberField$State;") (by decide +kernel)
  have hwd1 := (show ∀ w ∈ u_ws RX6 TX6 8, w ∈ wsX6_exchange from by decide +kernel)
  have hwd2 := hts (.fieldLink RX6 46 "NimberField" "history" "LNimberField$History;") (by decide +kernel)
  refine lv_iload_n hx hb dX6_exchange_0 rfl (lv_at hl 1 rfl) ?_
  refine m_callSv (As := [.int (nI k)]) (rest := []) C0 hl hP hD hS (c_X6_requireRegister l D cY k (by first | assumption | omega | exact nm_lt _ _ | exact np_lt _ _ | decide)) (va_cwS 1 hts gX6_exchange_X6_requireRegister rfl rfl rfl (by decide +kernel) ⟨Nat.le_of_ble_eq_true rfl, Nat.le_of_ble_eq_true rfl⟩) dX6_exchange_1 [] rfl rfl rfl (Nat.le_of_ble_eq_true rfl) (Nat.zero_le _) (Nat.zero_le _) (fun _ => rfl) (fun u H1 locs hw hP hD hS => ?_)
  try dsimp only at hw
  clear hw
  have hP : va_P D vwCl [(nx, .inr (6, [.ref fd, .ref tb, .ref pr, .ref ad, .ref rd, .ref wd, .ref h, .int (nI sk)])), (ad, .inr (4, [.ref ab, .int (nI cnt)])), (ab, .inl (cY 0, 8, .inl (m_nf f))), (h, .inr (0, [.ref kp, .int (nI z)])), (kp, .inl (cY 3, 4, .inr (.inr (.inr (.inr (m_k4 s0 s1 s2 s3)))))), (s0, .inr (4, [.ref b0, .int (nI t0)])), (b0, .inl (cY 0, 8, .inl (m_nf g0))), (s1, .inr (4, [.ref b1, .int (nI t1)])), (b1, .inl (cY 0, 8, .inl (m_nf g1))), (s2, .inr (4, [.ref b2, .int (nI t2)])), (b2, .inl (cY 0, 8, .inl (m_nf g2))), (s3, .inr (4, [.ref b3, .int (nI t3)])), (b3, .inl (cY 0, 8, .inl (m_nf g3)))] H1 := hP
  have hD : va_D A [(nx, .inr (6, [.ref fd, .ref tb, .ref pr, .ref ad, .ref rd, .ref wd, .ref h, .int (nI sk)])), (ad, .inr (4, [.ref ab, .int (nI cnt)])), (ab, .inl (cY 0, 8, .inl (m_nf f))), (h, .inr (0, [.ref kp, .int (nI z)])), (kp, .inl (cY 3, 4, .inr (.inr (.inr (.inr (m_k4 s0 s1 s2 s3)))))), (s0, .inr (4, [.ref b0, .int (nI t0)])), (b0, .inl (cY 0, 8, .inl (m_nf g0))), (s1, .inr (4, [.ref b1, .int (nI t1)])), (b1, .inl (cY 0, 8, .inl (m_nf g1))), (s2, .inr (4, [.ref b2, .int (nI t2)])), (b2, .inl (cY 0, 8, .inl (m_nf g2))), (s3, .inr (4, [.ref b3, .int (nI t3)])), (b3, .inl (cY 0, 8, .inl (m_nf g3)))] := hD
  refine lv_iload_n hx hb dX6_exchange_4 rfl (lv_at hl 2 rfl) ?_
  refine m_callSv (As := [.int (nI j)]) (rest := []) C0 hl hP hD hS (c_X6_requireRegister l D cY j (by first | assumption | omega | exact nm_lt _ _ | exact np_lt _ _ | decide)) (va_cwS 1 hts gX6_exchange_X6_requireRegister rfl rfl rfl (by decide +kernel) ⟨Nat.le_of_ble_eq_true rfl, Nat.le_of_ble_eq_true rfl⟩) dX6_exchange_5 [] rfl rfl rfl (Nat.le_of_ble_eq_true rfl) (Nat.zero_le _) (Nat.zero_le _) (fun _ => rfl) (fun u H2 locs hw hP hD hS => ?_)
  try dsimp only at hw
  clear hw
  have hP : va_P D vwCl [(nx, .inr (6, [.ref fd, .ref tb, .ref pr, .ref ad, .ref rd, .ref wd, .ref h, .int (nI sk)])), (ad, .inr (4, [.ref ab, .int (nI cnt)])), (ab, .inl (cY 0, 8, .inl (m_nf f))), (h, .inr (0, [.ref kp, .int (nI z)])), (kp, .inl (cY 3, 4, .inr (.inr (.inr (.inr (m_k4 s0 s1 s2 s3)))))), (s0, .inr (4, [.ref b0, .int (nI t0)])), (b0, .inl (cY 0, 8, .inl (m_nf g0))), (s1, .inr (4, [.ref b1, .int (nI t1)])), (b1, .inl (cY 0, 8, .inl (m_nf g1))), (s2, .inr (4, [.ref b2, .int (nI t2)])), (b2, .inl (cY 0, 8, .inl (m_nf g2))), (s3, .inr (4, [.ref b3, .int (nI t3)])), (b3, .inl (cY 0, 8, .inl (m_nf g3)))] H2 := hP
  have hD : va_D A [(nx, .inr (6, [.ref fd, .ref tb, .ref pr, .ref ad, .ref rd, .ref wd, .ref h, .int (nI sk)])), (ad, .inr (4, [.ref ab, .int (nI cnt)])), (ab, .inl (cY 0, 8, .inl (m_nf f))), (h, .inr (0, [.ref kp, .int (nI z)])), (kp, .inl (cY 3, 4, .inr (.inr (.inr (.inr (m_k4 s0 s1 s2 s3)))))), (s0, .inr (4, [.ref b0, .int (nI t0)])), (b0, .inl (cY 0, 8, .inl (m_nf g0))), (s1, .inr (4, [.ref b1, .int (nI t1)])), (b1, .inl (cY 0, 8, .inl (m_nf g1))), (s2, .inr (4, [.ref b2, .int (nI t2)])), (b2, .inl (cY 0, 8, .inl (m_nf g2))), (s3, .inr (4, [.ref b3, .int (nI t3)])), (b3, .inl (cY 0, 8, .inl (m_nf g3)))] := hD
  refine lv_aload_n hx hb dX6_exchange_8 rfl (lv_at hl 0 rfl) ?_
  refine va_get (D := D) (ci := 6) (v := .ref ad) (C := RX6) (T := TX6) (N := 8) hx hb hts hwd1 hown hK hP 0 rfl rfl 3 (by decide) hwd0 (fun _ h9 => h9) rfl dX6_exchange_9 ?_
  refine lv_iload_n hx hb dX6_exchange_12 rfl (lv_at hl 1 rfl) ?_
  refine m_callVi (As := [.int (nI k)]) (rest := []) C0 hl hP hD hS (c_X4_nimberIn l D cY ad ab cnt f k (by first | assumption | omega | exact nm_lt _ _ | exact np_lt _ _ | decide)) (cwV 1 hts gX6_exchange_X4_nimberIn rfl rfl rfl (by decide +kernel) ⟨Nat.le_of_ble_eq_true rfl, Nat.le_of_ble_eq_true rfl⟩) dX6_exchange_13 [1, 2] rfl rfl 1 rfl rfl rfl rfl (Nat.le_of_ble_eq_true rfl) (Nat.zero_le _) (Nat.zero_le _) (fun _ => rfl) (fun r4 u H3 locs hw hP hD hS => ?_)
  try dsimp only at hw
  obtain rfl := hw
  have hP : va_P D vwCl [(nx, .inr (6, [.ref fd, .ref tb, .ref pr, .ref ad, .ref rd, .ref wd, .ref h, .int (nI sk)])), (ad, .inr (4, [.ref ab, .int (nI cnt)])), (ab, .inl (cY 0, 8, .inl (m_nf f))), (h, .inr (0, [.ref kp, .int (nI z)])), (kp, .inl (cY 3, 4, .inr (.inr (.inr (.inr (m_k4 s0 s1 s2 s3)))))), (s0, .inr (4, [.ref b0, .int (nI t0)])), (b0, .inl (cY 0, 8, .inl (m_nf g0))), (s1, .inr (4, [.ref b1, .int (nI t1)])), (b1, .inl (cY 0, 8, .inl (m_nf g1))), (s2, .inr (4, [.ref b2, .int (nI t2)])), (b2, .inl (cY 0, 8, .inl (m_nf g2))), (s3, .inr (4, [.ref b3, .int (nI t3)])), (b3, .inl (cY 0, 8, .inl (m_nf g3)))] H3 := hP
  have hD : va_D A [(nx, .inr (6, [.ref fd, .ref tb, .ref pr, .ref ad, .ref rd, .ref wd, .ref h, .int (nI sk)])), (ad, .inr (4, [.ref ab, .int (nI cnt)])), (ab, .inl (cY 0, 8, .inl (m_nf f))), (h, .inr (0, [.ref kp, .int (nI z)])), (kp, .inl (cY 3, 4, .inr (.inr (.inr (.inr (m_k4 s0 s1 s2 s3)))))), (s0, .inr (4, [.ref b0, .int (nI t0)])), (b0, .inl (cY 0, 8, .inl (m_nf g0))), (s1, .inr (4, [.ref b1, .int (nI t1)])), (b1, .inl (cY 0, 8, .inl (m_nf g1))), (s2, .inr (4, [.ref b2, .int (nI t2)])), (b2, .inl (cY 0, 8, .inl (m_nf g2))), (s3, .inr (4, [.ref b3, .int (nI t3)])), (b3, .inl (cY 0, 8, .inl (m_nf g3)))] := hD
  refine lv_istore_n (lv' := [(3, .int (nI (f k))), (0, .ref nx), (1, .int (nI k)), (2, .int (nI j))]) hx hb dX6_exchange_16 rfl hl (by decide) rfl (fun ls hl => ?_)
  refine lv_aload_n hx hb dX6_exchange_17 rfl (lv_at hl 1 rfl) ?_
  refine va_get (D := D) (ci := 6) (v := .ref ad) (C := RX6) (T := TX6) (N := 8) hx hb hts hwd1 hown hK hP 0 rfl rfl 3 (by decide) hwd0 (fun _ h9 => h9) rfl dX6_exchange_18 ?_
  refine lv_iload_n hx hb dX6_exchange_21 rfl (lv_at hl 3 rfl) ?_
  refine m_callVi (As := [.int (nI j)]) (rest := []) C0 hl hP hD hS (c_X4_nimberIn l D cY ad ab cnt f j (by first | assumption | omega | exact nm_lt _ _ | exact np_lt _ _ | decide)) (cwV 1 hts gX6_exchange_X4_nimberIn rfl rfl rfl (by decide +kernel) ⟨Nat.le_of_ble_eq_true rfl, Nat.le_of_ble_eq_true rfl⟩) dX6_exchange_22 [1, 2] rfl rfl 1 rfl rfl rfl rfl (Nat.le_of_ble_eq_true rfl) (Nat.zero_le _) (Nat.zero_le _) (fun _ => rfl) (fun r6 u H5 locs hw hP hD hS => ?_)
  try dsimp only at hw
  obtain rfl := hw
  have hP : va_P D vwCl [(nx, .inr (6, [.ref fd, .ref tb, .ref pr, .ref ad, .ref rd, .ref wd, .ref h, .int (nI sk)])), (ad, .inr (4, [.ref ab, .int (nI cnt)])), (ab, .inl (cY 0, 8, .inl (m_nf f))), (h, .inr (0, [.ref kp, .int (nI z)])), (kp, .inl (cY 3, 4, .inr (.inr (.inr (.inr (m_k4 s0 s1 s2 s3)))))), (s0, .inr (4, [.ref b0, .int (nI t0)])), (b0, .inl (cY 0, 8, .inl (m_nf g0))), (s1, .inr (4, [.ref b1, .int (nI t1)])), (b1, .inl (cY 0, 8, .inl (m_nf g1))), (s2, .inr (4, [.ref b2, .int (nI t2)])), (b2, .inl (cY 0, 8, .inl (m_nf g2))), (s3, .inr (4, [.ref b3, .int (nI t3)])), (b3, .inl (cY 0, 8, .inl (m_nf g3)))] H5 := hP
  have hD : va_D A [(nx, .inr (6, [.ref fd, .ref tb, .ref pr, .ref ad, .ref rd, .ref wd, .ref h, .int (nI sk)])), (ad, .inr (4, [.ref ab, .int (nI cnt)])), (ab, .inl (cY 0, 8, .inl (m_nf f))), (h, .inr (0, [.ref kp, .int (nI z)])), (kp, .inl (cY 3, 4, .inr (.inr (.inr (.inr (m_k4 s0 s1 s2 s3)))))), (s0, .inr (4, [.ref b0, .int (nI t0)])), (b0, .inl (cY 0, 8, .inl (m_nf g0))), (s1, .inr (4, [.ref b1, .int (nI t1)])), (b1, .inl (cY 0, 8, .inl (m_nf g1))), (s2, .inr (4, [.ref b2, .int (nI t2)])), (b2, .inl (cY 0, 8, .inl (m_nf g2))), (s3, .inr (4, [.ref b3, .int (nI t3)])), (b3, .inl (cY 0, 8, .inl (m_nf g3)))] := hD
  refine lv_istore (lv' := [(4, .int (nI (f j))), (3, .int (nI (f k))), (0, .ref nx), (1, .int (nI k)), (2, .int (nI j))]) hx hb dX6_exchange_25 hl (by decide) rfl (fun ls hl => ?_)
  refine lv_aload_n hx hb dX6_exchange_27 rfl (lv_at hl 2 rfl) ?_
  refine va_get (D := D) (ci := 6) (v := .ref h) (C := RX6) (T := TX6) (N := 8) hx hb hts hwd1 hown hK hP 0 rfl rfl 6 (by decide) hwd2 (fun _ h9 => h9) rfl dX6_exchange_28 ?_
  refine lv_aload_n hx hb dX6_exchange_31 rfl (lv_at hl 2 rfl) ?_
  refine va_get (D := D) (ci := 6) (v := .ref ad) (C := RX6) (T := TX6) (N := 8) hx hb hts hwd1 hown hK hP 0 rfl rfl 3 (by decide) hwd0 (fun _ h9 => h9) rfl dX6_exchange_32 ?_
  refine m_callVv (As := [.ref ad]) (rest := []) C0 hl hP hD hS (c_X0_record l D cY h kp z s0 s1 s2 s3 b0 b1 b2 b3 t0 t1 t2 t3 g0 g1 g2 g3 ad ab cnt f (by first | assumption | omega | exact nm_lt _ _ | exact np_lt _ _ | decide) (by first | assumption | omega | exact nm_lt _ _ | exact np_lt _ _ | decide) (by first | assumption | omega | exact nm_lt _ _ | exact np_lt _ _ | decide) (by first | assumption | omega | exact nm_lt _ _ | exact np_lt _ _ | decide) (by first | assumption | omega | exact nm_lt _ _ | exact np_lt _ _ | decide) (by first | assumption | omega | exact nm_lt _ _ | exact np_lt _ _ | decide)) (cwV 1 hts gX6_exchange_X0_record rfl rfl rfl (by decide +kernel) ⟨Nat.le_of_ble_eq_true rfl, Nat.le_of_ble_eq_true rfl⟩) dX6_exchange_35 [3, 4, 5, 6, 7, 8, 9, 10, 11, 12, 1, 2] rfl rfl 3 rfl rfl rfl rfl (Nat.le_of_ble_eq_true rfl) (Nat.zero_le _) (Nat.zero_le _) (fun _ => rfl) (fun u H7 locs hw hP hD hS => ?_)
  try dsimp only at hw
  clear hw
  have hP : va_P D vwCl [(nx, .inr (6, [.ref fd, .ref tb, .ref pr, .ref ad, .ref rd, .ref wd, .ref h, .int (nI sk)])), (ad, .inr (4, [.ref ab, .int (nI cnt)])), (ab, .inl (cY 0, 8, .inl (m_nf f))), (h, .inr (0, [.ref kp, .int (nI (min (z + 1) 4))])), (kp, .inl (cY 3, 4, .inr (.inr (.inr (.inr (m_k4 s0 s1 s2 s3)))))), (s0, .inr (4, [.ref b0, .int (nI cnt)])), (b0, .inl (cY 0, 8, .inl (m_nf f))), (s1, .inr (4, [.ref b1, .int (nI t0)])), (b1, .inl (cY 0, 8, .inl (m_nf g0))), (s2, .inr (4, [.ref b2, .int (nI t1)])), (b2, .inl (cY 0, 8, .inl (m_nf g1))), (s3, .inr (4, [.ref b3, .int (nI t2)])), (b3, .inl (cY 0, 8, .inl (m_nf g2)))] H7 := hP
  have hD : va_D A [(nx, .inr (6, [.ref fd, .ref tb, .ref pr, .ref ad, .ref rd, .ref wd, .ref h, .int (nI sk)])), (ad, .inr (4, [.ref ab, .int (nI cnt)])), (ab, .inl (cY 0, 8, .inl (m_nf f))), (h, .inr (0, [.ref kp, .int (nI (min (z + 1) 4))])), (kp, .inl (cY 3, 4, .inr (.inr (.inr (.inr (m_k4 s0 s1 s2 s3)))))), (s0, .inr (4, [.ref b0, .int (nI cnt)])), (b0, .inl (cY 0, 8, .inl (m_nf f))), (s1, .inr (4, [.ref b1, .int (nI t0)])), (b1, .inl (cY 0, 8, .inl (m_nf g0))), (s2, .inr (4, [.ref b2, .int (nI t1)])), (b2, .inl (cY 0, 8, .inl (m_nf g1))), (s3, .inr (4, [.ref b3, .int (nI t2)])), (b3, .inl (cY 0, 8, .inl (m_nf g2)))] := hD
  refine lv_aload_n hx hb dX6_exchange_38 rfl (lv_at hl 2 rfl) ?_
  refine va_get (D := D) (ci := 6) (v := .ref ad) (C := RX6) (T := TX6) (N := 8) hx hb hts hwd1 hown hK hP 0 rfl rfl 3 (by decide) hwd0 (fun _ h9 => h9) rfl dX6_exchange_39 ?_
  refine lv_iload_n hx hb dX6_exchange_42 rfl (lv_at hl 3 rfl) ?_
  refine lv_iload hx hb dX6_exchange_43 (lv_at hl 0 rfl) ?_
  refine m_callVv (As := [.int (nI k), .int (nI (f j))]) (rest := []) C0 hl hP hD hS (c_X4_put l D cY ad ab cnt f k (f j) (by first | assumption | omega | exact nm_lt _ _ | exact np_lt _ _ | decide)) (cwV 2 hts gX6_exchange_X4_put rfl rfl rfl (by decide +kernel) ⟨Nat.le_of_ble_eq_true rfl, Nat.le_of_ble_eq_true rfl⟩) dX6_exchange_45 [1, 2] rfl rfl 1 rfl rfl rfl rfl (Nat.le_of_ble_eq_true rfl) (Nat.zero_le _) (Nat.zero_le _) (fun _ => rfl) (fun u H8 locs hw hP hD hS => ?_)
  try dsimp only at hw
  clear hw
  have hP : va_P D vwCl [(nx, .inr (6, [.ref fd, .ref tb, .ref pr, .ref ad, .ref rd, .ref wd, .ref h, .int (nI sk)])), (ad, .inr (4, [.ref ab, .int (nI cnt)])), (ab, .inl (cY 0, 8, .inl (m_nf (m_up f k (f j))))), (h, .inr (0, [.ref kp, .int (nI (min (z + 1) 4))])), (kp, .inl (cY 3, 4, .inr (.inr (.inr (.inr (m_k4 s0 s1 s2 s3)))))), (s0, .inr (4, [.ref b0, .int (nI cnt)])), (b0, .inl (cY 0, 8, .inl (m_nf f))), (s1, .inr (4, [.ref b1, .int (nI t0)])), (b1, .inl (cY 0, 8, .inl (m_nf g0))), (s2, .inr (4, [.ref b2, .int (nI t1)])), (b2, .inl (cY 0, 8, .inl (m_nf g1))), (s3, .inr (4, [.ref b3, .int (nI t2)])), (b3, .inl (cY 0, 8, .inl (m_nf g2)))] H8 := hP
  have hD : va_D A [(nx, .inr (6, [.ref fd, .ref tb, .ref pr, .ref ad, .ref rd, .ref wd, .ref h, .int (nI sk)])), (ad, .inr (4, [.ref ab, .int (nI cnt)])), (ab, .inl (cY 0, 8, .inl (m_nf (m_up f k (f j))))), (h, .inr (0, [.ref kp, .int (nI (min (z + 1) 4))])), (kp, .inl (cY 3, 4, .inr (.inr (.inr (.inr (m_k4 s0 s1 s2 s3)))))), (s0, .inr (4, [.ref b0, .int (nI cnt)])), (b0, .inl (cY 0, 8, .inl (m_nf f))), (s1, .inr (4, [.ref b1, .int (nI t0)])), (b1, .inl (cY 0, 8, .inl (m_nf g0))), (s2, .inr (4, [.ref b2, .int (nI t1)])), (b2, .inl (cY 0, 8, .inl (m_nf g1))), (s3, .inr (4, [.ref b3, .int (nI t2)])), (b3, .inl (cY 0, 8, .inl (m_nf g2)))] := hD
  refine lv_aload_n hx hb dX6_exchange_48 rfl (lv_at hl 2 rfl) ?_
  refine va_get (D := D) (ci := 6) (v := .ref ad) (C := RX6) (T := TX6) (N := 8) hx hb hts hwd1 hown hK hP 0 rfl rfl 3 (by decide) hwd0 (fun _ h9 => h9) rfl dX6_exchange_49 ?_
  refine lv_iload_n hx hb dX6_exchange_52 rfl (lv_at hl 4 rfl) ?_
  refine lv_iload_n hx hb dX6_exchange_53 rfl (lv_at hl 1 rfl) ?_
  refine m_callVv (As := [.int (nI j), .int (nI (f k))]) (rest := []) C0 hl hP hD hS (c_X4_put l D cY ad ab cnt (m_up f k (f j)) j (f k) (by first | assumption | omega | exact nm_lt _ _ | exact np_lt _ _ | decide)) (cwV 2 hts gX6_exchange_X4_put rfl rfl rfl (by decide +kernel) ⟨Nat.le_of_ble_eq_true rfl, Nat.le_of_ble_eq_true rfl⟩) dX6_exchange_54 [1, 2] rfl rfl 1 rfl rfl rfl rfl (Nat.le_of_ble_eq_true rfl) (Nat.zero_le _) (Nat.zero_le _) (fun _ => rfl) (fun u H9 locs hw hP hD hS => ?_)
  try dsimp only at hw
  clear hw
  have hP : va_P D vwCl [(nx, .inr (6, [.ref fd, .ref tb, .ref pr, .ref ad, .ref rd, .ref wd, .ref h, .int (nI sk)])), (ad, .inr (4, [.ref ab, .int (nI cnt)])), (ab, .inl (cY 0, 8, .inl (m_nf (m_up (m_up f k (f j)) j (f k))))), (h, .inr (0, [.ref kp, .int (nI (min (z + 1) 4))])), (kp, .inl (cY 3, 4, .inr (.inr (.inr (.inr (m_k4 s0 s1 s2 s3)))))), (s0, .inr (4, [.ref b0, .int (nI cnt)])), (b0, .inl (cY 0, 8, .inl (m_nf f))), (s1, .inr (4, [.ref b1, .int (nI t0)])), (b1, .inl (cY 0, 8, .inl (m_nf g0))), (s2, .inr (4, [.ref b2, .int (nI t1)])), (b2, .inl (cY 0, 8, .inl (m_nf g1))), (s3, .inr (4, [.ref b3, .int (nI t2)])), (b3, .inl (cY 0, 8, .inl (m_nf g2)))] H9 := hP
  have hD : va_D A [(nx, .inr (6, [.ref fd, .ref tb, .ref pr, .ref ad, .ref rd, .ref wd, .ref h, .int (nI sk)])), (ad, .inr (4, [.ref ab, .int (nI cnt)])), (ab, .inl (cY 0, 8, .inl (m_nf (m_up (m_up f k (f j)) j (f k))))), (h, .inr (0, [.ref kp, .int (nI (min (z + 1) 4))])), (kp, .inl (cY 3, 4, .inr (.inr (.inr (.inr (m_k4 s0 s1 s2 s3)))))), (s0, .inr (4, [.ref b0, .int (nI cnt)])), (b0, .inl (cY 0, 8, .inl (m_nf f))), (s1, .inr (4, [.ref b1, .int (nI t0)])), (b1, .inl (cY 0, 8, .inl (m_nf g0))), (s2, .inr (4, [.ref b2, .int (nI t1)])), (b2, .inl (cY 0, 8, .inl (m_nf g1))), (s3, .inr (4, [.ref b3, .int (nI t2)])), (b3, .inl (cY 0, 8, .inl (m_nf g2)))] := hD
  refine lv_iload hx hb dX6_exchange_57 (lv_at hl 0 rfl) ?_
  subst hQ
  exact m_iret C0 hS dX6_exchange_59 (u := ()) hP (by first | trivial | rfl | omega)
set_option maxHeartbeats 4000000 in
set_option maxRecDepth 100000 in
theorem c_X6_type (l : Launch) (D : va_G) (cY : Nat → ClassId) (nx fd tb pr ad rd wd h sk : Nat) (tp sp len sc cur : Nat) (tx : Nat → Nat) (ch : Nat) (hlen : len ≤ 60) (htx : ∀ j, tx j < 65536) (hch : ch < 65536) (hl : len < 60) : m_Mi l yX6_type wsX6_type 1 21 D cY [.ref nx, .int (nI ch)] [(nx, .inr (6, [.ref fd, .ref tb, .ref pr, .ref ad, .ref rd, .ref wd, .ref h, .int (nI sk)])), (pr, .inr (3, [.ref tp, .ref sp, .int (nI len), .int (nI sc), .int (nI cur)])), (tp, .inl (cY 1, 60, .inl (m_nf tx)))] (fun (res : Int32) (u : Unit) => res = nI (len + 1)) (fun (u : Unit) => [(nx, .inr (6, [.ref fd, .ref tb, .ref pr, .ref ad, .ref rd, .ref wd, .ref h, .int (nI sk)])), (pr, .inr (3, [.ref tp, .ref sp, .int (nI (len + 1)), .int (nI sc), .int (nI cur)])), (tp, .inl (cY 1, 60, .inl (m_nf (m_up tx len ch))))]) := by
  refine m_enterI (cc := cX6_type) (maxL := 2) (ret := (some .int)) (by decide +kernel) rfl (Nat.le_of_ble_eq_true rfl) ?_
  intro p e s m below meth c A ls C0 hP hD hl
  obtain ⟨hx, hb, hr, hml, hts, hown, hlocks, hK, hA⟩ := id C0
  generalize hQ : MQ below _ _ s 0 0 A = Q
  have hS : va_S A s.heap s.heap [] := va_S.rf
  have hl : lv_has ls 2 [(0, .ref nx), (1, .int (nI ch))] := hl
  have hwd0 := hts (.fieldLink RX6 26 "NimberField" "program" "LNimberField$Program;") (by decide +kernel)
  have hwd1 := (show ∀ w ∈ u_ws RX6 TX6 8, w ∈ wsX6_type from by decide +kernel)
  refine lv_aload_n hx hb dX6_type_0 rfl (lv_at hl 0 rfl) ?_
  refine va_get (D := D) (ci := 6) (v := .ref pr) (C := RX6) (T := TX6) (N := 8) hx hb hts hwd1 hown hK hP 0 rfl rfl 2 (by decide) hwd0 (fun _ h9 => h9) rfl dX6_type_1 ?_
  refine m_callVi (As := []) (rest := []) C0 hl hP hD hS (c_X3_isFull l D cY pr tp sp len sc cur tx (by first | assumption | omega | exact nm_lt _ _ | exact np_lt _ _ | decide) (by first | assumption | omega | exact nm_lt _ _ | exact np_lt _ _ | decide)) (cwV 0 hts gX6_type_X3_isFull rfl rfl rfl (by decide +kernel) ⟨Nat.le_of_ble_eq_true rfl, Nat.le_of_ble_eq_true rfl⟩) dX6_type_4 [1, 2] rfl rfl 1 rfl rfl rfl rfl (Nat.le_of_ble_eq_true rfl) (Nat.zero_le _) (Nat.zero_le _) (fun _ => rfl) (fun r2 u H1 locs hw hP hD hS => ?_)
  try dsimp only at hw
  obtain rfl := hw
  have hP : va_P D vwCl [(nx, .inr (6, [.ref fd, .ref tb, .ref pr, .ref ad, .ref rd, .ref wd, .ref h, .int (nI sk)])), (pr, .inr (3, [.ref tp, .ref sp, .int (nI len), .int (nI sc), .int (nI cur)])), (tp, .inl (cY 1, 60, .inl (m_nf tx)))] H1 := hP
  have hD : va_D A [(nx, .inr (6, [.ref fd, .ref tb, .ref pr, .ref ad, .ref rd, .ref wd, .ref h, .int (nI sk)])), (pr, .inr (3, [.ref tp, .ref sp, .int (nI len), .int (nI sc), .int (nI cur)])), (tp, .inl (cY 1, 60, .inl (m_nf tx)))] := hD
  refine lv_topi (nm_r (congrArg nI (if_neg (show ¬ 60 ≤ len by omega))) ?_)
  refine lv_if_eq (tgt := 20) hx hb dX6_type_7 (by decide) (fun c7 => ?_) (fun c7 => ?_)
  · refine lv_aload_n hx hb dX6_type_20 rfl (lv_at hl 0 rfl) ?_
    refine va_get (D := D) (ci := 6) (v := .ref pr) (C := RX6) (T := TX6) (N := 8) hx hb hts hwd1 hown hK hP 0 rfl rfl 2 (by decide) hwd0 (fun _ h9 => h9) rfl dX6_type_21 ?_
    refine lv_iload_n hx hb dX6_type_24 rfl (lv_at hl 1 rfl) ?_
    refine m_callVi (As := [.int (nI ch)]) (rest := []) C0 hl hP hD hS (c_X3_append l D cY pr tp sp len sc cur tx ch (by first | assumption | omega | exact nm_lt _ _ | exact np_lt _ _ | decide) (by first | assumption | omega | exact nm_lt _ _ | exact np_lt _ _ | decide) (by first | assumption | omega | exact nm_lt _ _ | exact np_lt _ _ | decide) (by first | assumption | omega | exact nm_lt _ _ | exact np_lt _ _ | decide)) (cwV 1 hts gX6_type_X3_append rfl rfl rfl (by decide +kernel) ⟨Nat.le_of_ble_eq_true rfl, Nat.le_of_ble_eq_true rfl⟩) dX6_type_25 [1, 2] rfl rfl 1 rfl rfl rfl rfl (Nat.le_of_ble_eq_true rfl) (Nat.zero_le _) (Nat.zero_le _) (fun _ => rfl) (fun r4 u H3 locs hw hP hD hS => ?_)
    try dsimp only at hw
    obtain rfl := hw
    have hP : va_P D vwCl [(nx, .inr (6, [.ref fd, .ref tb, .ref pr, .ref ad, .ref rd, .ref wd, .ref h, .int (nI sk)])), (pr, .inr (3, [.ref tp, .ref sp, .int (nI (len + 1)), .int (nI sc), .int (nI cur)])), (tp, .inl (cY 1, 60, .inl (m_nf (m_up tx len ch))))] H3 := hP
    have hD : va_D A [(nx, .inr (6, [.ref fd, .ref tb, .ref pr, .ref ad, .ref rd, .ref wd, .ref h, .int (nI sk)])), (pr, .inr (3, [.ref tp, .ref sp, .int (nI (len + 1)), .int (nI sc), .int (nI cur)])), (tp, .inl (cY 1, 60, .inl (m_nf (m_up tx len ch))))] := hD
    subst hQ
    exact m_iret C0 hS dX6_type_28 (u := ()) hP (by first | trivial | rfl | omega)
  · exact absurd c7 (by decide)
set_option maxHeartbeats 4000000 in
set_option maxRecDepth 100000 in
theorem c_X6_type_x1 (l : Launch) (hfl : l.stackTraces = false) (D : va_G) (cY : Nat → ClassId) (eS : Nat → Nat) (eO : Nat) (nx fd tb pr ad rd wd h sk : Nat) (tp sp len sc cur : Nat) (tx : Nat → Nat) (ch : Nat) (hlen : len ≤ 60) (htx : ∀ j, tx j < 65536) (hch : ch < 65536) (hl : len = 60) : m_Mx l yX6_type wsX6_type 6 96 D cY eS eO [.ref nx, .int (nI ch)] [(nx, .inr (6, [.ref fd, .ref tb, .ref pr, .ref ad, .ref rd, .ref wd, .ref h, .int (nI sk)])), (pr, .inr (3, [.ref tp, .ref sp, .int (nI len), .int (nI sc), .int (nI cur)])), (tp, .inl (cY 1, 60, .inl (m_nf tx)))] e_IS (fun (u : Unit) => [(nx, .inr (6, [.ref fd, .ref tb, .ref pr, .ref ad, .ref rd, .ref wd, .ref h, .int (nI sk)])), (pr, .inr (3, [.ref tp, .ref sp, .int (nI len), .int (nI sc), .int (nI cur)])), (tp, .inl (cY 1, 60, .inl (m_nf tx)))]) := by
  refine m_enterX (cc := cX6_type) (maxL := 2) (ret := (some .int)) (by decide +kernel) rfl (Nat.le_of_ble_eq_true rfl) ?_
  intro p e s m below meth c A ls C0 hnt hE hP hD hl
  obtain ⟨hx, hb, hr, hml, hts, hown, hlocks, hK, hA⟩ := id C0
  obtain ⟨hz1, hz2, ⟨hcIO, hcIA, hcIS⟩, hdcl, ⟨hs0, hs1, hs2, hs3, hs4, hs5, hs6, hs7⟩, ⟨hn1, hn2⟩, ⟨hl0, hl1, hl2, hl3, hl4⟩, hzO, htO⟩ := id hE
  generalize hQ : vx_MQ below _ _ _ s 1 6 A = Q
  have hS : va_S A s.heap s.heap [] := va_S.rf
  have hl : lv_has ls 2 [(0, .ref nx), (1, .int (nI ch))] := hl
  have hwd0 := hts (.fieldLink RX6 26 "NimberField" "program" "LNimberField$Program;") (by decide +kernel)
  have hwd1 := (show ∀ w ∈ u_ws RX6 TX6 8, w ∈ wsX6_type from by decide +kernel)
  have hwd2 := hts (.classLink RX6 74 e_IS) (by decide +kernel)
  have hwd3 := hts (.initialized e_IS) (by decide +kernel)
  refine lv_aload_n hx hb dX6_type_0 rfl (lv_at hl 0 rfl) ?_
  refine va_get (D := D) (ci := 6) (v := .ref pr) (C := RX6) (T := TX6) (N := 8) hx hb hts hwd1 hown hK hP 0 rfl rfl 2 (by decide) hwd0 (fun _ h9 => h9) rfl dX6_type_1 ?_
  refine m_callVi (As := []) (rest := []) C0 hl hP hD hS (c_X3_isFull l D cY pr tp sp len sc cur tx (by first | assumption | omega | exact nm_lt _ _ | exact np_lt _ _ | decide) (by first | assumption | omega | exact nm_lt _ _ | exact np_lt _ _ | decide)) (cwV 0 hts gX6_type_X3_isFull rfl rfl rfl (by decide +kernel) ⟨Nat.le_of_ble_eq_true rfl, Nat.le_of_ble_eq_true rfl⟩) dX6_type_4 [1, 2] rfl rfl 1 rfl rfl rfl rfl (Nat.le_of_ble_eq_true rfl) (Nat.zero_le _) (Nat.zero_le _) (fun _ => rfl) (fun r2 u H1 locs hw hP hD hS => ?_)
  try dsimp only at hw
  obtain rfl := hw
  have hP : va_P D vwCl [(nx, .inr (6, [.ref fd, .ref tb, .ref pr, .ref ad, .ref rd, .ref wd, .ref h, .int (nI sk)])), (pr, .inr (3, [.ref tp, .ref sp, .int (nI len), .int (nI sc), .int (nI cur)])), (tp, .inl (cY 1, 60, .inl (m_nf tx)))] H1 := hP
  have hD : va_D A [(nx, .inr (6, [.ref fd, .ref tb, .ref pr, .ref ad, .ref rd, .ref wd, .ref h, .int (nI sk)])), (pr, .inr (3, [.ref tp, .ref sp, .int (nI len), .int (nI sc), .int (nI cur)])), (tp, .inl (cY 1, 60, .inl (m_nf tx)))] := hD
  refine lv_topi (nm_r (congrArg nI (if_pos (show 60 ≤ len by omega))) ?_)
  refine lv_if_eq (tgt := 20) hx hb dX6_type_7 (by decide) (fun c7 => ?_) (fun c7 => ?_)
  · exact absurd c7 (by decide)
  · subst hQ
    exact m_throw (k := 3) hfl C0 hnt hE hl hP hS (by decide +kernel) hwd2 hwd3 hs3 hcIS (by decide +kernel) (by decide +kernel) (by decide +kernel) dX6_type_10 dX6_type_13 dX6_type_14 dX6_type_16 dX6_type_19 (Nat.le_of_ble_eq_true rfl) (Nat.le_of_ble_eq_true rfl) (Nat.le_of_ble_eq_true rfl) (Nat.le_of_ble_eq_true rfl) () rfl
set_option maxHeartbeats 4000000 in
set_option maxRecDepth 100000 in
theorem c_X6_clearProgram (l : Launch) (D : va_G) (cY : Nat → ClassId) (nx fd tb pr ad rd wd h sk : Nat) (tp sp len sc cur : Nat) (tx : Nat → Nat) (hlen : len ≤ 60) (htx : ∀ j, tx j < 65536) : m_Mi l yX6_clearProgram wsX6_clearProgram 1 21 D cY [.ref nx] [(nx, .inr (6, [.ref fd, .ref tb, .ref pr, .ref ad, .ref rd, .ref wd, .ref h, .int (nI sk)])), (pr, .inr (3, [.ref tp, .ref sp, .int (nI len), .int (nI sc), .int (nI cur)])), (tp, .inl (cY 1, 60, .inl (m_nf tx)))] (fun (res : Int32) (u : Unit) => res = nI len) (fun (u : Unit) => [(nx, .inr (6, [.ref fd, .ref tb, .ref pr, .ref ad, .ref rd, .ref wd, .ref h, .int (nI sk)])), (pr, .inr (3, [.ref tp, .ref sp, .int (nI 0), .int (nI sc), .int (nI cur)])), (tp, .inl (cY 1, 60, .inl (m_nf tx)))]) := by
  refine m_enterI (cc := cX6_clearProgram) (maxL := 1) (ret := (some .int)) (by decide +kernel) rfl (Nat.le_of_ble_eq_true rfl) ?_
  intro p e s m below meth c A ls C0 hP hD hl
  obtain ⟨hx, hb, hr, hml, hts, hown, hlocks, hK, hA⟩ := id C0
  generalize hQ : MQ below _ _ s 0 0 A = Q
  have hS : va_S A s.heap s.heap [] := va_S.rf
  have hl : lv_has ls 1 [(0, .ref nx)] := hl
  have hwd0 := hts (.fieldLink RX6 26 "NimberField" "program" "LNimberField$Program;") (by decide +kernel)
  have hwd1 := (show ∀ w ∈ u_ws RX6 TX6 8, w ∈ wsX6_clearProgram from by decide +kernel)
  refine lv_aload_n hx hb dX6_clearProgram_0 rfl (lv_at hl 0 rfl) ?_
  refine va_get (D := D) (ci := 6) (v := .ref pr) (C := RX6) (T := TX6) (N := 8) hx hb hts hwd1 hown hK hP 0 rfl rfl 2 (by decide) hwd0 (fun _ h9 => h9) rfl dX6_clearProgram_1 ?_
  refine m_callVi (As := []) (rest := []) C0 hl hP hD hS (c_X3_empty l D cY pr tp sp len sc cur tx (by first | assumption | omega | exact nm_lt _ _ | exact np_lt _ _ | decide) (by first | assumption | omega | exact nm_lt _ _ | exact np_lt _ _ | decide)) (cwV 0 hts gX6_clearProgram_X3_empty rfl rfl rfl (by decide +kernel) ⟨Nat.le_of_ble_eq_true rfl, Nat.le_of_ble_eq_true rfl⟩) dX6_clearProgram_4 [1, 2] rfl rfl 1 rfl rfl rfl rfl (Nat.le_of_ble_eq_true rfl) (Nat.zero_le _) (Nat.zero_le _) (fun _ => rfl) (fun r2 u H1 locs hw hP hD hS => ?_)
  try dsimp only at hw
  obtain rfl := hw
  have hP : va_P D vwCl [(nx, .inr (6, [.ref fd, .ref tb, .ref pr, .ref ad, .ref rd, .ref wd, .ref h, .int (nI sk)])), (pr, .inr (3, [.ref tp, .ref sp, .int (nI 0), .int (nI sc), .int (nI cur)])), (tp, .inl (cY 1, 60, .inl (m_nf tx)))] H1 := hP
  have hD : va_D A [(nx, .inr (6, [.ref fd, .ref tb, .ref pr, .ref ad, .ref rd, .ref wd, .ref h, .int (nI sk)])), (pr, .inr (3, [.ref tp, .ref sp, .int (nI 0), .int (nI sc), .int (nI cur)])), (tp, .inl (cY 1, 60, .inl (m_nf tx)))] := hD
  subst hQ
  exact m_iret C0 hS dX6_clearProgram_7 (u := ()) hP (by first | trivial | rfl | omega)
set_option maxHeartbeats 4000000 in
set_option maxRecDepth 100000 in
theorem c_X6_carryOut_x1 (l : Launch) (hfl : l.stackTraces = false) (D : va_G) (cY : Nat → ClassId) (eS : Nat → Nat) (eO : Nat) (nx fd tb pr ad rd wd h sk : Nat) (tp sp len sc cur : Nat) (tx : Nat → Nat) (sa : Nat → Nat) (pt pg pf pe : Nat → Int32) (w : Nat) (hlen : len ≤ 60) (htx : ∀ j, tx j < 65536) (hv : p_prog tx len 15 0 = .inl w) : m_Mx l yX6_carryOut wsX6_carryOut 7 127 D cY eS eO [.ref nx] ([(nx, .inr (6, [.ref fd, .ref tb, .ref pr, .ref ad, .ref rd, .ref wd, .ref h, .int (nI sk)])), (pr, .inr (3, [.ref tp, .ref sp, .int (nI len), .int (nI sc), .int (nI cur)])), (tp, .inl (cY 1, 60, .inl (m_nf tx))), (sp, .inl (cY 4, 15, .inr (.inr (.inr (.inr (m_sa sa))))))] ++ m_pool sa pt pg pf pe) e_IS (fun (u : Nat × Nat × (Nat → Int32) × (Nat → Int32) × (Nat → Int32) × (Nat → Int32)) => ([(nx, .inr (6, [.ref fd, .ref tb, .ref pr, .ref ad, .ref rd, .ref wd, .ref h, .int (nI sk)])), (pr, .inr (3, [.ref tp, .ref sp, .int (nI len), .int (nI u.1), .int (nI u.2.1)])), (tp, .inl (cY 1, 60, .inl (m_nf tx))), (sp, .inl (cY 4, 15, .inr (.inr (.inr (.inr (m_sa sa))))))] ++ m_pool sa u.2.2.1 u.2.2.2.1 u.2.2.2.2.1 u.2.2.2.2.2)) := by
  refine m_enterX (cc := cX6_carryOut) (maxL := 1) (ret := (some .int)) (by decide +kernel) rfl (Nat.le_of_ble_eq_true rfl) ?_
  intro p e s m below meth c A ls C0 hnt hE hP hD hl
  obtain ⟨hx, hb, hr, hml, hts, hown, hlocks, hK, hA⟩ := id C0
  obtain ⟨hz1, hz2, ⟨hcIO, hcIA, hcIS⟩, hdcl, ⟨hs0, hs1, hs2, hs3, hs4, hs5, hs6, hs7⟩, ⟨hn1, hn2⟩, ⟨hl0, hl1, hl2, hl3, hl4⟩, hzO, htO⟩ := id hE
  generalize hQ : vx_MQ below _ _ _ s 1 6 A = Q
  have hS : va_S A s.heap s.heap [] := va_S.rf
  have hl : lv_has ls 1 [(0, .ref nx)] := hl
  refine lv_aload_n hx hb dX6_carryOut_0 rfl (lv_at hl 0 rfl) ?_
  subst hQ
  exact m_callPx (As := []) (rest := []) C0 hnt hE hl hP hD hS (c_X6_requireValidProgram_x l hfl D cY eS eO nx fd tb pr ad rd wd h sk tp sp len sc cur tx sa pt pg pf pe w (by first | assumption | omega | exact nm_lt _ _ | exact np_lt _ _ | decide) (by first | assumption | omega | exact nm_lt _ _ | exact np_lt _ _ | decide) (by first | assumption | omega | exact nm_lt _ _ | exact np_lt _ _ | decide)) (cwV 0 hts gX6_carryOut_X6_requireValidProgram rfl rfl rfl (by decide +kernel) ⟨Nat.le_of_ble_eq_true rfl, Nat.le_of_ble_eq_true rfl⟩) dX6_carryOut_1 [0, 1, 2, 3] rfl rfl 0 rfl rfl rfl rfl (Nat.le_of_ble_eq_true rfl) (Nat.le_of_ble_eq_true rfl) (Nat.le_of_ble_eq_true rfl) (fun _ => rfl) (fun _ => m_pool_fst) (fun u => ⟨u, rfl⟩)
set_option maxHeartbeats 4000000 in
set_option maxRecDepth 100000 in
theorem c_X6_carryOut_x2 (l : Launch) (hfl : l.stackTraces = false) (D : va_G) (cY : Nat → ClassId) (eS : Nat → Nat) (eO : Nat) (nx fd tb pr ad rd wd h sk : Nat) (tp sp len sc cur : Nat) (tx : Nat → Nat) (sa : Nat → Nat) (pt pg pf pe : Nat → Int32) (ab cnt : Nat) (f : Nat → Nat) (rb rc : Nat) (rf : Nat → Nat) (fb : Nat) (bp : Nat → Nat) (ps : List p_St) (hlen : len ≤ 60) (htx : ∀ j, tx j < 65536) (hv : p_prog tx len 15 0 = .inr ps) (hf8 : m_z 8 f) (hf16 : ∀ j, f j < 65536) (hrf8 : m_z 8 rf) (hB : n_bp bp) (htr : ¬ (p_run ps 0 f cnt).1 = -1) : m_Mx l yX6_carryOut wsX6_carryOut 6 139 D cY eS eO [.ref nx] ([(nx, .inr (6, [.ref fd, .ref tb, .ref pr, .ref ad, .ref rd, .ref wd, .ref h, .int (nI sk)])), (pr, .inr (3, [.ref tp, .ref sp, .int (nI len), .int (nI sc), .int (nI cur)])), (tp, .inl (cY 1, 60, .inl (m_nf tx))), (sp, .inl (cY 4, 15, .inr (.inr (.inr (.inr (m_sa sa)))))), (ad, .inr (4, [.ref ab, .int (nI cnt)])), (ab, .inl (cY 0, 8, .inl (m_nf f))), (rd, .inr (4, [.ref rb, .int (nI rc)])), (rb, .inl (cY 0, 8, .inl (m_nf rf))), (fd, .inr (2, [.ref fb])), (fb, .inl (cY 0, 256, .inl (m_nf bp)))] ++ m_pool sa pt pg pf pe) e_IS (fun (u : Nat × Nat × (Nat → Int32) × (Nat → Int32) × (Nat → Int32) × (Nat → Int32) × (Nat → Nat) × Nat) => ([(nx, .inr (6, [.ref fd, .ref tb, .ref pr, .ref ad, .ref rd, .ref wd, .ref h, .int (nI sk)])), (pr, .inr (3, [.ref tp, .ref sp, .int (nI len), .int (nI u.1), .int (nI u.2.1)])), (tp, .inl (cY 1, 60, .inl (m_nf tx))), (sp, .inl (cY 4, 15, .inr (.inr (.inr (.inr (m_sa sa)))))), (ad, .inr (4, [.ref ab, .int (nI cnt)])), (ab, .inl (cY 0, 8, .inl (m_nf f))), (rd, .inr (4, [.ref rb, .int (nI u.2.2.2.2.2.2.2)])), (rb, .inl (cY 0, 8, .inl (m_nf u.2.2.2.2.2.2.1))), (fd, .inr (2, [.ref fb])), (fb, .inl (cY 0, 256, .inl (m_nf bp)))] ++ m_pool sa u.2.2.1 u.2.2.2.1 u.2.2.2.2.1 u.2.2.2.2.2.1)) := by
  refine m_enterX (cc := cX6_carryOut) (maxL := 1) (ret := (some .int)) (by decide +kernel) rfl (Nat.le_of_ble_eq_true rfl) ?_
  intro p e s m below meth c A ls C0 hnt hE hP hD hl
  obtain ⟨hx, hb, hr, hml, hts, hown, hlocks, hK, hA⟩ := id C0
  obtain ⟨hz1, hz2, ⟨hcIO, hcIA, hcIS⟩, hdcl, ⟨hs0, hs1, hs2, hs3, hs4, hs5, hs6, hs7⟩, ⟨hn1, hn2⟩, ⟨hl0, hl1, hl2, hl3, hl4⟩, hzO, htO⟩ := id hE
  generalize hQ : vx_MQ below _ _ _ s 1 6 A = Q
  have hS : va_S A s.heap s.heap [] := va_S.rf
  have hl : lv_has ls 1 [(0, .ref nx)] := hl
  have hwd0 := hts (.classLink RX6 74 e_IS) (by decide +kernel)
  have hwd1 := hts (.initialized e_IS) (by decide +kernel)
  refine lv_aload_n hx hb dX6_carryOut_0 rfl (lv_at hl 0 rfl) ?_
  refine m_callPv (As := []) (rest := []) C0 hl hP hD hS (c_X6_requireValidProgram l D cY nx fd tb pr ad rd wd h sk tp sp len sc cur tx sa pt pg pf pe ps (by first | assumption | omega | exact nm_lt _ _ | exact np_lt _ _ | decide) (by first | assumption | omega | exact nm_lt _ _ | exact np_lt _ _ | decide) (by first | assumption | omega | exact nm_lt _ _ | exact np_lt _ _ | decide)) (cwV 0 hts gX6_carryOut_X6_requireValidProgram rfl rfl rfl (by decide +kernel) ⟨Nat.le_of_ble_eq_true rfl, Nat.le_of_ble_eq_true rfl⟩) dX6_carryOut_1 [0, 1, 2, 3] rfl rfl 0 rfl rfl rfl rfl (Nat.le_of_ble_eq_true rfl) (Nat.zero_le _) (Nat.zero_le _) (fun _ => rfl) (fun _ => m_pool_fst) (fun u H1 locs hw hP hD hS => ?_)
  obtain ⟨sc9_2, cur9_3, pt9_4, pg9_5, pf9_6, pe9_7⟩ := u
  try dsimp only at hw
  obtain ⟨hq8, hq9, hq10, hq11⟩ := hw
  have hP : va_P D vwCl ([(nx, .inr (6, [.ref fd, .ref tb, .ref pr, .ref ad, .ref rd, .ref wd, .ref h, .int (nI sk)])), (pr, .inr (3, [.ref tp, .ref sp, .int (nI len), .int (nI sc9_2), .int (nI cur9_3)])), (tp, .inl (cY 1, 60, .inl (m_nf tx))), (sp, .inl (cY 4, 15, .inr (.inr (.inr (.inr (m_sa sa)))))), (ad, .inr (4, [.ref ab, .int (nI cnt)])), (ab, .inl (cY 0, 8, .inl (m_nf f))), (rd, .inr (4, [.ref rb, .int (nI rc)])), (rb, .inl (cY 0, 8, .inl (m_nf rf))), (fd, .inr (2, [.ref fb])), (fb, .inl (cY 0, 256, .inl (m_nf bp)))] ++ m_pool sa pt9_4 pg9_5 pf9_6 pe9_7) H1 := hP
  have hD : va_D A ([(nx, .inr (6, [.ref fd, .ref tb, .ref pr, .ref ad, .ref rd, .ref wd, .ref h, .int (nI sk)])), (pr, .inr (3, [.ref tp, .ref sp, .int (nI len), .int (nI sc9_2), .int (nI cur9_3)])), (tp, .inl (cY 1, 60, .inl (m_nf tx))), (sp, .inl (cY 4, 15, .inr (.inr (.inr (.inr (m_sa sa)))))), (ad, .inr (4, [.ref ab, .int (nI cnt)])), (ab, .inl (cY 0, 8, .inl (m_nf f))), (rd, .inr (4, [.ref rb, .int (nI rc)])), (rb, .inl (cY 0, 8, .inl (m_nf rf))), (fd, .inr (2, [.ref fb])), (fb, .inl (cY 0, 256, .inl (m_nf bp)))] ++ m_pool sa pt9_4 pg9_5 pf9_6 pe9_7) := hD
  refine lv_aload_n hx hb dX6_carryOut_4 rfl (lv_at hl 0 rfl) ?_
  refine m_callPi (As := []) (rest := []) C0 hl hP hD hS (c_X6_tryProgram l D cY nx fd tb pr ad rd wd h sk tp sp len sc9_2 cur9_3 tx sa pt9_4 pg9_5 pf9_6 pe9_7 ab cnt f rb rc rf fb bp ps (by first | assumption | omega | exact nm_lt _ _ | exact np_lt _ _ | decide) (by first | assumption | omega | exact nm_lt _ _ | exact np_lt _ _ | decide) (by first | assumption | omega | exact nm_lt _ _ | exact np_lt _ _ | decide) (by first | assumption | omega | exact nm_lt _ _ | exact np_lt _ _ | decide) (by first | assumption | omega | exact nm_lt _ _ | exact np_lt _ _ | decide) (by first | assumption | omega | exact nm_lt _ _ | exact np_lt _ _ | decide) (by first | assumption | omega | exact nm_lt _ _ | exact np_lt _ _ | decide)) (cwV 0 hts gX6_carryOut_X6_tryProgram rfl rfl rfl (by decide +kernel) ⟨Nat.le_of_ble_eq_true rfl, Nat.le_of_ble_eq_true rfl⟩) dX6_carryOut_5 [0, 1, 2, 3, 4, 5, 6, 7, 8, 9] rfl rfl 0 rfl rfl rfl rfl (Nat.le_of_ble_eq_true rfl) (Nat.zero_le _) (Nat.zero_le _) (fun _ => rfl) (fun _ => m_pool_fst) (fun r15 u H12 locs hw hP hD hS => ?_)
  obtain ⟨rf9_13, rc9_14⟩ := u
  try dsimp only at hw
  obtain ⟨hq16, hq17, hq18⟩ := hw
  have hP : va_P D vwCl ([(nx, .inr (6, [.ref fd, .ref tb, .ref pr, .ref ad, .ref rd, .ref wd, .ref h, .int (nI sk)])), (pr, .inr (3, [.ref tp, .ref sp, .int (nI len), .int (nI sc9_2), .int (nI cur9_3)])), (tp, .inl (cY 1, 60, .inl (m_nf tx))), (sp, .inl (cY 4, 15, .inr (.inr (.inr (.inr (m_sa sa)))))), (ad, .inr (4, [.ref ab, .int (nI cnt)])), (ab, .inl (cY 0, 8, .inl (m_nf f))), (rd, .inr (4, [.ref rb, .int (nI rc9_14)])), (rb, .inl (cY 0, 8, .inl (m_nf rf9_13))), (fd, .inr (2, [.ref fb])), (fb, .inl (cY 0, 256, .inl (m_nf bp)))] ++ m_pool sa pt9_4 pg9_5 pf9_6 pe9_7) H12 := hP
  have hD : va_D A ([(nx, .inr (6, [.ref fd, .ref tb, .ref pr, .ref ad, .ref rd, .ref wd, .ref h, .int (nI sk)])), (pr, .inr (3, [.ref tp, .ref sp, .int (nI len), .int (nI sc9_2), .int (nI cur9_3)])), (tp, .inl (cY 1, 60, .inl (m_nf tx))), (sp, .inl (cY 4, 15, .inr (.inr (.inr (.inr (m_sa sa)))))), (ad, .inr (4, [.ref ab, .int (nI cnt)])), (ab, .inl (cY 0, 8, .inl (m_nf f))), (rd, .inr (4, [.ref rb, .int (nI rc9_14)])), (rb, .inl (cY 0, 8, .inl (m_nf rf9_13))), (fd, .inr (2, [.ref fb])), (fb, .inl (cY 0, 256, .inl (m_nf bp)))] ++ m_pool sa pt9_4 pg9_5 pf9_6 pe9_7) := hD
  have e1 : r15 = (p_run ps 0 f cnt).1 := congrArg Prod.fst hq16
  rw [e1]
  refine lv_iconst (v := (-1)) hx hb dX6_carryOut_8 (by decide) ?_
  refine lv_icmp_eq (tgt := 22) hx hb dX6_carryOut_9 (by decide) (fun c9 => ?_) (fun c9 => ?_)
  · have c9 := c9
    exfalso; exact htr c9
  · have c9 := c9
    subst hQ
    exact m_throw (k := 5) hfl C0 hnt hE hl hP hS (by decide +kernel) hwd0 hwd1 hs5 hcIS (by decide +kernel) (by decide +kernel) (by decide +kernel) dX6_carryOut_12 dX6_carryOut_15 dX6_carryOut_16 dX6_carryOut_18 dX6_carryOut_21 (Nat.le_of_ble_eq_true rfl) (Nat.le_of_ble_eq_true rfl) (Nat.le_of_ble_eq_true rfl) (Nat.le_of_ble_eq_true rfl) (sc9_2, cur9_3, pt9_4, pg9_5, pf9_6, pe9_7, rf9_13, rc9_14) rfl
set_option maxHeartbeats 4000000 in
set_option maxRecDepth 100000 in
theorem c_X6_carryOut (l : Launch) (D : va_G) (cY : Nat → ClassId) (nx fd tb pr ad rd wd h sk : Nat) (tp sp len sc cur : Nat) (tx : Nat → Nat) (sa : Nat → Nat) (pt pg pf pe : Nat → Int32) (ab cnt : Nat) (f : Nat → Nat) (rb rc : Nat) (rf : Nat → Nat) (fb : Nat) (bp : Nat → Nat) (ps : List p_St) (kp z s0 s1 s2 s3 b0 b1 b2 b3 t0 t1 t2 t3 : Nat) (g0 g1 g2 g3 : Nat → Nat) (lx : p_St) (hlen : len ≤ 60) (htx : ∀ j, tx j < 65536) (hv : p_prog tx len 15 0 = .inr ps) (hf8 : m_z 8 f) (hf16 : ∀ j, f j < 65536) (hrf8 : m_z 8 rf) (hB : n_bp bp) (hg0 : m_z 8 g0) (hg1 : m_z 8 g1) (hg2 : m_z 8 g2) (hg3 : m_z 8 g3) (hz4 : z ≤ 4) (htr : (p_run ps 0 f cnt).1 = -1) (hlx : ps.getLast? = some lx) (hl8 : lx.1 < 8) : m_Mi l yX6_carryOut wsX6_carryOut 6 139 D cY [.ref nx] ([(nx, .inr (6, [.ref fd, .ref tb, .ref pr, .ref ad, .ref rd, .ref wd, .ref h, .int (nI sk)])), (pr, .inr (3, [.ref tp, .ref sp, .int (nI len), .int (nI sc), .int (nI cur)])), (tp, .inl (cY 1, 60, .inl (m_nf tx))), (sp, .inl (cY 4, 15, .inr (.inr (.inr (.inr (m_sa sa)))))), (ad, .inr (4, [.ref ab, .int (nI cnt)])), (ab, .inl (cY 0, 8, .inl (m_nf f))), (rd, .inr (4, [.ref rb, .int (nI rc)])), (rb, .inl (cY 0, 8, .inl (m_nf rf))), (fd, .inr (2, [.ref fb])), (fb, .inl (cY 0, 256, .inl (m_nf bp))), (h, .inr (0, [.ref kp, .int (nI z)])), (kp, .inl (cY 3, 4, .inr (.inr (.inr (.inr (m_k4 s0 s1 s2 s3)))))), (s0, .inr (4, [.ref b0, .int (nI t0)])), (b0, .inl (cY 0, 8, .inl (m_nf g0))), (s1, .inr (4, [.ref b1, .int (nI t1)])), (b1, .inl (cY 0, 8, .inl (m_nf g1))), (s2, .inr (4, [.ref b2, .int (nI t2)])), (b2, .inl (cY 0, 8, .inl (m_nf g2))), (s3, .inr (4, [.ref b3, .int (nI t3)])), (b3, .inl (cY 0, 8, .inl (m_nf g3)))] ++ m_pool sa pt pg pf pe) (fun (res : Int32) (u : Nat × Nat × (Nat → Int32) × (Nat → Int32) × (Nat → Int32) × (Nat → Int32)) => res = nI ((p_run ps 0 f cnt).2.1 lx.1)) (fun (u : Nat × Nat × (Nat → Int32) × (Nat → Int32) × (Nat → Int32) × (Nat → Int32)) => ([(nx, .inr (6, [.ref fd, .ref tb, .ref pr, .ref ad, .ref rd, .ref wd, .ref h, .int (nI sk)])), (pr, .inr (3, [.ref tp, .ref sp, .int (nI len), .int (nI u.1), .int (nI u.2.1)])), (tp, .inl (cY 1, 60, .inl (m_nf tx))), (sp, .inl (cY 4, 15, .inr (.inr (.inr (.inr (m_sa sa)))))), (ad, .inr (4, [.ref ab, .int (nI ((p_run ps 0 f cnt).2.2))])), (ab, .inl (cY 0, 8, .inl (m_nf ((p_run ps 0 f cnt).2.1)))), (rd, .inr (4, [.ref rb, .int (nI ((p_run ps 0 f cnt).2.2))])), (rb, .inl (cY 0, 8, .inl (m_nf ((p_run ps 0 f cnt).2.1)))), (fd, .inr (2, [.ref fb])), (fb, .inl (cY 0, 256, .inl (m_nf bp))), (h, .inr (0, [.ref kp, .int (nI (min (z + 1) 4))])), (kp, .inl (cY 3, 4, .inr (.inr (.inr (.inr (m_k4 s0 s1 s2 s3)))))), (s0, .inr (4, [.ref b0, .int (nI cnt)])), (b0, .inl (cY 0, 8, .inl (m_nf f))), (s1, .inr (4, [.ref b1, .int (nI t0)])), (b1, .inl (cY 0, 8, .inl (m_nf g0))), (s2, .inr (4, [.ref b2, .int (nI t1)])), (b2, .inl (cY 0, 8, .inl (m_nf g1))), (s3, .inr (4, [.ref b3, .int (nI t2)])), (b3, .inl (cY 0, 8, .inl (m_nf g2)))] ++ m_pool sa u.2.2.1 u.2.2.2.1 u.2.2.2.2.1 u.2.2.2.2.2)) := by
  refine m_enterI (cc := cX6_carryOut) (maxL := 1) (ret := (some .int)) (by decide +kernel) rfl (Nat.le_of_ble_eq_true rfl) ?_
  intro p e s m below meth c A ls C0 hP hD hl
  obtain ⟨hx, hb, hr, hml, hts, hown, hlocks, hK, hA⟩ := id C0
  generalize hQ : MQ below _ _ s 0 0 A = Q
  have hS : va_S A s.heap s.heap [] := va_S.rf
  have hl : lv_has ls 1 [(0, .ref nx)] := hl
  have hwd0 := hts (.fieldLink RX6 46 "NimberField" "history" "LNimberField$History;") (by decide +kernel)
  have hwd1 := (show ∀ w ∈ u_ws RX6 TX6 8, w ∈ wsX6_carryOut from by decide +kernel)
  have hwd2 := hts (.fieldLink RX6 33 "NimberField" "state" "LNimberField$State;") (by decide +kernel)
  have hwd3 := hts (.fieldLink RX6 37 "NimberField" "trial" "LNimberField$State;") (by decide +kernel)
  have hwd4 := hts (.fieldLink RX6 26 "NimberField" "program" "LNimberField$Program;") (by decide +kernel)
  refine lv_aload_n hx hb dX6_carryOut_0 rfl (lv_at hl 0 rfl) ?_
  refine m_callPv (As := []) (rest := []) C0 hl hP hD hS (c_X6_requireValidProgram l D cY nx fd tb pr ad rd wd h sk tp sp len sc cur tx sa pt pg pf pe ps (by first | assumption | omega | exact nm_lt _ _ | exact np_lt _ _ | decide) (by first | assumption | omega | exact nm_lt _ _ | exact np_lt _ _ | decide) (by first | assumption | omega | exact nm_lt _ _ | exact np_lt _ _ | decide)) (cwV 0 hts gX6_carryOut_X6_requireValidProgram rfl rfl rfl (by decide +kernel) ⟨Nat.le_of_ble_eq_true rfl, Nat.le_of_ble_eq_true rfl⟩) dX6_carryOut_1 [0, 1, 2, 3] rfl rfl 0 rfl rfl rfl rfl (Nat.le_of_ble_eq_true rfl) (Nat.zero_le _) (Nat.zero_le _) (fun _ => rfl) (fun _ => m_pool_fst) (fun u H1 locs hw hP hD hS => ?_)
  obtain ⟨sc9_2, cur9_3, pt9_4, pg9_5, pf9_6, pe9_7⟩ := u
  try dsimp only at hw
  obtain ⟨hq8, hq9, hq10, hq11⟩ := hw
  have hP : va_P D vwCl ([(nx, .inr (6, [.ref fd, .ref tb, .ref pr, .ref ad, .ref rd, .ref wd, .ref h, .int (nI sk)])), (pr, .inr (3, [.ref tp, .ref sp, .int (nI len), .int (nI sc9_2), .int (nI cur9_3)])), (tp, .inl (cY 1, 60, .inl (m_nf tx))), (sp, .inl (cY 4, 15, .inr (.inr (.inr (.inr (m_sa sa)))))), (ad, .inr (4, [.ref ab, .int (nI cnt)])), (ab, .inl (cY 0, 8, .inl (m_nf f))), (rd, .inr (4, [.ref rb, .int (nI rc)])), (rb, .inl (cY 0, 8, .inl (m_nf rf))), (fd, .inr (2, [.ref fb])), (fb, .inl (cY 0, 256, .inl (m_nf bp))), (h, .inr (0, [.ref kp, .int (nI z)])), (kp, .inl (cY 3, 4, .inr (.inr (.inr (.inr (m_k4 s0 s1 s2 s3)))))), (s0, .inr (4, [.ref b0, .int (nI t0)])), (b0, .inl (cY 0, 8, .inl (m_nf g0))), (s1, .inr (4, [.ref b1, .int (nI t1)])), (b1, .inl (cY 0, 8, .inl (m_nf g1))), (s2, .inr (4, [.ref b2, .int (nI t2)])), (b2, .inl (cY 0, 8, .inl (m_nf g2))), (s3, .inr (4, [.ref b3, .int (nI t3)])), (b3, .inl (cY 0, 8, .inl (m_nf g3)))] ++ m_pool sa pt9_4 pg9_5 pf9_6 pe9_7) H1 := hP
  have hD : va_D A ([(nx, .inr (6, [.ref fd, .ref tb, .ref pr, .ref ad, .ref rd, .ref wd, .ref h, .int (nI sk)])), (pr, .inr (3, [.ref tp, .ref sp, .int (nI len), .int (nI sc9_2), .int (nI cur9_3)])), (tp, .inl (cY 1, 60, .inl (m_nf tx))), (sp, .inl (cY 4, 15, .inr (.inr (.inr (.inr (m_sa sa)))))), (ad, .inr (4, [.ref ab, .int (nI cnt)])), (ab, .inl (cY 0, 8, .inl (m_nf f))), (rd, .inr (4, [.ref rb, .int (nI rc)])), (rb, .inl (cY 0, 8, .inl (m_nf rf))), (fd, .inr (2, [.ref fb])), (fb, .inl (cY 0, 256, .inl (m_nf bp))), (h, .inr (0, [.ref kp, .int (nI z)])), (kp, .inl (cY 3, 4, .inr (.inr (.inr (.inr (m_k4 s0 s1 s2 s3)))))), (s0, .inr (4, [.ref b0, .int (nI t0)])), (b0, .inl (cY 0, 8, .inl (m_nf g0))), (s1, .inr (4, [.ref b1, .int (nI t1)])), (b1, .inl (cY 0, 8, .inl (m_nf g1))), (s2, .inr (4, [.ref b2, .int (nI t2)])), (b2, .inl (cY 0, 8, .inl (m_nf g2))), (s3, .inr (4, [.ref b3, .int (nI t3)])), (b3, .inl (cY 0, 8, .inl (m_nf g3)))] ++ m_pool sa pt9_4 pg9_5 pf9_6 pe9_7) := hD
  refine lv_aload_n hx hb dX6_carryOut_4 rfl (lv_at hl 0 rfl) ?_
  refine m_callPi (As := []) (rest := []) C0 hl hP hD hS (c_X6_tryProgram l D cY nx fd tb pr ad rd wd h sk tp sp len sc9_2 cur9_3 tx sa pt9_4 pg9_5 pf9_6 pe9_7 ab cnt f rb rc rf fb bp ps (by first | assumption | omega | exact nm_lt _ _ | exact np_lt _ _ | decide) (by first | assumption | omega | exact nm_lt _ _ | exact np_lt _ _ | decide) (by first | assumption | omega | exact nm_lt _ _ | exact np_lt _ _ | decide) (by first | assumption | omega | exact nm_lt _ _ | exact np_lt _ _ | decide) (by first | assumption | omega | exact nm_lt _ _ | exact np_lt _ _ | decide) (by first | assumption | omega | exact nm_lt _ _ | exact np_lt _ _ | decide) (by first | assumption | omega | exact nm_lt _ _ | exact np_lt _ _ | decide)) (cwV 0 hts gX6_carryOut_X6_tryProgram rfl rfl rfl (by decide +kernel) ⟨Nat.le_of_ble_eq_true rfl, Nat.le_of_ble_eq_true rfl⟩) dX6_carryOut_5 [0, 1, 2, 3, 4, 5, 6, 7, 8, 9] rfl rfl 0 rfl rfl rfl rfl (Nat.le_of_ble_eq_true rfl) (Nat.zero_le _) (Nat.zero_le _) (fun _ => rfl) (fun _ => m_pool_fst) (fun r15 u H12 locs hw hP hD hS => ?_)
  obtain ⟨rf9_13, rc9_14⟩ := u
  try dsimp only at hw
  obtain ⟨hq16, hq17, hq18⟩ := hw
  have hP : va_P D vwCl ([(nx, .inr (6, [.ref fd, .ref tb, .ref pr, .ref ad, .ref rd, .ref wd, .ref h, .int (nI sk)])), (pr, .inr (3, [.ref tp, .ref sp, .int (nI len), .int (nI sc9_2), .int (nI cur9_3)])), (tp, .inl (cY 1, 60, .inl (m_nf tx))), (sp, .inl (cY 4, 15, .inr (.inr (.inr (.inr (m_sa sa)))))), (ad, .inr (4, [.ref ab, .int (nI cnt)])), (ab, .inl (cY 0, 8, .inl (m_nf f))), (rd, .inr (4, [.ref rb, .int (nI rc9_14)])), (rb, .inl (cY 0, 8, .inl (m_nf rf9_13))), (fd, .inr (2, [.ref fb])), (fb, .inl (cY 0, 256, .inl (m_nf bp))), (h, .inr (0, [.ref kp, .int (nI z)])), (kp, .inl (cY 3, 4, .inr (.inr (.inr (.inr (m_k4 s0 s1 s2 s3)))))), (s0, .inr (4, [.ref b0, .int (nI t0)])), (b0, .inl (cY 0, 8, .inl (m_nf g0))), (s1, .inr (4, [.ref b1, .int (nI t1)])), (b1, .inl (cY 0, 8, .inl (m_nf g1))), (s2, .inr (4, [.ref b2, .int (nI t2)])), (b2, .inl (cY 0, 8, .inl (m_nf g2))), (s3, .inr (4, [.ref b3, .int (nI t3)])), (b3, .inl (cY 0, 8, .inl (m_nf g3)))] ++ m_pool sa pt9_4 pg9_5 pf9_6 pe9_7) H12 := hP
  have hD : va_D A ([(nx, .inr (6, [.ref fd, .ref tb, .ref pr, .ref ad, .ref rd, .ref wd, .ref h, .int (nI sk)])), (pr, .inr (3, [.ref tp, .ref sp, .int (nI len), .int (nI sc9_2), .int (nI cur9_3)])), (tp, .inl (cY 1, 60, .inl (m_nf tx))), (sp, .inl (cY 4, 15, .inr (.inr (.inr (.inr (m_sa sa)))))), (ad, .inr (4, [.ref ab, .int (nI cnt)])), (ab, .inl (cY 0, 8, .inl (m_nf f))), (rd, .inr (4, [.ref rb, .int (nI rc9_14)])), (rb, .inl (cY 0, 8, .inl (m_nf rf9_13))), (fd, .inr (2, [.ref fb])), (fb, .inl (cY 0, 256, .inl (m_nf bp))), (h, .inr (0, [.ref kp, .int (nI z)])), (kp, .inl (cY 3, 4, .inr (.inr (.inr (.inr (m_k4 s0 s1 s2 s3)))))), (s0, .inr (4, [.ref b0, .int (nI t0)])), (b0, .inl (cY 0, 8, .inl (m_nf g0))), (s1, .inr (4, [.ref b1, .int (nI t1)])), (b1, .inl (cY 0, 8, .inl (m_nf g1))), (s2, .inr (4, [.ref b2, .int (nI t2)])), (b2, .inl (cY 0, 8, .inl (m_nf g2))), (s3, .inr (4, [.ref b3, .int (nI t3)])), (b3, .inl (cY 0, 8, .inl (m_nf g3)))] ++ m_pool sa pt9_4 pg9_5 pf9_6 pe9_7) := hD
  have e1 : r15 = -1 := (congrArg Prod.fst hq16).trans htr
  have e2 : rf9_13 = (p_run ps 0 f cnt).2.1 := congrArg (fun q => q.2.1) hq16
  have e3 : rc9_14 = (p_run ps 0 f cnt).2.2 := congrArg (fun q => q.2.2) hq16
  have e4 : m_z 8 (p_run ps 0 f cnt).2.1 := e2 ▸ hq17
  rw [e2, e3] at hP hD
  have hP : va_P D vwCl ([(nx, .inr (6, [.ref fd, .ref tb, .ref pr, .ref ad, .ref rd, .ref wd, .ref h, .int (nI sk)])), (pr, .inr (3, [.ref tp, .ref sp, .int (nI len), .int (nI sc9_2), .int (nI cur9_3)])), (tp, .inl (cY 1, 60, .inl (m_nf tx))), (sp, .inl (cY 4, 15, .inr (.inr (.inr (.inr (m_sa sa)))))), (ad, .inr (4, [.ref ab, .int (nI cnt)])), (ab, .inl (cY 0, 8, .inl (m_nf f))), (rd, .inr (4, [.ref rb, .int (nI ((p_run ps 0 f cnt).2.2))])), (rb, .inl (cY 0, 8, .inl (m_nf ((p_run ps 0 f cnt).2.1)))), (fd, .inr (2, [.ref fb])), (fb, .inl (cY 0, 256, .inl (m_nf bp))), (h, .inr (0, [.ref kp, .int (nI z)])), (kp, .inl (cY 3, 4, .inr (.inr (.inr (.inr (m_k4 s0 s1 s2 s3)))))), (s0, .inr (4, [.ref b0, .int (nI t0)])), (b0, .inl (cY 0, 8, .inl (m_nf g0))), (s1, .inr (4, [.ref b1, .int (nI t1)])), (b1, .inl (cY 0, 8, .inl (m_nf g1))), (s2, .inr (4, [.ref b2, .int (nI t2)])), (b2, .inl (cY 0, 8, .inl (m_nf g2))), (s3, .inr (4, [.ref b3, .int (nI t3)])), (b3, .inl (cY 0, 8, .inl (m_nf g3)))] ++ m_pool sa pt9_4 pg9_5 pf9_6 pe9_7) H12 := hP
  have hD : va_D A ([(nx, .inr (6, [.ref fd, .ref tb, .ref pr, .ref ad, .ref rd, .ref wd, .ref h, .int (nI sk)])), (pr, .inr (3, [.ref tp, .ref sp, .int (nI len), .int (nI sc9_2), .int (nI cur9_3)])), (tp, .inl (cY 1, 60, .inl (m_nf tx))), (sp, .inl (cY 4, 15, .inr (.inr (.inr (.inr (m_sa sa)))))), (ad, .inr (4, [.ref ab, .int (nI cnt)])), (ab, .inl (cY 0, 8, .inl (m_nf f))), (rd, .inr (4, [.ref rb, .int (nI ((p_run ps 0 f cnt).2.2))])), (rb, .inl (cY 0, 8, .inl (m_nf ((p_run ps 0 f cnt).2.1)))), (fd, .inr (2, [.ref fb])), (fb, .inl (cY 0, 256, .inl (m_nf bp))), (h, .inr (0, [.ref kp, .int (nI z)])), (kp, .inl (cY 3, 4, .inr (.inr (.inr (.inr (m_k4 s0 s1 s2 s3)))))), (s0, .inr (4, [.ref b0, .int (nI t0)])), (b0, .inl (cY 0, 8, .inl (m_nf g0))), (s1, .inr (4, [.ref b1, .int (nI t1)])), (b1, .inl (cY 0, 8, .inl (m_nf g1))), (s2, .inr (4, [.ref b2, .int (nI t2)])), (b2, .inl (cY 0, 8, .inl (m_nf g2))), (s3, .inr (4, [.ref b3, .int (nI t3)])), (b3, .inl (cY 0, 8, .inl (m_nf g3)))] ++ m_pool sa pt9_4 pg9_5 pf9_6 pe9_7) := hD
  rw [e1]
  refine lv_iconst (v := (-1)) hx hb dX6_carryOut_8 (by decide) ?_
  refine lv_icmp_eq (tgt := 22) hx hb dX6_carryOut_9 (by decide) (fun c9 => ?_) (fun c9 => ?_)
  · have c9 := c9
    refine lv_aload_n hx hb dX6_carryOut_22 rfl (lv_at hl 0 rfl) ?_
    refine va_get (D := D) (ci := 6) (v := .ref h) (C := RX6) (T := TX6) (N := 8) hx hb hts hwd1 hown hK hP 0 rfl rfl 6 (by decide) hwd0 (fun _ h9 => h9) rfl dX6_carryOut_23 ?_
    refine lv_aload_n hx hb dX6_carryOut_26 rfl (lv_at hl 0 rfl) ?_
    refine va_get (D := D) (ci := 6) (v := .ref ad) (C := RX6) (T := TX6) (N := 8) hx hb hts hwd1 hown hK hP 0 rfl rfl 3 (by decide) hwd2 (fun _ h9 => h9) rfl dX6_carryOut_27 ?_
    refine m_callVv (As := [.ref ad]) (rest := []) C0 hl hP hD hS (c_X0_record l D cY h kp z s0 s1 s2 s3 b0 b1 b2 b3 t0 t1 t2 t3 g0 g1 g2 g3 ad ab cnt f (by first | assumption | omega | exact nm_lt _ _ | exact np_lt _ _ | decide) (by first | assumption | omega | exact nm_lt _ _ | exact np_lt _ _ | decide) (by first | assumption | omega | exact nm_lt _ _ | exact np_lt _ _ | decide) (by first | assumption | omega | exact nm_lt _ _ | exact np_lt _ _ | decide) (by first | assumption | omega | exact nm_lt _ _ | exact np_lt _ _ | decide) (by first | assumption | omega | exact nm_lt _ _ | exact np_lt _ _ | decide)) (cwV 1 hts gX6_carryOut_X0_record rfl rfl rfl (by decide +kernel) ⟨Nat.le_of_ble_eq_true rfl, Nat.le_of_ble_eq_true rfl⟩) dX6_carryOut_30 [10, 11, 12, 13, 14, 15, 16, 17, 18, 19, 4, 5] rfl rfl 10 rfl rfl rfl rfl (Nat.le_of_ble_eq_true rfl) (Nat.zero_le _) (Nat.zero_le _) (fun _ => rfl) (fun u H19 locs hw hP hD hS => ?_)
    try dsimp only at hw
    clear hw
    have hP : va_P D vwCl ([(nx, .inr (6, [.ref fd, .ref tb, .ref pr, .ref ad, .ref rd, .ref wd, .ref h, .int (nI sk)])), (pr, .inr (3, [.ref tp, .ref sp, .int (nI len), .int (nI sc9_2), .int (nI cur9_3)])), (tp, .inl (cY 1, 60, .inl (m_nf tx))), (sp, .inl (cY 4, 15, .inr (.inr (.inr (.inr (m_sa sa)))))), (ad, .inr (4, [.ref ab, .int (nI cnt)])), (ab, .inl (cY 0, 8, .inl (m_nf f))), (rd, .inr (4, [.ref rb, .int (nI ((p_run ps 0 f cnt).2.2))])), (rb, .inl (cY 0, 8, .inl (m_nf ((p_run ps 0 f cnt).2.1)))), (fd, .inr (2, [.ref fb])), (fb, .inl (cY 0, 256, .inl (m_nf bp))), (h, .inr (0, [.ref kp, .int (nI (min (z + 1) 4))])), (kp, .inl (cY 3, 4, .inr (.inr (.inr (.inr (m_k4 s0 s1 s2 s3)))))), (s0, .inr (4, [.ref b0, .int (nI cnt)])), (b0, .inl (cY 0, 8, .inl (m_nf f))), (s1, .inr (4, [.ref b1, .int (nI t0)])), (b1, .inl (cY 0, 8, .inl (m_nf g0))), (s2, .inr (4, [.ref b2, .int (nI t1)])), (b2, .inl (cY 0, 8, .inl (m_nf g1))), (s3, .inr (4, [.ref b3, .int (nI t2)])), (b3, .inl (cY 0, 8, .inl (m_nf g2)))] ++ m_pool sa pt9_4 pg9_5 pf9_6 pe9_7) H19 := hP
    have hD : va_D A ([(nx, .inr (6, [.ref fd, .ref tb, .ref pr, .ref ad, .ref rd, .ref wd, .ref h, .int (nI sk)])), (pr, .inr (3, [.ref tp, .ref sp, .int (nI len), .int (nI sc9_2), .int (nI cur9_3)])), (tp, .inl (cY 1, 60, .inl (m_nf tx))), (sp, .inl (cY 4, 15, .inr (.inr (.inr (.inr (m_sa sa)))))), (ad, .inr (4, [.ref ab, .int (nI cnt)])), (ab, .inl (cY 0, 8, .inl (m_nf f))), (rd, .inr (4, [.ref rb, .int (nI ((p_run ps 0 f cnt).2.2))])), (rb, .inl (cY 0, 8, .inl (m_nf ((p_run ps 0 f cnt).2.1)))), (fd, .inr (2, [.ref fb])), (fb, .inl (cY 0, 256, .inl (m_nf bp))), (h, .inr (0, [.ref kp, .int (nI (min (z + 1) 4))])), (kp, .inl (cY 3, 4, .inr (.inr (.inr (.inr (m_k4 s0 s1 s2 s3)))))), (s0, .inr (4, [.ref b0, .int (nI cnt)])), (b0, .inl (cY 0, 8, .inl (m_nf f))), (s1, .inr (4, [.ref b1, .int (nI t0)])), (b1, .inl (cY 0, 8, .inl (m_nf g0))), (s2, .inr (4, [.ref b2, .int (nI t1)])), (b2, .inl (cY 0, 8, .inl (m_nf g1))), (s3, .inr (4, [.ref b3, .int (nI t2)])), (b3, .inl (cY 0, 8, .inl (m_nf g2)))] ++ m_pool sa pt9_4 pg9_5 pf9_6 pe9_7) := hD
    refine lv_aload_n hx hb dX6_carryOut_33 rfl (lv_at hl 0 rfl) ?_
    refine va_get (D := D) (ci := 6) (v := .ref ad) (C := RX6) (T := TX6) (N := 8) hx hb hts hwd1 hown hK hP 0 rfl rfl 3 (by decide) hwd2 (fun _ h9 => h9) rfl dX6_carryOut_34 ?_
    refine lv_aload_n hx hb dX6_carryOut_37 rfl (lv_at hl 0 rfl) ?_
    refine va_get (D := D) (ci := 6) (v := .ref rd) (C := RX6) (T := TX6) (N := 8) hx hb hts hwd1 hown hK hP 0 rfl rfl 4 (by decide) hwd3 (fun _ h9 => h9) rfl dX6_carryOut_38 ?_
    refine m_callVv (As := [.ref rd]) (rest := []) C0 hl hP hD hS (c_X4_copyFrom l D cY ad ab cnt f rd rb ((p_run ps 0 f cnt).2.2) ((p_run ps 0 f cnt).2.1) (by first | assumption | omega | exact nm_lt _ _ | exact np_lt _ _ | decide) (by first | assumption | omega | exact nm_lt _ _ | exact np_lt _ _ | decide)) (cwV 1 hts gX6_carryOut_X4_copyFrom rfl rfl rfl (by decide +kernel) ⟨Nat.le_of_ble_eq_true rfl, Nat.le_of_ble_eq_true rfl⟩) dX6_carryOut_41 [4, 5, 6, 7] rfl rfl 4 rfl rfl rfl rfl (Nat.le_of_ble_eq_true rfl) (Nat.zero_le _) (Nat.zero_le _) (fun _ => rfl) (fun u H20 locs hw hP hD hS => ?_)
    try dsimp only at hw
    clear hw
    have hP : va_P D vwCl ([(nx, .inr (6, [.ref fd, .ref tb, .ref pr, .ref ad, .ref rd, .ref wd, .ref h, .int (nI sk)])), (pr, .inr (3, [.ref tp, .ref sp, .int (nI len), .int (nI sc9_2), .int (nI cur9_3)])), (tp, .inl (cY 1, 60, .inl (m_nf tx))), (sp, .inl (cY 4, 15, .inr (.inr (.inr (.inr (m_sa sa)))))), (ad, .inr (4, [.ref ab, .int (nI ((p_run ps 0 f cnt).2.2))])), (ab, .inl (cY 0, 8, .inl (m_nf ((p_run ps 0 f cnt).2.1)))), (rd, .inr (4, [.ref rb, .int (nI ((p_run ps 0 f cnt).2.2))])), (rb, .inl (cY 0, 8, .inl (m_nf ((p_run ps 0 f cnt).2.1)))), (fd, .inr (2, [.ref fb])), (fb, .inl (cY 0, 256, .inl (m_nf bp))), (h, .inr (0, [.ref kp, .int (nI (min (z + 1) 4))])), (kp, .inl (cY 3, 4, .inr (.inr (.inr (.inr (m_k4 s0 s1 s2 s3)))))), (s0, .inr (4, [.ref b0, .int (nI cnt)])), (b0, .inl (cY 0, 8, .inl (m_nf f))), (s1, .inr (4, [.ref b1, .int (nI t0)])), (b1, .inl (cY 0, 8, .inl (m_nf g0))), (s2, .inr (4, [.ref b2, .int (nI t1)])), (b2, .inl (cY 0, 8, .inl (m_nf g1))), (s3, .inr (4, [.ref b3, .int (nI t2)])), (b3, .inl (cY 0, 8, .inl (m_nf g2)))] ++ m_pool sa pt9_4 pg9_5 pf9_6 pe9_7) H20 := hP
    have hD : va_D A ([(nx, .inr (6, [.ref fd, .ref tb, .ref pr, .ref ad, .ref rd, .ref wd, .ref h, .int (nI sk)])), (pr, .inr (3, [.ref tp, .ref sp, .int (nI len), .int (nI sc9_2), .int (nI cur9_3)])), (tp, .inl (cY 1, 60, .inl (m_nf tx))), (sp, .inl (cY 4, 15, .inr (.inr (.inr (.inr (m_sa sa)))))), (ad, .inr (4, [.ref ab, .int (nI ((p_run ps 0 f cnt).2.2))])), (ab, .inl (cY 0, 8, .inl (m_nf ((p_run ps 0 f cnt).2.1)))), (rd, .inr (4, [.ref rb, .int (nI ((p_run ps 0 f cnt).2.2))])), (rb, .inl (cY 0, 8, .inl (m_nf ((p_run ps 0 f cnt).2.1)))), (fd, .inr (2, [.ref fb])), (fb, .inl (cY 0, 256, .inl (m_nf bp))), (h, .inr (0, [.ref kp, .int (nI (min (z + 1) 4))])), (kp, .inl (cY 3, 4, .inr (.inr (.inr (.inr (m_k4 s0 s1 s2 s3)))))), (s0, .inr (4, [.ref b0, .int (nI cnt)])), (b0, .inl (cY 0, 8, .inl (m_nf f))), (s1, .inr (4, [.ref b1, .int (nI t0)])), (b1, .inl (cY 0, 8, .inl (m_nf g0))), (s2, .inr (4, [.ref b2, .int (nI t1)])), (b2, .inl (cY 0, 8, .inl (m_nf g1))), (s3, .inr (4, [.ref b3, .int (nI t2)])), (b3, .inl (cY 0, 8, .inl (m_nf g2)))] ++ m_pool sa pt9_4 pg9_5 pf9_6 pe9_7) := hD
    refine lv_aload_n hx hb dX6_carryOut_44 rfl (lv_at hl 0 rfl) ?_
    refine va_get (D := D) (ci := 6) (v := .ref ad) (C := RX6) (T := TX6) (N := 8) hx hb hts hwd1 hown hK hP 0 rfl rfl 3 (by decide) hwd2 (fun _ h9 => h9) rfl dX6_carryOut_45 ?_
    refine lv_aload_n hx hb dX6_carryOut_48 rfl (lv_at hl 0 rfl) ?_
    refine va_get (D := D) (ci := 6) (v := .ref pr) (C := RX6) (T := TX6) (N := 8) hx hb hts hwd1 hown hK hP 0 rfl rfl 2 (by decide) hwd4 (fun _ h9 => h9) rfl dX6_carryOut_49 ?_
    refine m_callPi (As := []) (rest := [.ref ad]) C0 hl hP hD hS (c_X3_lastTarget l D cY pr tp sp len sc9_2 cur9_3 tx sa pt9_4 pg9_5 pf9_6 pe9_7 (by rw [hq8]; exact hq10) (by rw [hq8]; exact hq9)) (cwV 0 hts gX6_carryOut_X3_lastTarget rfl rfl rfl (by decide +kernel) ⟨Nat.le_of_ble_eq_true rfl, Nat.le_of_ble_eq_true rfl⟩) dX6_carryOut_52 [1, 2, 3] rfl rfl 1 rfl rfl rfl rfl (Nat.le_of_ble_eq_true rfl) (Nat.zero_le _) (Nat.zero_le _) (fun _ => rfl) (fun _ => m_pool_fst) (fun r22 u H21 locs hw hP hD hS => ?_)
    try dsimp only at hw
    obtain rfl := hw
    have hP : va_P D vwCl ([(nx, .inr (6, [.ref fd, .ref tb, .ref pr, .ref ad, .ref rd, .ref wd, .ref h, .int (nI sk)])), (pr, .inr (3, [.ref tp, .ref sp, .int (nI len), .int (nI sc9_2), .int (nI cur9_3)])), (tp, .inl (cY 1, 60, .inl (m_nf tx))), (sp, .inl (cY 4, 15, .inr (.inr (.inr (.inr (m_sa sa)))))), (ad, .inr (4, [.ref ab, .int (nI ((p_run ps 0 f cnt).2.2))])), (ab, .inl (cY 0, 8, .inl (m_nf ((p_run ps 0 f cnt).2.1)))), (rd, .inr (4, [.ref rb, .int (nI ((p_run ps 0 f cnt).2.2))])), (rb, .inl (cY 0, 8, .inl (m_nf ((p_run ps 0 f cnt).2.1)))), (fd, .inr (2, [.ref fb])), (fb, .inl (cY 0, 256, .inl (m_nf bp))), (h, .inr (0, [.ref kp, .int (nI (min (z + 1) 4))])), (kp, .inl (cY 3, 4, .inr (.inr (.inr (.inr (m_k4 s0 s1 s2 s3)))))), (s0, .inr (4, [.ref b0, .int (nI cnt)])), (b0, .inl (cY 0, 8, .inl (m_nf f))), (s1, .inr (4, [.ref b1, .int (nI t0)])), (b1, .inl (cY 0, 8, .inl (m_nf g0))), (s2, .inr (4, [.ref b2, .int (nI t1)])), (b2, .inl (cY 0, 8, .inl (m_nf g1))), (s3, .inr (4, [.ref b3, .int (nI t2)])), (b3, .inl (cY 0, 8, .inl (m_nf g2)))] ++ m_pool sa pt9_4 pg9_5 pf9_6 pe9_7) H21 := hP
    have hD : va_D A ([(nx, .inr (6, [.ref fd, .ref tb, .ref pr, .ref ad, .ref rd, .ref wd, .ref h, .int (nI sk)])), (pr, .inr (3, [.ref tp, .ref sp, .int (nI len), .int (nI sc9_2), .int (nI cur9_3)])), (tp, .inl (cY 1, 60, .inl (m_nf tx))), (sp, .inl (cY 4, 15, .inr (.inr (.inr (.inr (m_sa sa)))))), (ad, .inr (4, [.ref ab, .int (nI ((p_run ps 0 f cnt).2.2))])), (ab, .inl (cY 0, 8, .inl (m_nf ((p_run ps 0 f cnt).2.1)))), (rd, .inr (4, [.ref rb, .int (nI ((p_run ps 0 f cnt).2.2))])), (rb, .inl (cY 0, 8, .inl (m_nf ((p_run ps 0 f cnt).2.1)))), (fd, .inr (2, [.ref fb])), (fb, .inl (cY 0, 256, .inl (m_nf bp))), (h, .inr (0, [.ref kp, .int (nI (min (z + 1) 4))])), (kp, .inl (cY 3, 4, .inr (.inr (.inr (.inr (m_k4 s0 s1 s2 s3)))))), (s0, .inr (4, [.ref b0, .int (nI cnt)])), (b0, .inl (cY 0, 8, .inl (m_nf f))), (s1, .inr (4, [.ref b1, .int (nI t0)])), (b1, .inl (cY 0, 8, .inl (m_nf g0))), (s2, .inr (4, [.ref b2, .int (nI t1)])), (b2, .inl (cY 0, 8, .inl (m_nf g1))), (s3, .inr (4, [.ref b3, .int (nI t2)])), (b3, .inl (cY 0, 8, .inl (m_nf g2)))] ++ m_pool sa pt9_4 pg9_5 pf9_6 pe9_7) := hD
    have e5 : pt9_4 (sc9_2 - 1) = nI lx.1 := by (have h9 := hq11 (ps.length - 1) lx (by rw [← List.getLast?_eq_getElem?]; exact hlx)); rw [hq8]; exact h9.1
    refine lv_topi (nm_r (e5) ?_)
    refine m_callVi (As := [.int (nI lx.1)]) (rest := []) C0 hl hP hD hS (c_X4_nimberIn l D cY ad ab ((p_run ps 0 f cnt).2.2) ((p_run ps 0 f cnt).2.1) lx.1 (by first | assumption | omega | exact nm_lt _ _ | exact np_lt _ _ | decide)) (cwV 1 hts gX6_carryOut_X4_nimberIn rfl rfl rfl (by decide +kernel) ⟨Nat.le_of_ble_eq_true rfl, Nat.le_of_ble_eq_true rfl⟩) dX6_carryOut_55 [4, 5] rfl rfl 4 rfl rfl rfl rfl (Nat.le_of_ble_eq_true rfl) (Nat.zero_le _) (Nat.zero_le _) (fun _ => rfl) (fun r24 u H23 locs hw hP hD hS => ?_)
    try dsimp only at hw
    obtain rfl := hw
    have hP : va_P D vwCl ([(nx, .inr (6, [.ref fd, .ref tb, .ref pr, .ref ad, .ref rd, .ref wd, .ref h, .int (nI sk)])), (pr, .inr (3, [.ref tp, .ref sp, .int (nI len), .int (nI sc9_2), .int (nI cur9_3)])), (tp, .inl (cY 1, 60, .inl (m_nf tx))), (sp, .inl (cY 4, 15, .inr (.inr (.inr (.inr (m_sa sa)))))), (ad, .inr (4, [.ref ab, .int (nI ((p_run ps 0 f cnt).2.2))])), (ab, .inl (cY 0, 8, .inl (m_nf ((p_run ps 0 f cnt).2.1)))), (rd, .inr (4, [.ref rb, .int (nI ((p_run ps 0 f cnt).2.2))])), (rb, .inl (cY 0, 8, .inl (m_nf ((p_run ps 0 f cnt).2.1)))), (fd, .inr (2, [.ref fb])), (fb, .inl (cY 0, 256, .inl (m_nf bp))), (h, .inr (0, [.ref kp, .int (nI (min (z + 1) 4))])), (kp, .inl (cY 3, 4, .inr (.inr (.inr (.inr (m_k4 s0 s1 s2 s3)))))), (s0, .inr (4, [.ref b0, .int (nI cnt)])), (b0, .inl (cY 0, 8, .inl (m_nf f))), (s1, .inr (4, [.ref b1, .int (nI t0)])), (b1, .inl (cY 0, 8, .inl (m_nf g0))), (s2, .inr (4, [.ref b2, .int (nI t1)])), (b2, .inl (cY 0, 8, .inl (m_nf g1))), (s3, .inr (4, [.ref b3, .int (nI t2)])), (b3, .inl (cY 0, 8, .inl (m_nf g2)))] ++ m_pool sa pt9_4 pg9_5 pf9_6 pe9_7) H23 := hP
    have hD : va_D A ([(nx, .inr (6, [.ref fd, .ref tb, .ref pr, .ref ad, .ref rd, .ref wd, .ref h, .int (nI sk)])), (pr, .inr (3, [.ref tp, .ref sp, .int (nI len), .int (nI sc9_2), .int (nI cur9_3)])), (tp, .inl (cY 1, 60, .inl (m_nf tx))), (sp, .inl (cY 4, 15, .inr (.inr (.inr (.inr (m_sa sa)))))), (ad, .inr (4, [.ref ab, .int (nI ((p_run ps 0 f cnt).2.2))])), (ab, .inl (cY 0, 8, .inl (m_nf ((p_run ps 0 f cnt).2.1)))), (rd, .inr (4, [.ref rb, .int (nI ((p_run ps 0 f cnt).2.2))])), (rb, .inl (cY 0, 8, .inl (m_nf ((p_run ps 0 f cnt).2.1)))), (fd, .inr (2, [.ref fb])), (fb, .inl (cY 0, 256, .inl (m_nf bp))), (h, .inr (0, [.ref kp, .int (nI (min (z + 1) 4))])), (kp, .inl (cY 3, 4, .inr (.inr (.inr (.inr (m_k4 s0 s1 s2 s3)))))), (s0, .inr (4, [.ref b0, .int (nI cnt)])), (b0, .inl (cY 0, 8, .inl (m_nf f))), (s1, .inr (4, [.ref b1, .int (nI t0)])), (b1, .inl (cY 0, 8, .inl (m_nf g0))), (s2, .inr (4, [.ref b2, .int (nI t1)])), (b2, .inl (cY 0, 8, .inl (m_nf g1))), (s3, .inr (4, [.ref b3, .int (nI t2)])), (b3, .inl (cY 0, 8, .inl (m_nf g2)))] ++ m_pool sa pt9_4 pg9_5 pf9_6 pe9_7) := hD
    subst hQ
    exact m_iret C0 hS dX6_carryOut_58 (u := (sc9_2, cur9_3, pt9_4, pg9_5, pf9_6, pe9_7)) hP (rfl)
  · have c9 := c9
    exfalso; exact c9 rfl
set_option maxHeartbeats 4000000 in
set_option maxRecDepth 100000 in
theorem c_X6_undo_x1 (l : Launch) (hfl : l.stackTraces = false) (D : va_G) (cY : Nat → ClassId) (eS : Nat → Nat) (eO : Nat) (nx fd tb pr ad rd wd h sk : Nat) (kp z s0 s1 s2 s3 b0 b1 b2 b3 t0 t1 t2 t3 : Nat) (g0 g1 g2 g3 : Nat → Nat) (hz : z = 0) : m_Mx l yX6_undo wsX6_undo 6 96 D cY eS eO [.ref nx] [(nx, .inr (6, [.ref fd, .ref tb, .ref pr, .ref ad, .ref rd, .ref wd, .ref h, .int (nI sk)])), (h, .inr (0, [.ref kp, .int (nI z)])), (kp, .inl (cY 3, 4, .inr (.inr (.inr (.inr (m_k4 s0 s1 s2 s3)))))), (s0, .inr (4, [.ref b0, .int (nI t0)])), (b0, .inl (cY 0, 8, .inl (m_nf g0))), (s1, .inr (4, [.ref b1, .int (nI t1)])), (b1, .inl (cY 0, 8, .inl (m_nf g1))), (s2, .inr (4, [.ref b2, .int (nI t2)])), (b2, .inl (cY 0, 8, .inl (m_nf g2))), (s3, .inr (4, [.ref b3, .int (nI t3)])), (b3, .inl (cY 0, 8, .inl (m_nf g3)))] e_IS (fun (u : Unit) => [(nx, .inr (6, [.ref fd, .ref tb, .ref pr, .ref ad, .ref rd, .ref wd, .ref h, .int (nI sk)])), (h, .inr (0, [.ref kp, .int (nI z)])), (kp, .inl (cY 3, 4, .inr (.inr (.inr (.inr (m_k4 s0 s1 s2 s3)))))), (s0, .inr (4, [.ref b0, .int (nI t0)])), (b0, .inl (cY 0, 8, .inl (m_nf g0))), (s1, .inr (4, [.ref b1, .int (nI t1)])), (b1, .inl (cY 0, 8, .inl (m_nf g1))), (s2, .inr (4, [.ref b2, .int (nI t2)])), (b2, .inl (cY 0, 8, .inl (m_nf g2))), (s3, .inr (4, [.ref b3, .int (nI t3)])), (b3, .inl (cY 0, 8, .inl (m_nf g3)))]) := by
  refine m_enterX (cc := cX6_undo) (maxL := 1) (ret := (some .int)) (by decide +kernel) rfl (Nat.le_of_ble_eq_true rfl) ?_
  intro p e s m below meth c A ls C0 hnt hE hP hD hl
  obtain ⟨hx, hb, hr, hml, hts, hown, hlocks, hK, hA⟩ := id C0
  obtain ⟨hz1, hz2, ⟨hcIO, hcIA, hcIS⟩, hdcl, ⟨hs0, hs1, hs2, hs3, hs4, hs5, hs6, hs7⟩, ⟨hn1, hn2⟩, ⟨hl0, hl1, hl2, hl3, hl4⟩, hzO, htO⟩ := id hE
  generalize hQ : vx_MQ below _ _ _ s 1 6 A = Q
  have hS : va_S A s.heap s.heap [] := va_S.rf
  have hl : lv_has ls 1 [(0, .ref nx)] := hl
  have hwd0 := hts (.fieldLink RX6 46 "NimberField" "history" "LNimberField$History;") (by decide +kernel)
  have hwd1 := (show ∀ w ∈ u_ws RX6 TX6 8, w ∈ wsX6_undo from by decide +kernel)
  have hwd2 := hts (.classLink RX6 74 e_IS) (by decide +kernel)
  have hwd3 := hts (.initialized e_IS) (by decide +kernel)
  refine lv_aload_n hx hb dX6_undo_0 rfl (lv_at hl 0 rfl) ?_
  refine va_get (D := D) (ci := 6) (v := .ref h) (C := RX6) (T := TX6) (N := 8) hx hb hts hwd1 hown hK hP 0 rfl rfl 6 (by decide) hwd0 (fun _ h9 => h9) rfl dX6_undo_1 ?_
  refine m_callVi (As := []) (rest := []) C0 hl hP hD hS (c_X0_size l D cY h kp z ) (cwV 0 hts gX6_undo_X0_size rfl rfl rfl (by decide +kernel) ⟨Nat.le_of_ble_eq_true rfl, Nat.le_of_ble_eq_true rfl⟩) dX6_undo_4 [1] rfl rfl 1 rfl rfl rfl rfl (Nat.le_of_ble_eq_true rfl) (Nat.zero_le _) (Nat.zero_le _) (fun _ => rfl) (fun r2 u H1 locs hw hP hD hS => ?_)
  try dsimp only at hw
  obtain rfl := hw
  have hP : va_P D vwCl [(nx, .inr (6, [.ref fd, .ref tb, .ref pr, .ref ad, .ref rd, .ref wd, .ref h, .int (nI sk)])), (h, .inr (0, [.ref kp, .int (nI z)])), (kp, .inl (cY 3, 4, .inr (.inr (.inr (.inr (m_k4 s0 s1 s2 s3)))))), (s0, .inr (4, [.ref b0, .int (nI t0)])), (b0, .inl (cY 0, 8, .inl (m_nf g0))), (s1, .inr (4, [.ref b1, .int (nI t1)])), (b1, .inl (cY 0, 8, .inl (m_nf g1))), (s2, .inr (4, [.ref b2, .int (nI t2)])), (b2, .inl (cY 0, 8, .inl (m_nf g2))), (s3, .inr (4, [.ref b3, .int (nI t3)])), (b3, .inl (cY 0, 8, .inl (m_nf g3)))] H1 := hP
  have hD : va_D A [(nx, .inr (6, [.ref fd, .ref tb, .ref pr, .ref ad, .ref rd, .ref wd, .ref h, .int (nI sk)])), (h, .inr (0, [.ref kp, .int (nI z)])), (kp, .inl (cY 3, 4, .inr (.inr (.inr (.inr (m_k4 s0 s1 s2 s3)))))), (s0, .inr (4, [.ref b0, .int (nI t0)])), (b0, .inl (cY 0, 8, .inl (m_nf g0))), (s1, .inr (4, [.ref b1, .int (nI t1)])), (b1, .inl (cY 0, 8, .inl (m_nf g1))), (s2, .inr (4, [.ref b2, .int (nI t2)])), (b2, .inl (cY 0, 8, .inl (m_nf g2))), (s3, .inr (4, [.ref b3, .int (nI t3)])), (b3, .inl (cY 0, 8, .inl (m_nf g3)))] := hD
  refine lv_if_ne (tgt := 20) hx hb dX6_undo_7 (by decide) (fun c7 => ?_) (fun c7 => ?_)
  · have c7 : ¬ (z = 0) := fun qq9 => c7 ((nI_eq (a := z) (b := 0) (by first | omega | exact Nat.lt_of_le_of_lt Nat.and_le_right (by decide) | exact Nat.lt_trans (nm_lt _ _) (by decide) | exact Nat.lt_trans (np_lt _ _) (by decide) | exact Nat.lt_trans (p_at_lt htx) (by decide)) (by first | omega | exact Nat.lt_of_le_of_lt Nat.and_le_right (by decide) | exact Nat.lt_trans (nm_lt _ _) (by decide) | exact Nat.lt_trans (np_lt _ _) (by decide) | exact Nat.lt_trans (p_at_lt htx) (by decide))).mpr qq9)
    exfalso; omega
  · have c7 : z = 0 := (nI_eq (a := z) (b := 0) (by first | omega | exact Nat.lt_of_le_of_lt Nat.and_le_right (by decide) | exact Nat.lt_trans (nm_lt _ _) (by decide) | exact Nat.lt_trans (np_lt _ _) (by decide) | exact Nat.lt_trans (p_at_lt htx) (by decide)) (by first | omega | exact Nat.lt_of_le_of_lt Nat.and_le_right (by decide) | exact Nat.lt_trans (nm_lt _ _) (by decide) | exact Nat.lt_trans (np_lt _ _) (by decide) | exact Nat.lt_trans (p_at_lt htx) (by decide))).mp c7
    subst hQ
    exact m_throw (k := 6) hfl C0 hnt hE hl hP hS (by decide +kernel) hwd2 hwd3 hs6 hcIS (by decide +kernel) (by decide +kernel) (by decide +kernel) dX6_undo_10 dX6_undo_13 dX6_undo_14 dX6_undo_16 dX6_undo_19 (Nat.le_of_ble_eq_true rfl) (Nat.le_of_ble_eq_true rfl) (Nat.le_of_ble_eq_true rfl) (Nat.le_of_ble_eq_true rfl) () rfl
set_option maxHeartbeats 4000000 in
set_option maxRecDepth 100000 in
theorem c_X6_undo (l : Launch) (D : va_G) (cY : Nat → ClassId) (nx fd tb pr ad rd wd h sk : Nat) (ab cnt : Nat) (f : Nat → Nat) (kp z s0 s1 s2 s3 b0 b1 b2 b3 t0 t1 t2 t3 : Nat) (g0 g1 g2 g3 : Nat → Nat) (hf8 : m_z 8 f) (hf16 : ∀ j, f j < 65536) (hg0 : m_z 8 g0) (hg1 : m_z 8 g1) (hg2 : m_z 8 g2) (hg3 : m_z 8 g3) (hz4 : z ≤ 4) (hz : 0 < z) : m_Mi l yX6_undo wsX6_undo 3 65 D cY [.ref nx] [(nx, .inr (6, [.ref fd, .ref tb, .ref pr, .ref ad, .ref rd, .ref wd, .ref h, .int (nI sk)])), (ad, .inr (4, [.ref ab, .int (nI cnt)])), (ab, .inl (cY 0, 8, .inl (m_nf f))), (h, .inr (0, [.ref kp, .int (nI z)])), (kp, .inl (cY 3, 4, .inr (.inr (.inr (.inr (m_k4 s0 s1 s2 s3)))))), (s0, .inr (4, [.ref b0, .int (nI t0)])), (b0, .inl (cY 0, 8, .inl (m_nf g0))), (s1, .inr (4, [.ref b1, .int (nI t1)])), (b1, .inl (cY 0, 8, .inl (m_nf g1))), (s2, .inr (4, [.ref b2, .int (nI t2)])), (b2, .inl (cY 0, 8, .inl (m_nf g2))), (s3, .inr (4, [.ref b3, .int (nI t3)])), (b3, .inl (cY 0, 8, .inl (m_nf g3)))] (fun (res : Int32) (u : Unit) => res = nI (z - 1)) (fun (u : Unit) => [(nx, .inr (6, [.ref fd, .ref tb, .ref pr, .ref ad, .ref rd, .ref wd, .ref h, .int (nI sk)])), (ad, .inr (4, [.ref ab, .int (nI t0)])), (ab, .inl (cY 0, 8, .inl (m_nf g0))), (h, .inr (0, [.ref kp, .int (nI (z - 1))])), (kp, .inl (cY 3, 4, .inr (.inr (.inr (.inr (m_k4 s0 s1 s2 s3)))))), (s0, .inr (4, [.ref b0, .int (nI t1)])), (b0, .inl (cY 0, 8, .inl (m_nf g1))), (s1, .inr (4, [.ref b1, .int (nI t2)])), (b1, .inl (cY 0, 8, .inl (m_nf g2))), (s2, .inr (4, [.ref b2, .int (nI t3)])), (b2, .inl (cY 0, 8, .inl (m_nf g3))), (s3, .inr (4, [.ref b3, .int (nI t3)])), (b3, .inl (cY 0, 8, .inl (m_nf g3)))]) := by
  refine m_enterI (cc := cX6_undo) (maxL := 1) (ret := (some .int)) (by decide +kernel) rfl (Nat.le_of_ble_eq_true rfl) ?_
  intro p e s m below meth c A ls C0 hP hD hl
  obtain ⟨hx, hb, hr, hml, hts, hown, hlocks, hK, hA⟩ := id C0
  generalize hQ : MQ below _ _ s 0 0 A = Q
  have hS : va_S A s.heap s.heap [] := va_S.rf
  have hl : lv_has ls 1 [(0, .ref nx)] := hl
  have hwd0 := hts (.fieldLink RX6 46 "NimberField" "history" "LNimberField$History;") (by decide +kernel)
  have hwd1 := (show ∀ w ∈ u_ws RX6 TX6 8, w ∈ wsX6_undo from by decide +kernel)
  have hwd2 := hts (.fieldLink RX6 33 "NimberField" "state" "LNimberField$State;") (by decide +kernel)
  refine lv_aload_n hx hb dX6_undo_0 rfl (lv_at hl 0 rfl) ?_
  refine va_get (D := D) (ci := 6) (v := .ref h) (C := RX6) (T := TX6) (N := 8) hx hb hts hwd1 hown hK hP 0 rfl rfl 6 (by decide) hwd0 (fun _ h9 => h9) rfl dX6_undo_1 ?_
  refine m_callVi (As := []) (rest := []) C0 hl hP hD hS (c_X0_size l D cY h kp z ) (cwV 0 hts gX6_undo_X0_size rfl rfl rfl (by decide +kernel) ⟨Nat.le_of_ble_eq_true rfl, Nat.le_of_ble_eq_true rfl⟩) dX6_undo_4 [3] rfl rfl 3 rfl rfl rfl rfl (Nat.le_of_ble_eq_true rfl) (Nat.zero_le _) (Nat.zero_le _) (fun _ => rfl) (fun r2 u H1 locs hw hP hD hS => ?_)
  try dsimp only at hw
  obtain rfl := hw
  have hP : va_P D vwCl [(nx, .inr (6, [.ref fd, .ref tb, .ref pr, .ref ad, .ref rd, .ref wd, .ref h, .int (nI sk)])), (ad, .inr (4, [.ref ab, .int (nI cnt)])), (ab, .inl (cY 0, 8, .inl (m_nf f))), (h, .inr (0, [.ref kp, .int (nI z)])), (kp, .inl (cY 3, 4, .inr (.inr (.inr (.inr (m_k4 s0 s1 s2 s3)))))), (s0, .inr (4, [.ref b0, .int (nI t0)])), (b0, .inl (cY 0, 8, .inl (m_nf g0))), (s1, .inr (4, [.ref b1, .int (nI t1)])), (b1, .inl (cY 0, 8, .inl (m_nf g1))), (s2, .inr (4, [.ref b2, .int (nI t2)])), (b2, .inl (cY 0, 8, .inl (m_nf g2))), (s3, .inr (4, [.ref b3, .int (nI t3)])), (b3, .inl (cY 0, 8, .inl (m_nf g3)))] H1 := hP
  have hD : va_D A [(nx, .inr (6, [.ref fd, .ref tb, .ref pr, .ref ad, .ref rd, .ref wd, .ref h, .int (nI sk)])), (ad, .inr (4, [.ref ab, .int (nI cnt)])), (ab, .inl (cY 0, 8, .inl (m_nf f))), (h, .inr (0, [.ref kp, .int (nI z)])), (kp, .inl (cY 3, 4, .inr (.inr (.inr (.inr (m_k4 s0 s1 s2 s3)))))), (s0, .inr (4, [.ref b0, .int (nI t0)])), (b0, .inl (cY 0, 8, .inl (m_nf g0))), (s1, .inr (4, [.ref b1, .int (nI t1)])), (b1, .inl (cY 0, 8, .inl (m_nf g1))), (s2, .inr (4, [.ref b2, .int (nI t2)])), (b2, .inl (cY 0, 8, .inl (m_nf g2))), (s3, .inr (4, [.ref b3, .int (nI t3)])), (b3, .inl (cY 0, 8, .inl (m_nf g3)))] := hD
  refine lv_if_ne (tgt := 20) hx hb dX6_undo_7 (by decide) (fun c7 => ?_) (fun c7 => ?_)
  · have c7 : ¬ (z = 0) := fun qq9 => c7 ((nI_eq (a := z) (b := 0) (by first | omega | exact Nat.lt_of_le_of_lt Nat.and_le_right (by decide) | exact Nat.lt_trans (nm_lt _ _) (by decide) | exact Nat.lt_trans (np_lt _ _) (by decide) | exact Nat.lt_trans (p_at_lt htx) (by decide)) (by first | omega | exact Nat.lt_of_le_of_lt Nat.and_le_right (by decide) | exact Nat.lt_trans (nm_lt _ _) (by decide) | exact Nat.lt_trans (np_lt _ _) (by decide) | exact Nat.lt_trans (p_at_lt htx) (by decide))).mpr qq9)
    refine lv_aload_n hx hb dX6_undo_20 rfl (lv_at hl 0 rfl) ?_
    refine va_get (D := D) (ci := 6) (v := .ref h) (C := RX6) (T := TX6) (N := 8) hx hb hts hwd1 hown hK hP 0 rfl rfl 6 (by decide) hwd0 (fun _ h9 => h9) rfl dX6_undo_21 ?_
    refine lv_aload_n hx hb dX6_undo_24 rfl (lv_at hl 0 rfl) ?_
    refine va_get (D := D) (ci := 6) (v := .ref ad) (C := RX6) (T := TX6) (N := 8) hx hb hts hwd1 hown hK hP 0 rfl rfl 3 (by decide) hwd2 (fun _ h9 => h9) rfl dX6_undo_25 ?_
    refine m_callVi (As := [.ref ad]) (rest := []) C0 hl hP hD hS (c_X0_returnTo l D cY h kp z s0 s1 s2 s3 b0 b1 b2 b3 t0 t1 t2 t3 g0 g1 g2 g3 ad ab cnt f (by first | assumption | omega | exact nm_lt _ _ | exact np_lt _ _ | decide) (by first | assumption | omega | exact nm_lt _ _ | exact np_lt _ _ | decide) (by first | assumption | omega | exact nm_lt _ _ | exact np_lt _ _ | decide) (by first | assumption | omega | exact nm_lt _ _ | exact np_lt _ _ | decide) (by first | assumption | omega | exact nm_lt _ _ | exact np_lt _ _ | decide) (by first | assumption | omega | exact nm_lt _ _ | exact np_lt _ _ | decide) (by first | assumption | omega | exact nm_lt _ _ | exact np_lt _ _ | decide)) (cwV 1 hts gX6_undo_X0_returnTo rfl rfl rfl (by decide +kernel) ⟨Nat.le_of_ble_eq_true rfl, Nat.le_of_ble_eq_true rfl⟩) dX6_undo_28 [3, 4, 5, 6, 7, 8, 9, 10, 11, 12, 1, 2] rfl rfl 3 rfl rfl rfl rfl (Nat.le_of_ble_eq_true rfl) (Nat.zero_le _) (Nat.zero_le _) (fun _ => rfl) (fun r4 u H3 locs hw hP hD hS => ?_)
    try dsimp only at hw
    obtain rfl := hw
    have hP : va_P D vwCl [(nx, .inr (6, [.ref fd, .ref tb, .ref pr, .ref ad, .ref rd, .ref wd, .ref h, .int (nI sk)])), (ad, .inr (4, [.ref ab, .int (nI t0)])), (ab, .inl (cY 0, 8, .inl (m_nf g0))), (h, .inr (0, [.ref kp, .int (nI (z - 1))])), (kp, .inl (cY 3, 4, .inr (.inr (.inr (.inr (m_k4 s0 s1 s2 s3)))))), (s0, .inr (4, [.ref b0, .int (nI t1)])), (b0, .inl (cY 0, 8, .inl (m_nf g1))), (s1, .inr (4, [.ref b1, .int (nI t2)])), (b1, .inl (cY 0, 8, .inl (m_nf g2))), (s2, .inr (4, [.ref b2, .int (nI t3)])), (b2, .inl (cY 0, 8, .inl (m_nf g3))), (s3, .inr (4, [.ref b3, .int (nI t3)])), (b3, .inl (cY 0, 8, .inl (m_nf g3)))] H3 := hP
    have hD : va_D A [(nx, .inr (6, [.ref fd, .ref tb, .ref pr, .ref ad, .ref rd, .ref wd, .ref h, .int (nI sk)])), (ad, .inr (4, [.ref ab, .int (nI t0)])), (ab, .inl (cY 0, 8, .inl (m_nf g0))), (h, .inr (0, [.ref kp, .int (nI (z - 1))])), (kp, .inl (cY 3, 4, .inr (.inr (.inr (.inr (m_k4 s0 s1 s2 s3)))))), (s0, .inr (4, [.ref b0, .int (nI t1)])), (b0, .inl (cY 0, 8, .inl (m_nf g1))), (s1, .inr (4, [.ref b1, .int (nI t2)])), (b1, .inl (cY 0, 8, .inl (m_nf g2))), (s2, .inr (4, [.ref b2, .int (nI t3)])), (b2, .inl (cY 0, 8, .inl (m_nf g3))), (s3, .inr (4, [.ref b3, .int (nI t3)])), (b3, .inl (cY 0, 8, .inl (m_nf g3)))] := hD
    subst hQ
    exact m_iret C0 hS dX6_undo_31 (u := ()) hP (by first | trivial | rfl | omega)
  · have c7 : z = 0 := (nI_eq (a := z) (b := 0) (by first | omega | exact Nat.lt_of_le_of_lt Nat.and_le_right (by decide) | exact Nat.lt_trans (nm_lt _ _) (by decide) | exact Nat.lt_trans (np_lt _ _) (by decide) | exact Nat.lt_trans (p_at_lt htx) (by decide)) (by first | omega | exact Nat.lt_of_le_of_lt Nat.and_le_right (by decide) | exact Nat.lt_trans (nm_lt _ _) (by decide) | exact Nat.lt_trans (np_lt _ _) (by decide) | exact Nat.lt_trans (p_at_lt htx) (by decide))).mp c7
    exfalso; omega
set_option maxHeartbeats 4000000 in
set_option maxRecDepth 100000 in
theorem c_X6_takeSnapshot (l : Launch) (D : va_G) (cY : Nat → ClassId) (nx fd tb pr ad rd wd h sk : Nat) (ab cnt : Nat) (f : Nat → Nat) (wb sn : Nat) (sf : Nat → Nat) (hf8 : m_z 8 f) (hf16 : ∀ j, f j < 65536) (hsf8 : m_z 8 sf) : m_Mi l yX6_takeSnapshot wsX6_takeSnapshot 2 43 D cY [.ref nx] [(nx, .inr (6, [.ref fd, .ref tb, .ref pr, .ref ad, .ref rd, .ref wd, .ref h, .int (nI sk)])), (ad, .inr (4, [.ref ab, .int (nI cnt)])), (ab, .inl (cY 0, 8, .inl (m_nf f))), (wd, .inr (4, [.ref wb, .int (nI sn)])), (wb, .inl (cY 0, 8, .inl (m_nf sf)))] (fun (res : Int32) (u : Unit) => res = nI (m_xr f 8)) (fun (u : Unit) => [(nx, .inr (6, [.ref fd, .ref tb, .ref pr, .ref ad, .ref rd, .ref wd, .ref h, .int (nI 1)])), (ad, .inr (4, [.ref ab, .int (nI cnt)])), (ab, .inl (cY 0, 8, .inl (m_nf f))), (wd, .inr (4, [.ref wb, .int (nI cnt)])), (wb, .inl (cY 0, 8, .inl (m_nf f)))]) := by
  refine m_enterI (cc := cX6_takeSnapshot) (maxL := 1) (ret := (some .int)) (by decide +kernel) rfl (Nat.le_of_ble_eq_true rfl) ?_
  intro p e s m below meth c A ls C0 hP hD hl
  obtain ⟨hx, hb, hr, hml, hts, hown, hlocks, hK, hA⟩ := id C0
  generalize hQ : MQ below _ _ s 0 0 A = Q
  have hS : va_S A s.heap s.heap [] := va_S.rf
  have hl : lv_has ls 1 [(0, .ref nx)] := hl
  have hwd0 := hts (.fieldLink RX6 40 "NimberField" "snapshot" "LNimberField$State;") (by decide +kernel)
  have hwd1 := (show ∀ w ∈ u_ws RX6 TX6 8, w ∈ wsX6_takeSnapshot from by decide +kernel)
  have hwd2 := hts (.fieldLink RX6 33 "NimberField" "state" "LNimberField$State;") (by decide +kernel)
  have hwd3 := hts (.fieldLink RX6 50 "NimberField" "snapshotTaken" "Z") (by decide +kernel)
  refine lv_aload_n hx hb dX6_takeSnapshot_0 rfl (lv_at hl 0 rfl) ?_
  refine va_get (D := D) (ci := 6) (v := .ref wd) (C := RX6) (T := TX6) (N := 8) hx hb hts hwd1 hown hK hP 0 rfl rfl 5 (by decide) hwd0 (fun _ h9 => h9) rfl dX6_takeSnapshot_1 ?_
  refine lv_aload_n hx hb dX6_takeSnapshot_4 rfl (lv_at hl 0 rfl) ?_
  refine va_get (D := D) (ci := 6) (v := .ref ad) (C := RX6) (T := TX6) (N := 8) hx hb hts hwd1 hown hK hP 0 rfl rfl 3 (by decide) hwd2 (fun _ h9 => h9) rfl dX6_takeSnapshot_5 ?_
  refine m_callVv (As := [.ref ad]) (rest := []) C0 hl hP hD hS (c_X4_copyFrom l D cY wd wb sn sf ad ab cnt f (by first | assumption | omega | exact nm_lt _ _ | exact np_lt _ _ | decide) (by first | assumption | omega | exact nm_lt _ _ | exact np_lt _ _ | decide)) (cwV 1 hts gX6_takeSnapshot_X4_copyFrom rfl rfl rfl (by decide +kernel) ⟨Nat.le_of_ble_eq_true rfl, Nat.le_of_ble_eq_true rfl⟩) dX6_takeSnapshot_8 [3, 4, 1, 2] rfl rfl 3 rfl rfl rfl rfl (Nat.le_of_ble_eq_true rfl) (Nat.zero_le _) (Nat.zero_le _) (fun _ => rfl) (fun u H1 locs hw hP hD hS => ?_)
  try dsimp only at hw
  clear hw
  have hP : va_P D vwCl [(nx, .inr (6, [.ref fd, .ref tb, .ref pr, .ref ad, .ref rd, .ref wd, .ref h, .int (nI sk)])), (ad, .inr (4, [.ref ab, .int (nI cnt)])), (ab, .inl (cY 0, 8, .inl (m_nf f))), (wd, .inr (4, [.ref wb, .int (nI cnt)])), (wb, .inl (cY 0, 8, .inl (m_nf f)))] H1 := hP
  have hD : va_D A [(nx, .inr (6, [.ref fd, .ref tb, .ref pr, .ref ad, .ref rd, .ref wd, .ref h, .int (nI sk)])), (ad, .inr (4, [.ref ab, .int (nI cnt)])), (ab, .inl (cY 0, 8, .inl (m_nf f))), (wd, .inr (4, [.ref wb, .int (nI cnt)])), (wb, .inl (cY 0, 8, .inl (m_nf f)))] := hD
  refine lv_aload_n hx hb dX6_takeSnapshot_11 rfl (lv_at hl 0 rfl) ?_
  refine lv_iconst (v := nI 1) hx hb dX6_takeSnapshot_12 (by decide) ?_
  refine va_put (D := D) (ci := 6) (v := .int (nI 1)) (ty := .boolean) (C := RX6) (T := TX6) (N := 8) hx hb hts hwd1 tyX6 tyX6_ok nmX6 hown hK hP hD hS 0 rfl rfl 7 (by decide) hwd3 (fun _ h9 => h9) rfl (by decide +kernel) rfl rfl (Nat.le_of_ble_eq_true rfl) dX6_takeSnapshot_13 (fun H2 locs hP hD hS => ?_)
  have hP : va_P D vwCl [(nx, .inr (6, [.ref fd, .ref tb, .ref pr, .ref ad, .ref rd, .ref wd, .ref h, .int (nI 1)])), (ad, .inr (4, [.ref ab, .int (nI cnt)])), (ab, .inl (cY 0, 8, .inl (m_nf f))), (wd, .inr (4, [.ref wb, .int (nI cnt)])), (wb, .inl (cY 0, 8, .inl (m_nf f)))] H2 := hP
  have hD : va_D A [(nx, .inr (6, [.ref fd, .ref tb, .ref pr, .ref ad, .ref rd, .ref wd, .ref h, .int (nI 1)])), (ad, .inr (4, [.ref ab, .int (nI cnt)])), (ab, .inl (cY 0, 8, .inl (m_nf f))), (wd, .inr (4, [.ref wb, .int (nI cnt)])), (wb, .inl (cY 0, 8, .inl (m_nf f)))] := hD
  refine lv_aload_n hx hb dX6_takeSnapshot_16 rfl (lv_at hl 0 rfl) ?_
  refine va_get (D := D) (ci := 6) (v := .ref ad) (C := RX6) (T := TX6) (N := 8) hx hb hts hwd1 hown hK hP 0 rfl rfl 3 (by decide) hwd2 (fun _ h9 => h9) rfl dX6_takeSnapshot_17 ?_
  refine m_callVi (As := []) (rest := []) C0 hl hP hD hS (c_X4_sum l D cY ad ab cnt f ) (cwV 0 hts gX6_takeSnapshot_X4_sum rfl rfl rfl (by decide +kernel) ⟨Nat.le_of_ble_eq_true rfl, Nat.le_of_ble_eq_true rfl⟩) dX6_takeSnapshot_20 [1, 2] rfl rfl 1 rfl rfl rfl rfl (Nat.le_of_ble_eq_true rfl) (Nat.zero_le _) (Nat.zero_le _) (fun _ => rfl) (fun r4 u H3 locs hw hP hD hS => ?_)
  try dsimp only at hw
  obtain rfl := hw
  have hP : va_P D vwCl [(nx, .inr (6, [.ref fd, .ref tb, .ref pr, .ref ad, .ref rd, .ref wd, .ref h, .int (nI 1)])), (ad, .inr (4, [.ref ab, .int (nI cnt)])), (ab, .inl (cY 0, 8, .inl (m_nf f))), (wd, .inr (4, [.ref wb, .int (nI cnt)])), (wb, .inl (cY 0, 8, .inl (m_nf f)))] H3 := hP
  have hD : va_D A [(nx, .inr (6, [.ref fd, .ref tb, .ref pr, .ref ad, .ref rd, .ref wd, .ref h, .int (nI 1)])), (ad, .inr (4, [.ref ab, .int (nI cnt)])), (ab, .inl (cY 0, 8, .inl (m_nf f))), (wd, .inr (4, [.ref wb, .int (nI cnt)])), (wb, .inl (cY 0, 8, .inl (m_nf f)))] := hD
  subst hQ
  exact m_iret C0 hS dX6_takeSnapshot_23 (u := ()) hP (by first | trivial | rfl | omega)
set_option maxHeartbeats 4000000 in
set_option maxRecDepth 100000 in
theorem c_X6_restoreSnapshot_x1 (l : Launch) (hfl : l.stackTraces = false) (D : va_G) (cY : Nat → ClassId) (eS : Nat → Nat) (eO : Nat) (nx fd tb pr ad rd wd h sk : Nat) (hz : sk = 0) : m_Mx l yX6_restoreSnapshot wsX6_restoreSnapshot 6 96 D cY eS eO [.ref nx] [(nx, .inr (6, [.ref fd, .ref tb, .ref pr, .ref ad, .ref rd, .ref wd, .ref h, .int (nI sk)]))] e_IS (fun (u : Unit) => [(nx, .inr (6, [.ref fd, .ref tb, .ref pr, .ref ad, .ref rd, .ref wd, .ref h, .int (nI sk)]))]) := by
  refine m_enterX (cc := cX6_restoreSnapshot) (maxL := 1) (ret := (some .int)) (by decide +kernel) rfl (Nat.le_of_ble_eq_true rfl) ?_
  intro p e s m below meth c A ls C0 hnt hE hP hD hl
  obtain ⟨hx, hb, hr, hml, hts, hown, hlocks, hK, hA⟩ := id C0
  obtain ⟨hz1, hz2, ⟨hcIO, hcIA, hcIS⟩, hdcl, ⟨hs0, hs1, hs2, hs3, hs4, hs5, hs6, hs7⟩, ⟨hn1, hn2⟩, ⟨hl0, hl1, hl2, hl3, hl4⟩, hzO, htO⟩ := id hE
  generalize hQ : vx_MQ below _ _ _ s 1 6 A = Q
  have hS : va_S A s.heap s.heap [] := va_S.rf
  have hl : lv_has ls 1 [(0, .ref nx)] := hl
  have hwd0 := hts (.fieldLink RX6 50 "NimberField" "snapshotTaken" "Z") (by decide +kernel)
  have hwd1 := (show ∀ w ∈ u_ws RX6 TX6 8, w ∈ wsX6_restoreSnapshot from by decide +kernel)
  have hwd2 := hts (.classLink RX6 74 e_IS) (by decide +kernel)
  have hwd3 := hts (.initialized e_IS) (by decide +kernel)
  refine lv_aload_n hx hb dX6_restoreSnapshot_0 rfl (lv_at hl 0 rfl) ?_
  refine va_get (D := D) (ci := 6) (v := .int (nI sk)) (C := RX6) (T := TX6) (N := 8) hx hb hts hwd1 hown hK hP 0 rfl rfl 7 (by decide) hwd0 (fun _ h9 => h9) rfl dX6_restoreSnapshot_1 ?_
  refine lv_if_ne (tgt := 17) hx hb dX6_restoreSnapshot_4 (by decide) (fun c4 => ?_) (fun c4 => ?_)
  · have c4 : ¬ (sk = 0) := fun qq9 => c4 ((nI_eq (a := sk) (b := 0) (by first | omega | exact Nat.lt_of_le_of_lt Nat.and_le_right (by decide) | exact Nat.lt_trans (nm_lt _ _) (by decide) | exact Nat.lt_trans (np_lt _ _) (by decide) | exact Nat.lt_trans (p_at_lt htx) (by decide)) (by first | omega | exact Nat.lt_of_le_of_lt Nat.and_le_right (by decide) | exact Nat.lt_trans (nm_lt _ _) (by decide) | exact Nat.lt_trans (np_lt _ _) (by decide) | exact Nat.lt_trans (p_at_lt htx) (by decide))).mpr qq9)
    exfalso; omega
  · have c4 : sk = 0 := (nI_eq (a := sk) (b := 0) (by first | omega | exact Nat.lt_of_le_of_lt Nat.and_le_right (by decide) | exact Nat.lt_trans (nm_lt _ _) (by decide) | exact Nat.lt_trans (np_lt _ _) (by decide) | exact Nat.lt_trans (p_at_lt htx) (by decide)) (by first | omega | exact Nat.lt_of_le_of_lt Nat.and_le_right (by decide) | exact Nat.lt_trans (nm_lt _ _) (by decide) | exact Nat.lt_trans (np_lt _ _) (by decide) | exact Nat.lt_trans (p_at_lt htx) (by decide))).mp c4
    subst hQ
    exact m_throw (k := 7) hfl C0 hnt hE hl hP hS (by decide +kernel) hwd2 hwd3 hs7 hcIS (by decide +kernel) (by decide +kernel) (by decide +kernel) dX6_restoreSnapshot_7 dX6_restoreSnapshot_10 dX6_restoreSnapshot_11 dX6_restoreSnapshot_13 dX6_restoreSnapshot_16 (Nat.le_of_ble_eq_true rfl) (Nat.le_of_ble_eq_true rfl) (Nat.le_of_ble_eq_true rfl) (Nat.le_of_ble_eq_true rfl) () rfl
set_option maxHeartbeats 4000000 in
set_option maxRecDepth 100000 in
theorem c_X6_restoreSnapshot (l : Launch) (D : va_G) (cY : Nat → ClassId) (nx fd tb pr ad rd wd h sk : Nat) (ab cnt : Nat) (f : Nat → Nat) (wb sn : Nat) (sf : Nat → Nat) (kp z s0 s1 s2 s3 b0 b1 b2 b3 t0 t1 t2 t3 : Nat) (g0 g1 g2 g3 : Nat → Nat) (hf8 : m_z 8 f) (hf16 : ∀ j, f j < 65536) (hsf8 : m_z 8 sf) (hg0 : m_z 8 g0) (hg1 : m_z 8 g1) (hg2 : m_z 8 g2) (hg3 : m_z 8 g3) (hz4 : z ≤ 4) (hz : sk = 1) : m_Mi l yX6_restoreSnapshot wsX6_restoreSnapshot 3 65 D cY [.ref nx] [(nx, .inr (6, [.ref fd, .ref tb, .ref pr, .ref ad, .ref rd, .ref wd, .ref h, .int (nI sk)])), (ad, .inr (4, [.ref ab, .int (nI cnt)])), (ab, .inl (cY 0, 8, .inl (m_nf f))), (wd, .inr (4, [.ref wb, .int (nI sn)])), (wb, .inl (cY 0, 8, .inl (m_nf sf))), (h, .inr (0, [.ref kp, .int (nI z)])), (kp, .inl (cY 3, 4, .inr (.inr (.inr (.inr (m_k4 s0 s1 s2 s3)))))), (s0, .inr (4, [.ref b0, .int (nI t0)])), (b0, .inl (cY 0, 8, .inl (m_nf g0))), (s1, .inr (4, [.ref b1, .int (nI t1)])), (b1, .inl (cY 0, 8, .inl (m_nf g1))), (s2, .inr (4, [.ref b2, .int (nI t2)])), (b2, .inl (cY 0, 8, .inl (m_nf g2))), (s3, .inr (4, [.ref b3, .int (nI t3)])), (b3, .inl (cY 0, 8, .inl (m_nf g3)))] (fun (res : Int32) (u : Unit) => res = nI (m_xr sf 8)) (fun (u : Unit) => [(nx, .inr (6, [.ref fd, .ref tb, .ref pr, .ref ad, .ref rd, .ref wd, .ref h, .int (nI sk)])), (ad, .inr (4, [.ref ab, .int (nI sn)])), (ab, .inl (cY 0, 8, .inl (m_nf sf))), (wd, .inr (4, [.ref wb, .int (nI sn)])), (wb, .inl (cY 0, 8, .inl (m_nf sf))), (h, .inr (0, [.ref kp, .int (nI (min (z + 1) 4))])), (kp, .inl (cY 3, 4, .inr (.inr (.inr (.inr (m_k4 s0 s1 s2 s3)))))), (s0, .inr (4, [.ref b0, .int (nI cnt)])), (b0, .inl (cY 0, 8, .inl (m_nf f))), (s1, .inr (4, [.ref b1, .int (nI t0)])), (b1, .inl (cY 0, 8, .inl (m_nf g0))), (s2, .inr (4, [.ref b2, .int (nI t1)])), (b2, .inl (cY 0, 8, .inl (m_nf g1))), (s3, .inr (4, [.ref b3, .int (nI t2)])), (b3, .inl (cY 0, 8, .inl (m_nf g2)))]) := by
  refine m_enterI (cc := cX6_restoreSnapshot) (maxL := 1) (ret := (some .int)) (by decide +kernel) rfl (Nat.le_of_ble_eq_true rfl) ?_
  intro p e s m below meth c A ls C0 hP hD hl
  obtain ⟨hx, hb, hr, hml, hts, hown, hlocks, hK, hA⟩ := id C0
  generalize hQ : MQ below _ _ s 0 0 A = Q
  have hS : va_S A s.heap s.heap [] := va_S.rf
  have hl : lv_has ls 1 [(0, .ref nx)] := hl
  have hwd0 := hts (.fieldLink RX6 50 "NimberField" "snapshotTaken" "Z") (by decide +kernel)
  have hwd1 := (show ∀ w ∈ u_ws RX6 TX6 8, w ∈ wsX6_restoreSnapshot from by decide +kernel)
  have hwd2 := hts (.fieldLink RX6 46 "NimberField" "history" "LNimberField$History;") (by decide +kernel)
  have hwd3 := hts (.fieldLink RX6 33 "NimberField" "state" "LNimberField$State;") (by decide +kernel)
  have hwd4 := hts (.fieldLink RX6 40 "NimberField" "snapshot" "LNimberField$State;") (by decide +kernel)
  refine lv_aload_n hx hb dX6_restoreSnapshot_0 rfl (lv_at hl 0 rfl) ?_
  refine va_get (D := D) (ci := 6) (v := .int (nI sk)) (C := RX6) (T := TX6) (N := 8) hx hb hts hwd1 hown hK hP 0 rfl rfl 7 (by decide) hwd0 (fun _ h9 => h9) rfl dX6_restoreSnapshot_1 ?_
  refine lv_if_ne (tgt := 17) hx hb dX6_restoreSnapshot_4 (by decide) (fun c4 => ?_) (fun c4 => ?_)
  · have c4 : ¬ (sk = 0) := fun qq9 => c4 ((nI_eq (a := sk) (b := 0) (by first | omega | exact Nat.lt_of_le_of_lt Nat.and_le_right (by decide) | exact Nat.lt_trans (nm_lt _ _) (by decide) | exact Nat.lt_trans (np_lt _ _) (by decide) | exact Nat.lt_trans (p_at_lt htx) (by decide)) (by first | omega | exact Nat.lt_of_le_of_lt Nat.and_le_right (by decide) | exact Nat.lt_trans (nm_lt _ _) (by decide) | exact Nat.lt_trans (np_lt _ _) (by decide) | exact Nat.lt_trans (p_at_lt htx) (by decide))).mpr qq9)
    refine lv_aload_n hx hb dX6_restoreSnapshot_17 rfl (lv_at hl 0 rfl) ?_
    refine va_get (D := D) (ci := 6) (v := .ref h) (C := RX6) (T := TX6) (N := 8) hx hb hts hwd1 hown hK hP 0 rfl rfl 6 (by decide) hwd2 (fun _ h9 => h9) rfl dX6_restoreSnapshot_18 ?_
    refine lv_aload_n hx hb dX6_restoreSnapshot_21 rfl (lv_at hl 0 rfl) ?_
    refine va_get (D := D) (ci := 6) (v := .ref ad) (C := RX6) (T := TX6) (N := 8) hx hb hts hwd1 hown hK hP 0 rfl rfl 3 (by decide) hwd3 (fun _ h9 => h9) rfl dX6_restoreSnapshot_22 ?_
    refine m_callVv (As := [.ref ad]) (rest := []) C0 hl hP hD hS (c_X0_record l D cY h kp z s0 s1 s2 s3 b0 b1 b2 b3 t0 t1 t2 t3 g0 g1 g2 g3 ad ab cnt f (by first | assumption | omega | exact nm_lt _ _ | exact np_lt _ _ | decide) (by first | assumption | omega | exact nm_lt _ _ | exact np_lt _ _ | decide) (by first | assumption | omega | exact nm_lt _ _ | exact np_lt _ _ | decide) (by first | assumption | omega | exact nm_lt _ _ | exact np_lt _ _ | decide) (by first | assumption | omega | exact nm_lt _ _ | exact np_lt _ _ | decide) (by first | assumption | omega | exact nm_lt _ _ | exact np_lt _ _ | decide)) (cwV 1 hts gX6_restoreSnapshot_X0_record rfl rfl rfl (by decide +kernel) ⟨Nat.le_of_ble_eq_true rfl, Nat.le_of_ble_eq_true rfl⟩) dX6_restoreSnapshot_25 [5, 6, 7, 8, 9, 10, 11, 12, 13, 14, 1, 2] rfl rfl 5 rfl rfl rfl rfl (Nat.le_of_ble_eq_true rfl) (Nat.zero_le _) (Nat.zero_le _) (fun _ => rfl) (fun u H1 locs hw hP hD hS => ?_)
    try dsimp only at hw
    clear hw
    have hP : va_P D vwCl [(nx, .inr (6, [.ref fd, .ref tb, .ref pr, .ref ad, .ref rd, .ref wd, .ref h, .int (nI sk)])), (ad, .inr (4, [.ref ab, .int (nI cnt)])), (ab, .inl (cY 0, 8, .inl (m_nf f))), (wd, .inr (4, [.ref wb, .int (nI sn)])), (wb, .inl (cY 0, 8, .inl (m_nf sf))), (h, .inr (0, [.ref kp, .int (nI (min (z + 1) 4))])), (kp, .inl (cY 3, 4, .inr (.inr (.inr (.inr (m_k4 s0 s1 s2 s3)))))), (s0, .inr (4, [.ref b0, .int (nI cnt)])), (b0, .inl (cY 0, 8, .inl (m_nf f))), (s1, .inr (4, [.ref b1, .int (nI t0)])), (b1, .inl (cY 0, 8, .inl (m_nf g0))), (s2, .inr (4, [.ref b2, .int (nI t1)])), (b2, .inl (cY 0, 8, .inl (m_nf g1))), (s3, .inr (4, [.ref b3, .int (nI t2)])), (b3, .inl (cY 0, 8, .inl (m_nf g2)))] H1 := hP
    have hD : va_D A [(nx, .inr (6, [.ref fd, .ref tb, .ref pr, .ref ad, .ref rd, .ref wd, .ref h, .int (nI sk)])), (ad, .inr (4, [.ref ab, .int (nI cnt)])), (ab, .inl (cY 0, 8, .inl (m_nf f))), (wd, .inr (4, [.ref wb, .int (nI sn)])), (wb, .inl (cY 0, 8, .inl (m_nf sf))), (h, .inr (0, [.ref kp, .int (nI (min (z + 1) 4))])), (kp, .inl (cY 3, 4, .inr (.inr (.inr (.inr (m_k4 s0 s1 s2 s3)))))), (s0, .inr (4, [.ref b0, .int (nI cnt)])), (b0, .inl (cY 0, 8, .inl (m_nf f))), (s1, .inr (4, [.ref b1, .int (nI t0)])), (b1, .inl (cY 0, 8, .inl (m_nf g0))), (s2, .inr (4, [.ref b2, .int (nI t1)])), (b2, .inl (cY 0, 8, .inl (m_nf g1))), (s3, .inr (4, [.ref b3, .int (nI t2)])), (b3, .inl (cY 0, 8, .inl (m_nf g2)))] := hD
    refine lv_aload_n hx hb dX6_restoreSnapshot_28 rfl (lv_at hl 0 rfl) ?_
    refine va_get (D := D) (ci := 6) (v := .ref ad) (C := RX6) (T := TX6) (N := 8) hx hb hts hwd1 hown hK hP 0 rfl rfl 3 (by decide) hwd3 (fun _ h9 => h9) rfl dX6_restoreSnapshot_29 ?_
    refine lv_aload_n hx hb dX6_restoreSnapshot_32 rfl (lv_at hl 0 rfl) ?_
    refine va_get (D := D) (ci := 6) (v := .ref wd) (C := RX6) (T := TX6) (N := 8) hx hb hts hwd1 hown hK hP 0 rfl rfl 5 (by decide) hwd4 (fun _ h9 => h9) rfl dX6_restoreSnapshot_33 ?_
    refine m_callVv (As := [.ref wd]) (rest := []) C0 hl hP hD hS (c_X4_copyFrom l D cY ad ab cnt f wd wb sn sf (by first | assumption | omega | exact nm_lt _ _ | exact np_lt _ _ | decide) (by first | assumption | omega | exact nm_lt _ _ | exact np_lt _ _ | decide)) (cwV 1 hts gX6_restoreSnapshot_X4_copyFrom rfl rfl rfl (by decide +kernel) ⟨Nat.le_of_ble_eq_true rfl, Nat.le_of_ble_eq_true rfl⟩) dX6_restoreSnapshot_36 [1, 2, 3, 4] rfl rfl 1 rfl rfl rfl rfl (Nat.le_of_ble_eq_true rfl) (Nat.zero_le _) (Nat.zero_le _) (fun _ => rfl) (fun u H2 locs hw hP hD hS => ?_)
    try dsimp only at hw
    clear hw
    have hP : va_P D vwCl [(nx, .inr (6, [.ref fd, .ref tb, .ref pr, .ref ad, .ref rd, .ref wd, .ref h, .int (nI sk)])), (ad, .inr (4, [.ref ab, .int (nI sn)])), (ab, .inl (cY 0, 8, .inl (m_nf sf))), (wd, .inr (4, [.ref wb, .int (nI sn)])), (wb, .inl (cY 0, 8, .inl (m_nf sf))), (h, .inr (0, [.ref kp, .int (nI (min (z + 1) 4))])), (kp, .inl (cY 3, 4, .inr (.inr (.inr (.inr (m_k4 s0 s1 s2 s3)))))), (s0, .inr (4, [.ref b0, .int (nI cnt)])), (b0, .inl (cY 0, 8, .inl (m_nf f))), (s1, .inr (4, [.ref b1, .int (nI t0)])), (b1, .inl (cY 0, 8, .inl (m_nf g0))), (s2, .inr (4, [.ref b2, .int (nI t1)])), (b2, .inl (cY 0, 8, .inl (m_nf g1))), (s3, .inr (4, [.ref b3, .int (nI t2)])), (b3, .inl (cY 0, 8, .inl (m_nf g2)))] H2 := hP
    have hD : va_D A [(nx, .inr (6, [.ref fd, .ref tb, .ref pr, .ref ad, .ref rd, .ref wd, .ref h, .int (nI sk)])), (ad, .inr (4, [.ref ab, .int (nI sn)])), (ab, .inl (cY 0, 8, .inl (m_nf sf))), (wd, .inr (4, [.ref wb, .int (nI sn)])), (wb, .inl (cY 0, 8, .inl (m_nf sf))), (h, .inr (0, [.ref kp, .int (nI (min (z + 1) 4))])), (kp, .inl (cY 3, 4, .inr (.inr (.inr (.inr (m_k4 s0 s1 s2 s3)))))), (s0, .inr (4, [.ref b0, .int (nI cnt)])), (b0, .inl (cY 0, 8, .inl (m_nf f))), (s1, .inr (4, [.ref b1, .int (nI t0)])), (b1, .inl (cY 0, 8, .inl (m_nf g0))), (s2, .inr (4, [.ref b2, .int (nI t1)])), (b2, .inl (cY 0, 8, .inl (m_nf g1))), (s3, .inr (4, [.ref b3, .int (nI t2)])), (b3, .inl (cY 0, 8, .inl (m_nf g2)))] := hD
    refine lv_aload_n hx hb dX6_restoreSnapshot_39 rfl (lv_at hl 0 rfl) ?_
    refine va_get (D := D) (ci := 6) (v := .ref ad) (C := RX6) (T := TX6) (N := 8) hx hb hts hwd1 hown hK hP 0 rfl rfl 3 (by decide) hwd3 (fun _ h9 => h9) rfl dX6_restoreSnapshot_40 ?_
    refine m_callVi (As := []) (rest := []) C0 hl hP hD hS (c_X4_sum l D cY ad ab sn sf ) (cwV 0 hts gX6_restoreSnapshot_X4_sum rfl rfl rfl (by decide +kernel) ⟨Nat.le_of_ble_eq_true rfl, Nat.le_of_ble_eq_true rfl⟩) dX6_restoreSnapshot_43 [1, 2] rfl rfl 1 rfl rfl rfl rfl (Nat.le_of_ble_eq_true rfl) (Nat.zero_le _) (Nat.zero_le _) (fun _ => rfl) (fun r4 u H3 locs hw hP hD hS => ?_)
    try dsimp only at hw
    obtain rfl := hw
    have hP : va_P D vwCl [(nx, .inr (6, [.ref fd, .ref tb, .ref pr, .ref ad, .ref rd, .ref wd, .ref h, .int (nI sk)])), (ad, .inr (4, [.ref ab, .int (nI sn)])), (ab, .inl (cY 0, 8, .inl (m_nf sf))), (wd, .inr (4, [.ref wb, .int (nI sn)])), (wb, .inl (cY 0, 8, .inl (m_nf sf))), (h, .inr (0, [.ref kp, .int (nI (min (z + 1) 4))])), (kp, .inl (cY 3, 4, .inr (.inr (.inr (.inr (m_k4 s0 s1 s2 s3)))))), (s0, .inr (4, [.ref b0, .int (nI cnt)])), (b0, .inl (cY 0, 8, .inl (m_nf f))), (s1, .inr (4, [.ref b1, .int (nI t0)])), (b1, .inl (cY 0, 8, .inl (m_nf g0))), (s2, .inr (4, [.ref b2, .int (nI t1)])), (b2, .inl (cY 0, 8, .inl (m_nf g1))), (s3, .inr (4, [.ref b3, .int (nI t2)])), (b3, .inl (cY 0, 8, .inl (m_nf g2)))] H3 := hP
    have hD : va_D A [(nx, .inr (6, [.ref fd, .ref tb, .ref pr, .ref ad, .ref rd, .ref wd, .ref h, .int (nI sk)])), (ad, .inr (4, [.ref ab, .int (nI sn)])), (ab, .inl (cY 0, 8, .inl (m_nf sf))), (wd, .inr (4, [.ref wb, .int (nI sn)])), (wb, .inl (cY 0, 8, .inl (m_nf sf))), (h, .inr (0, [.ref kp, .int (nI (min (z + 1) 4))])), (kp, .inl (cY 3, 4, .inr (.inr (.inr (.inr (m_k4 s0 s1 s2 s3)))))), (s0, .inr (4, [.ref b0, .int (nI cnt)])), (b0, .inl (cY 0, 8, .inl (m_nf f))), (s1, .inr (4, [.ref b1, .int (nI t0)])), (b1, .inl (cY 0, 8, .inl (m_nf g0))), (s2, .inr (4, [.ref b2, .int (nI t1)])), (b2, .inl (cY 0, 8, .inl (m_nf g1))), (s3, .inr (4, [.ref b3, .int (nI t2)])), (b3, .inl (cY 0, 8, .inl (m_nf g2)))] := hD
    subst hQ
    exact m_iret C0 hS dX6_restoreSnapshot_46 (u := ()) hP (by first | trivial | rfl | omega)
  · have c4 : sk = 0 := (nI_eq (a := sk) (b := 0) (by first | omega | exact Nat.lt_of_le_of_lt Nat.and_le_right (by decide) | exact Nat.lt_trans (nm_lt _ _) (by decide) | exact Nat.lt_trans (np_lt _ _) (by decide) | exact Nat.lt_trans (p_at_lt htx) (by decide)) (by first | omega | exact Nat.lt_of_le_of_lt Nat.and_le_right (by decide) | exact Nat.lt_trans (nm_lt _ _) (by decide) | exact Nat.lt_trans (np_lt _ _) (by decide) | exact Nat.lt_trans (p_at_lt htx) (by decide))).mp c4
    exfalso; omega
set_option maxHeartbeats 4000000 in
set_option maxRecDepth 100000 in
theorem c_X6_nimberOf_x1 (l : Launch) (hfl : l.stackTraces = false) (D : va_G) (cY : Nat → ClassId) (eS : Nat → Nat) (eO : Nat) (nx fd tb pr ad rd wd h sk : Nat) (x : Int32) (hn : ¬ m_isR x) : m_Mx l yX6_nimberOf wsX6_nimberOf 7 116 D cY eS eO [.ref nx, .int x] [(nx, .inr (6, [.ref fd, .ref tb, .ref pr, .ref ad, .ref rd, .ref wd, .ref h, .int (nI sk)]))] e_IO (fun (u : Unit) => [(nx, .inr (6, [.ref fd, .ref tb, .ref pr, .ref ad, .ref rd, .ref wd, .ref h, .int (nI sk)]))]) := by
  refine m_enterX (cc := cX6_nimberOf) (maxL := 2) (ret := (some .int)) (by decide +kernel) rfl (Nat.le_of_ble_eq_true rfl) ?_
  intro p e s m below meth c A ls C0 hnt hE hP hD hl
  obtain ⟨hx, hb, hr, hml, hts, hown, hlocks, hK, hA⟩ := id C0
  obtain ⟨hz1, hz2, ⟨hcIO, hcIA, hcIS⟩, hdcl, ⟨hs0, hs1, hs2, hs3, hs4, hs5, hs6, hs7⟩, ⟨hn1, hn2⟩, ⟨hl0, hl1, hl2, hl3, hl4⟩, hzO, htO⟩ := id hE
  generalize hQ : vx_MQ below _ _ _ s 1 6 A = Q
  have hS : va_S A s.heap s.heap [] := va_S.rf
  have hl : lv_has ls 2 [(0, .ref nx), (1, .int x)] := hl
  refine lv_iload_n hx hb dX6_nimberOf_0 rfl (lv_at hl 1 rfl) ?_
  subst hQ
  exact m_callSx (As := [.int x]) (rest := []) C0 hnt hE hl hP hD hS (c_X6_requireRegister_x l hfl D cY eS eO x (by first | assumption | omega | exact nm_lt _ _ | exact np_lt _ _ | decide)) (va_cwS 1 hts gX6_nimberOf_X6_requireRegister rfl rfl rfl (by decide +kernel) ⟨Nat.le_of_ble_eq_true rfl, Nat.le_of_ble_eq_true rfl⟩) dX6_nimberOf_1 [] rfl rfl rfl (Nat.le_of_ble_eq_true rfl) (Nat.le_of_ble_eq_true rfl) (Nat.le_of_ble_eq_true rfl) (fun _ => rfl) (fun _ => ⟨(), rfl⟩)
set_option maxHeartbeats 4000000 in
set_option maxRecDepth 100000 in
theorem c_X6_nimberOf (l : Launch) (D : va_G) (cY : Nat → ClassId) (nx fd tb pr ad rd wd h sk : Nat) (ab cnt : Nat) (f : Nat → Nat) (k : Nat) (hf8 : m_z 8 f) (hf16 : ∀ j, f j < 65536) (hk : k < 8) : m_Mi l yX6_nimberOf wsX6_nimberOf 1 21 D cY [.ref nx, .int (nI k)] [(nx, .inr (6, [.ref fd, .ref tb, .ref pr, .ref ad, .ref rd, .ref wd, .ref h, .int (nI sk)])), (ad, .inr (4, [.ref ab, .int (nI cnt)])), (ab, .inl (cY 0, 8, .inl (m_nf f)))] (fun (res : Int32) (u : Unit) => res = nI (f k)) (fun (u : Unit) => [(nx, .inr (6, [.ref fd, .ref tb, .ref pr, .ref ad, .ref rd, .ref wd, .ref h, .int (nI sk)])), (ad, .inr (4, [.ref ab, .int (nI cnt)])), (ab, .inl (cY 0, 8, .inl (m_nf f)))]) := by
  refine m_enterI (cc := cX6_nimberOf) (maxL := 2) (ret := (some .int)) (by decide +kernel) rfl (Nat.le_of_ble_eq_true rfl) ?_
  intro p e s m below meth c A ls C0 hP hD hl
  obtain ⟨hx, hb, hr, hml, hts, hown, hlocks, hK, hA⟩ := id C0
  generalize hQ : MQ below _ _ s 0 0 A = Q
  have hS : va_S A s.heap s.heap [] := va_S.rf
  have hl : lv_has ls 2 [(0, .ref nx), (1, .int (nI k))] := hl
  have hwd0 := hts (.fieldLink RX6 33 "NimberField" "state" "LNimberField$State;") (by decide +kernel)
  have hwd1 := (show ∀ w ∈ u_ws RX6 TX6 8, w ∈ wsX6_nimberOf from by decide +kernel)
  refine lv_iload_n hx hb dX6_nimberOf_0 rfl (lv_at hl 1 rfl) ?_
  refine m_callSv (As := [.int (nI k)]) (rest := []) C0 hl hP hD hS (c_X6_requireRegister l D cY k (by first | assumption | omega | exact nm_lt _ _ | exact np_lt _ _ | decide)) (va_cwS 1 hts gX6_nimberOf_X6_requireRegister rfl rfl rfl (by decide +kernel) ⟨Nat.le_of_ble_eq_true rfl, Nat.le_of_ble_eq_true rfl⟩) dX6_nimberOf_1 [] rfl rfl rfl (Nat.le_of_ble_eq_true rfl) (Nat.zero_le _) (Nat.zero_le _) (fun _ => rfl) (fun u H1 locs hw hP hD hS => ?_)
  try dsimp only at hw
  clear hw
  have hP : va_P D vwCl [(nx, .inr (6, [.ref fd, .ref tb, .ref pr, .ref ad, .ref rd, .ref wd, .ref h, .int (nI sk)])), (ad, .inr (4, [.ref ab, .int (nI cnt)])), (ab, .inl (cY 0, 8, .inl (m_nf f)))] H1 := hP
  have hD : va_D A [(nx, .inr (6, [.ref fd, .ref tb, .ref pr, .ref ad, .ref rd, .ref wd, .ref h, .int (nI sk)])), (ad, .inr (4, [.ref ab, .int (nI cnt)])), (ab, .inl (cY 0, 8, .inl (m_nf f)))] := hD
  refine lv_aload_n hx hb dX6_nimberOf_4 rfl (lv_at hl 0 rfl) ?_
  refine va_get (D := D) (ci := 6) (v := .ref ad) (C := RX6) (T := TX6) (N := 8) hx hb hts hwd1 hown hK hP 0 rfl rfl 3 (by decide) hwd0 (fun _ h9 => h9) rfl dX6_nimberOf_5 ?_
  refine lv_iload_n hx hb dX6_nimberOf_8 rfl (lv_at hl 1 rfl) ?_
  refine m_callVi (As := [.int (nI k)]) (rest := []) C0 hl hP hD hS (c_X4_nimberIn l D cY ad ab cnt f k (by first | assumption | omega | exact nm_lt _ _ | exact np_lt _ _ | decide)) (cwV 1 hts gX6_nimberOf_X4_nimberIn rfl rfl rfl (by decide +kernel) ⟨Nat.le_of_ble_eq_true rfl, Nat.le_of_ble_eq_true rfl⟩) dX6_nimberOf_9 [1, 2] rfl rfl 1 rfl rfl rfl rfl (Nat.le_of_ble_eq_true rfl) (Nat.zero_le _) (Nat.zero_le _) (fun _ => rfl) (fun r3 u H2 locs hw hP hD hS => ?_)
  try dsimp only at hw
  obtain rfl := hw
  have hP : va_P D vwCl [(nx, .inr (6, [.ref fd, .ref tb, .ref pr, .ref ad, .ref rd, .ref wd, .ref h, .int (nI sk)])), (ad, .inr (4, [.ref ab, .int (nI cnt)])), (ab, .inl (cY 0, 8, .inl (m_nf f)))] H2 := hP
  have hD : va_D A [(nx, .inr (6, [.ref fd, .ref tb, .ref pr, .ref ad, .ref rd, .ref wd, .ref h, .int (nI sk)])), (ad, .inr (4, [.ref ab, .int (nI cnt)])), (ab, .inl (cY 0, 8, .inl (m_nf f)))] := hD
  subst hQ
  exact m_iret C0 hS dX6_nimberOf_12 (u := ()) hP (by first | trivial | rfl | omega)
set_option maxHeartbeats 4000000 in
set_option maxRecDepth 100000 in
theorem c_X6_sumOfAll (l : Launch) (D : va_G) (cY : Nat → ClassId) (nx fd tb pr ad rd wd h sk : Nat) (ab cnt : Nat) (f : Nat → Nat) (hf8 : m_z 8 f) (hf16 : ∀ j, f j < 65536) : m_Mi l yX6_sumOfAll wsX6_sumOfAll 1 22 D cY [.ref nx] [(nx, .inr (6, [.ref fd, .ref tb, .ref pr, .ref ad, .ref rd, .ref wd, .ref h, .int (nI sk)])), (ad, .inr (4, [.ref ab, .int (nI cnt)])), (ab, .inl (cY 0, 8, .inl (m_nf f)))] (fun (res : Int32) (u : Unit) => res = nI (m_xr f 8)) (fun (u : Unit) => [(nx, .inr (6, [.ref fd, .ref tb, .ref pr, .ref ad, .ref rd, .ref wd, .ref h, .int (nI sk)])), (ad, .inr (4, [.ref ab, .int (nI cnt)])), (ab, .inl (cY 0, 8, .inl (m_nf f)))]) := by
  refine m_enterI (cc := cX6_sumOfAll) (maxL := 1) (ret := (some .int)) (by decide +kernel) rfl (Nat.le_of_ble_eq_true rfl) ?_
  intro p e s m below meth c A ls C0 hP hD hl
  obtain ⟨hx, hb, hr, hml, hts, hown, hlocks, hK, hA⟩ := id C0
  generalize hQ : MQ below _ _ s 0 0 A = Q
  have hS : va_S A s.heap s.heap [] := va_S.rf
  have hl : lv_has ls 1 [(0, .ref nx)] := hl
  have hwd0 := hts (.fieldLink RX6 33 "NimberField" "state" "LNimberField$State;") (by decide +kernel)
  have hwd1 := (show ∀ w ∈ u_ws RX6 TX6 8, w ∈ wsX6_sumOfAll from by decide +kernel)
  refine lv_aload_n hx hb dX6_sumOfAll_0 rfl (lv_at hl 0 rfl) ?_
  refine va_get (D := D) (ci := 6) (v := .ref ad) (C := RX6) (T := TX6) (N := 8) hx hb hts hwd1 hown hK hP 0 rfl rfl 3 (by decide) hwd0 (fun _ h9 => h9) rfl dX6_sumOfAll_1 ?_
  refine m_callVi (As := []) (rest := []) C0 hl hP hD hS (c_X4_sum l D cY ad ab cnt f ) (cwV 0 hts gX6_sumOfAll_X4_sum rfl rfl rfl (by decide +kernel) ⟨Nat.le_of_ble_eq_true rfl, Nat.le_of_ble_eq_true rfl⟩) dX6_sumOfAll_4 [1, 2] rfl rfl 1 rfl rfl rfl rfl (Nat.le_of_ble_eq_true rfl) (Nat.zero_le _) (Nat.zero_le _) (fun _ => rfl) (fun r2 u H1 locs hw hP hD hS => ?_)
  try dsimp only at hw
  obtain rfl := hw
  have hP : va_P D vwCl [(nx, .inr (6, [.ref fd, .ref tb, .ref pr, .ref ad, .ref rd, .ref wd, .ref h, .int (nI sk)])), (ad, .inr (4, [.ref ab, .int (nI cnt)])), (ab, .inl (cY 0, 8, .inl (m_nf f)))] H1 := hP
  have hD : va_D A [(nx, .inr (6, [.ref fd, .ref tb, .ref pr, .ref ad, .ref rd, .ref wd, .ref h, .int (nI sk)])), (ad, .inr (4, [.ref ab, .int (nI cnt)])), (ab, .inl (cY 0, 8, .inl (m_nf f)))] := hD
  subst hQ
  exact m_iret C0 hS dX6_sumOfAll_7 (u := ()) hP (by first | trivial | rfl | omega)
set_option maxHeartbeats 4000000 in
set_option maxRecDepth 100000 in
theorem c_X6_registerToLessen (l : Launch) (D : va_G) (cY : Nat → ClassId) (nx fd tb pr ad rd wd h sk : Nat) (ab cnt : Nat) (f : Nat → Nat) (hf8 : m_z 8 f) (hf16 : ∀ j, f j < 65536) : m_Mi l yX6_registerToLessen wsX6_registerToLessen 1 22 D cY [.ref nx] [(nx, .inr (6, [.ref fd, .ref tb, .ref pr, .ref ad, .ref rd, .ref wd, .ref h, .int (nI sk)])), (ad, .inr (4, [.ref ab, .int (nI cnt)])), (ab, .inl (cY 0, 8, .inl (m_nf f)))] (fun (res : Int32) (u : Unit) => res = m_les f (m_xr f 8) 8 0) (fun (u : Unit) => [(nx, .inr (6, [.ref fd, .ref tb, .ref pr, .ref ad, .ref rd, .ref wd, .ref h, .int (nI sk)])), (ad, .inr (4, [.ref ab, .int (nI cnt)])), (ab, .inl (cY 0, 8, .inl (m_nf f)))]) := by
  refine m_enterI (cc := cX6_registerToLessen) (maxL := 4) (ret := (some .int)) (by decide +kernel) rfl (Nat.le_of_ble_eq_true rfl) ?_
  intro p e s m below meth c A ls C0 hP hD hl
  obtain ⟨hx, hb, hr, hml, hts, hown, hlocks, hK, hA⟩ := id C0
  generalize hQ : MQ below _ _ s 0 0 A = Q
  have hS : va_S A s.heap s.heap [] := va_S.rf
  have hl : lv_has ls 4 [(0, .ref nx)] := hl
  have hwd0 := hts (.fieldLink RX6 33 "NimberField" "state" "LNimberField$State;") (by decide +kernel)
  have hwd1 := (show ∀ w ∈ u_ws RX6 TX6 8, w ∈ wsX6_registerToLessen from by decide +kernel)
  refine lv_aload_n hx hb dX6_registerToLessen_0 rfl (lv_at hl 0 rfl) ?_
  refine va_get (D := D) (ci := 6) (v := .ref ad) (C := RX6) (T := TX6) (N := 8) hx hb hts hwd1 hown hK hP 0 rfl rfl 3 (by decide) hwd0 (fun _ h9 => h9) rfl dX6_registerToLessen_1 ?_
  refine m_callVi (As := []) (rest := []) C0 hl hP hD hS (c_X4_sum l D cY ad ab cnt f ) (cwV 0 hts gX6_registerToLessen_X4_sum rfl rfl rfl (by decide +kernel) ⟨Nat.le_of_ble_eq_true rfl, Nat.le_of_ble_eq_true rfl⟩) dX6_registerToLessen_4 [1, 2] rfl rfl 1 rfl rfl rfl rfl (Nat.le_of_ble_eq_true rfl) (Nat.zero_le _) (Nat.zero_le _) (fun _ => rfl) (fun r2 u H1 locs hw hP hD hS => ?_)
  try dsimp only at hw
  obtain rfl := hw
  have hP : va_P D vwCl [(nx, .inr (6, [.ref fd, .ref tb, .ref pr, .ref ad, .ref rd, .ref wd, .ref h, .int (nI sk)])), (ad, .inr (4, [.ref ab, .int (nI cnt)])), (ab, .inl (cY 0, 8, .inl (m_nf f)))] H1 := hP
  have hD : va_D A [(nx, .inr (6, [.ref fd, .ref tb, .ref pr, .ref ad, .ref rd, .ref wd, .ref h, .int (nI sk)])), (ad, .inr (4, [.ref ab, .int (nI cnt)])), (ab, .inl (cY 0, 8, .inl (m_nf f)))] := hD
  refine lv_istore_n (lv' := [(1, .int (nI (m_xr f 8))), (0, .ref nx)]) hx hb dX6_registerToLessen_7 rfl hl (by decide) rfl (fun ls hl => ?_)
  refine lv_iconst (v := nI 0) hx hb dX6_registerToLessen_8 (by decide) ?_
  refine lv_istore_n (lv' := [(2, .int (nI 0)), (1, .int (nI (m_xr f 8))), (0, .ref nx)]) hx hb dX6_registerToLessen_9 rfl hl (by decide) rfl (fun ls hl => ?_)
  have lp10_3 : ∀ (nn : Nat) (k : Nat) (H : Heap) (locs : List Loc) (ls : Array Slot), (k ≤ 8) → (m_les f (m_xr f 8) (8 - k) k = m_les f (m_xr f 8) 8 0) → 8 - k < nn → va_P D vwCl [(nx, .inr (6, [.ref fd, .ref tb, .ref pr, .ref ad, .ref rd, .ref wd, .ref h, .int (nI sk)])), (ad, .inr (4, [.ref ab, .int (nI cnt)])), (ab, .inl (cY 0, 8, .inl (m_nf f)))] H → va_D A [(nx, .inr (6, [.ref fd, .ref tb, .ref pr, .ref ad, .ref rd, .ref wd, .ref h, .int (nI sk)])), (ad, .inr (4, [.ref ab, .int (nI cnt)])), (ab, .inl (cY 0, 8, .inl (m_nf f)))] → va_S A s.heap H locs → lv_has ls 4 [(0, .ref nx), (1, .int (nI (m_xr f 8))), (2, .int (nI k))] → W p l e { frames := 1, cells := 0, slots := 0, locals := 22 } s m ([.ref nx] : List Value).toArray below meth c H locs 0 0 Q (F0 m 10 ls []) := by
    intro nn
    induction nn with
    | zero => intros; omega
    | succ nn ih10 =>
      intro k H locs ls hk hl0 hmz hP hD hS hl
      refine lv_iload_n hx hb dX6_registerToLessen_10 rfl (lv_at hl 2 rfl) ?_
      refine lv_bipush (v := nI 8) hx hb dX6_registerToLessen_11 (by decide) ?_
      refine lv_icmp_ge (tgt := 40) hx hb dX6_registerToLessen_13 (by decide) (fun c13 => ?_) (fun c13 => ?_)
      · have c13 : 8 ≤ k := (nI_leI (a := 8) (b := k) (by first | omega | exact Nat.lt_of_le_of_lt Nat.and_le_right (by decide) | exact Nat.lt_trans (nm_lt _ _) (by decide) | exact Nat.lt_trans (np_lt _ _) (by decide) | exact Nat.lt_trans (p_at_lt htx) (by decide)) (by first | omega | exact Nat.lt_of_le_of_lt Nat.and_le_right (by decide) | exact Nat.lt_trans (nm_lt _ _) (by decide) | exact Nat.lt_trans (np_lt _ _) (by decide) | exact Nat.lt_trans (p_at_lt htx) (by decide))).mp c13
        refine lv_iconst (v := (-1)) hx hb dX6_registerToLessen_40 (by decide) ?_
        subst hQ
        exact m_iret C0 hS dX6_registerToLessen_41 (u := ()) hP (by rw [← hl0, show 8 - k = 0 by omega]; rfl)
      · have c13 : ¬ (8 ≤ k) := fun qq9 => c13 ((nI_leI (a := 8) (b := k) (by first | omega | exact Nat.lt_of_le_of_lt Nat.and_le_right (by decide) | exact Nat.lt_trans (nm_lt _ _) (by decide) | exact Nat.lt_trans (np_lt _ _) (by decide) | exact Nat.lt_trans (p_at_lt htx) (by decide)) (by first | omega | exact Nat.lt_of_le_of_lt Nat.and_le_right (by decide) | exact Nat.lt_trans (nm_lt _ _) (by decide) | exact Nat.lt_trans (np_lt _ _) (by decide) | exact Nat.lt_trans (p_at_lt htx) (by decide))).mpr qq9)
        refine lv_aload_n hx hb dX6_registerToLessen_16 rfl (lv_at hl 0 rfl) ?_
        refine va_get (D := D) (ci := 6) (v := .ref ad) (C := RX6) (T := TX6) (N := 8) hx hb hts hwd1 hown hK hP 0 rfl rfl 3 (by decide) hwd0 (fun _ h9 => h9) rfl dX6_registerToLessen_17 ?_
        refine lv_iload_n hx hb dX6_registerToLessen_20 rfl (lv_at hl 2 rfl) ?_
        refine m_callVi (As := [.int (nI k)]) (rest := []) C0 hl hP hD hS (c_X4_nimberIn l D cY ad ab cnt f k (by first | assumption | omega | exact nm_lt _ _ | exact np_lt _ _ | decide)) (cwV 1 hts gX6_registerToLessen_X4_nimberIn rfl rfl rfl (by decide +kernel) ⟨Nat.le_of_ble_eq_true rfl, Nat.le_of_ble_eq_true rfl⟩) dX6_registerToLessen_21 [1, 2] rfl rfl 1 rfl rfl rfl rfl (Nat.le_of_ble_eq_true rfl) (Nat.zero_le _) (Nat.zero_le _) (fun _ => rfl) (fun r5 u H4 locs hw hP hD hS => ?_)
        try dsimp only at hw
        obtain rfl := hw
        have hP : va_P D vwCl [(nx, .inr (6, [.ref fd, .ref tb, .ref pr, .ref ad, .ref rd, .ref wd, .ref h, .int (nI sk)])), (ad, .inr (4, [.ref ab, .int (nI cnt)])), (ab, .inl (cY 0, 8, .inl (m_nf f)))] H4 := hP
        have hD : va_D A [(nx, .inr (6, [.ref fd, .ref tb, .ref pr, .ref ad, .ref rd, .ref wd, .ref h, .int (nI sk)])), (ad, .inr (4, [.ref ab, .int (nI cnt)])), (ab, .inl (cY 0, 8, .inl (m_nf f)))] := hD
        refine lv_istore_n (lv' := [(3, .int (nI (f k))), (0, .ref nx), (1, .int (nI (m_xr f 8))), (2, .int (nI k))]) hx hb dX6_registerToLessen_24 rfl hl (by decide) rfl (fun ls hl => ?_)
        have hx1 : f k ^^^ m_xr f 8 < 65536 := n_x16 (hf16 k) (m_xr_lt hf16 8)
        have hx2 := hf16 k
        refine lv_iload_n hx hb dX6_registerToLessen_25 rfl (lv_at hl 0 rfl) ?_
        refine lv_iload_n hx hb dX6_registerToLessen_26 rfl (lv_at hl 2 rfl) ?_
        refine lv_ixor hx hb dX6_registerToLessen_27 ?_
        refine lv_topi (nm_r (nx_xor _ _) ?_)
        refine lv_iload_n hx hb dX6_registerToLessen_28 rfl (lv_at hl 0 rfl) ?_
        refine lv_icmp_ge (tgt := 34) hx hb dX6_registerToLessen_29 (by decide) (fun c29 => ?_) (fun c29 => ?_)
        · have c29 : (f k) ≤ ((f k) ^^^ (m_xr f 8)) := (nI_leI (a := (f k)) (b := ((f k) ^^^ (m_xr f 8))) (by first | omega | exact Nat.lt_of_le_of_lt Nat.and_le_right (by decide) | exact Nat.lt_trans (nm_lt _ _) (by decide) | exact Nat.lt_trans (np_lt _ _) (by decide) | exact Nat.lt_trans (p_at_lt htx) (by decide)) (by first | omega | exact Nat.lt_of_le_of_lt Nat.and_le_right (by decide) | exact Nat.lt_trans (nm_lt _ _) (by decide) | exact Nat.lt_trans (np_lt _ _) (by decide) | exact Nat.lt_trans (p_at_lt htx) (by decide))).mp c29
          refine lv_iinc (v := nI (k + 1)) (lv' := [(2, .int (nI (k + 1))), (3, .int (nI (f k))), (0, .ref nx), (1, .int (nI (m_xr f 8)))]) hx hb dX6_registerToLessen_34 hl (k := 3) rfl (nI_add _ 1) (by decide) rfl (fun ls hl => ?_)
          refine lv_goto (tgt := 10) hx hb dX6_registerToLessen_37 (by decide) ?_
          exact ih10 (k + 1) _ _ ls (by first | assumption | omega) ((m_les_f (by omega) (by omega)).trans hl0) (by omega) hP hD hS (lv_sub hl [2, 3, 0] rfl)
        · have c29 : ¬ ((f k) ≤ ((f k) ^^^ (m_xr f 8))) := fun qq9 => c29 ((nI_leI (a := (f k)) (b := ((f k) ^^^ (m_xr f 8))) (by first | omega | exact Nat.lt_of_le_of_lt Nat.and_le_right (by decide) | exact Nat.lt_trans (nm_lt _ _) (by decide) | exact Nat.lt_trans (np_lt _ _) (by decide) | exact Nat.lt_trans (p_at_lt htx) (by decide)) (by first | omega | exact Nat.lt_of_le_of_lt Nat.and_le_right (by decide) | exact Nat.lt_trans (nm_lt _ _) (by decide) | exact Nat.lt_trans (np_lt _ _) (by decide) | exact Nat.lt_trans (p_at_lt htx) (by decide))).mpr qq9)
          refine lv_iload_n hx hb dX6_registerToLessen_32 rfl (lv_at hl 3 rfl) ?_
          subst hQ
          exact m_iret C0 hS dX6_registerToLessen_33 (u := ()) hP (by rw [← hl0, m_les_t (by omega) (by omega)])
  exact lp10_3 _ 0 _ _ ls (by first | assumption | omega) (rfl) (Nat.lt_succ_self _) hP hD hS (lv_sub hl [2, 1, 0] rfl)
set_option maxHeartbeats 4000000 in
set_option maxRecDepth 100000 in
theorem c_X6_productByBits (l : Launch) (D : va_G) (cY : Nat → ClassId) (nx fd tb pr ad rd wd h sk : Nat) (fb : Nat) (bp : Nat → Nat) (x y : Nat) (hB : n_bp bp) (hxx : x < 65536) (hyy : y < 65536) : m_Mi l yX6_productByBits wsX6_productByBits 1 25 D cY [.ref nx, .int (nI x), .int (nI y)] [(nx, .inr (6, [.ref fd, .ref tb, .ref pr, .ref ad, .ref rd, .ref wd, .ref h, .int (nI sk)])), (fd, .inr (2, [.ref fb])), (fb, .inl (cY 0, 256, .inl (m_nf bp)))] (fun (res : Int32) (u : Unit) => res = nI (nm x y)) (fun (u : Unit) => [(nx, .inr (6, [.ref fd, .ref tb, .ref pr, .ref ad, .ref rd, .ref wd, .ref h, .int (nI sk)])), (fd, .inr (2, [.ref fb])), (fb, .inl (cY 0, 256, .inl (m_nf bp)))]) := by
  refine m_enterI (cc := cX6_productByBits) (maxL := 3) (ret := (some .int)) (by decide +kernel) rfl (Nat.le_of_ble_eq_true rfl) ?_
  intro p e s m below meth c A ls C0 hP hD hl
  obtain ⟨hx, hb, hr, hml, hts, hown, hlocks, hK, hA⟩ := id C0
  generalize hQ : MQ below _ _ s 0 0 A = Q
  have hS : va_S A s.heap s.heap [] := va_S.rf
  have hl : lv_has ls 3 [(0, .ref nx), (1, .int (nI x)), (2, .int (nI y))] := hl
  have hwd0 := hts (.constant RX6 58 (65535)) (by decide +kernel)
  have hwd1 := hts (.fieldLink RX6 12 "NimberField" "field" "LNimberField$Nimbers;") (by decide +kernel)
  have hwd2 := (show ∀ w ∈ u_ws RX6 TX6 8, w ∈ wsX6_productByBits from by decide +kernel)
  refine lv_iload_n hx hb dX6_productByBits_0 rfl (lv_at hl 1 rfl) ?_
  refine lv_ldc hx hb hown hwd0 dX6_productByBits_1 ?_
  refine lv_topi (nm_r (show ((65535 : Int32)) = nI 65535 from by decide) ?_)
  refine m_callSv (As := [.int (nI x), .int (nI 65535)]) (rest := []) C0 hl hP hD hS (c_X6_requireRange l D cY x 65535 (by omega) (by decide)) (va_cwS 2 hts gX6_productByBits_X6_requireRange rfl rfl rfl (by decide +kernel) ⟨Nat.le_of_ble_eq_true rfl, Nat.le_of_ble_eq_true rfl⟩) dX6_productByBits_3 [] rfl rfl rfl (Nat.le_of_ble_eq_true rfl) (Nat.zero_le _) (Nat.zero_le _) (fun _ => rfl) (fun u H1 locs hw hP hD hS => ?_)
  try dsimp only at hw
  clear hw
  have hP : va_P D vwCl [(nx, .inr (6, [.ref fd, .ref tb, .ref pr, .ref ad, .ref rd, .ref wd, .ref h, .int (nI sk)])), (fd, .inr (2, [.ref fb])), (fb, .inl (cY 0, 256, .inl (m_nf bp)))] H1 := hP
  have hD : va_D A [(nx, .inr (6, [.ref fd, .ref tb, .ref pr, .ref ad, .ref rd, .ref wd, .ref h, .int (nI sk)])), (fd, .inr (2, [.ref fb])), (fb, .inl (cY 0, 256, .inl (m_nf bp)))] := hD
  refine lv_iload_n hx hb dX6_productByBits_6 rfl (lv_at hl 2 rfl) ?_
  refine lv_ldc hx hb hown hwd0 dX6_productByBits_7 ?_
  refine lv_topi (nm_r (show ((65535 : Int32)) = nI 65535 from by decide) ?_)
  refine m_callSv (As := [.int (nI y), .int (nI 65535)]) (rest := []) C0 hl hP hD hS (c_X6_requireRange l D cY y 65535 (by omega) (by decide)) (va_cwS 2 hts gX6_productByBits_X6_requireRange rfl rfl rfl (by decide +kernel) ⟨Nat.le_of_ble_eq_true rfl, Nat.le_of_ble_eq_true rfl⟩) dX6_productByBits_9 [] rfl rfl rfl (Nat.le_of_ble_eq_true rfl) (Nat.zero_le _) (Nat.zero_le _) (fun _ => rfl) (fun u H2 locs hw hP hD hS => ?_)
  try dsimp only at hw
  clear hw
  have hP : va_P D vwCl [(nx, .inr (6, [.ref fd, .ref tb, .ref pr, .ref ad, .ref rd, .ref wd, .ref h, .int (nI sk)])), (fd, .inr (2, [.ref fb])), (fb, .inl (cY 0, 256, .inl (m_nf bp)))] H2 := hP
  have hD : va_D A [(nx, .inr (6, [.ref fd, .ref tb, .ref pr, .ref ad, .ref rd, .ref wd, .ref h, .int (nI sk)])), (fd, .inr (2, [.ref fb])), (fb, .inl (cY 0, 256, .inl (m_nf bp)))] := hD
  refine lv_aload_n hx hb dX6_productByBits_12 rfl (lv_at hl 0 rfl) ?_
  refine va_get (D := D) (ci := 6) (v := .ref fd) (C := RX6) (T := TX6) (N := 8) hx hb hts hwd2 hown hK hP 0 rfl rfl 0 (by decide) hwd1 (fun _ h9 => h9) rfl dX6_productByBits_13 ?_
  refine lv_iload_n hx hb dX6_productByBits_16 rfl (lv_at hl 1 rfl) ?_
  refine lv_iload_n hx hb dX6_productByBits_17 rfl (lv_at hl 2 rfl) ?_
  refine m_callVi (As := [.int (nI x), .int (nI y)]) (rest := []) C0 hl hP hD hS (c_X2_times l D cY fd fb bp x y (by first | assumption | omega | exact nm_lt _ _ | exact np_lt _ _ | decide) (by first | assumption | omega | exact nm_lt _ _ | exact np_lt _ _ | decide) (by first | assumption | omega | exact nm_lt _ _ | exact np_lt _ _ | decide)) (cwV 2 hts gX6_productByBits_X2_times rfl rfl rfl (by decide +kernel) ⟨Nat.le_of_ble_eq_true rfl, Nat.le_of_ble_eq_true rfl⟩) dX6_productByBits_18 [1, 2] rfl rfl 1 rfl rfl rfl rfl (Nat.le_of_ble_eq_true rfl) (Nat.zero_le _) (Nat.zero_le _) (fun _ => rfl) (fun r4 u H3 locs hw hP hD hS => ?_)
  try dsimp only at hw
  obtain rfl := hw
  have hP : va_P D vwCl [(nx, .inr (6, [.ref fd, .ref tb, .ref pr, .ref ad, .ref rd, .ref wd, .ref h, .int (nI sk)])), (fd, .inr (2, [.ref fb])), (fb, .inl (cY 0, 256, .inl (m_nf bp)))] H3 := hP
  have hD : va_D A [(nx, .inr (6, [.ref fd, .ref tb, .ref pr, .ref ad, .ref rd, .ref wd, .ref h, .int (nI sk)])), (fd, .inr (2, [.ref fb])), (fb, .inl (cY 0, 256, .inl (m_nf bp)))] := hD
  subst hQ
  exact m_iret C0 hS dX6_productByBits_21 (u := ()) hP (by first | trivial | rfl | omega)
set_option maxHeartbeats 4000000 in
set_option maxRecDepth 100000 in
theorem c_X6_productByBits_x1 (l : Launch) (hfl : l.stackTraces = false) (D : va_G) (cY : Nat → ClassId) (eS : Nat → Nat) (eO : Nat) (nx fd tb pr ad rd wd h sk : Nat) (x y : Int32) (hn : ¬ (m_isN x ∧ m_isN y)) : m_Mx l yX6_productByBits wsX6_productByBits 7 117 D cY eS eO [.ref nx, .int x, .int y] [(nx, .inr (6, [.ref fd, .ref tb, .ref pr, .ref ad, .ref rd, .ref wd, .ref h, .int (nI sk)]))] e_IA (fun (u : Unit) => [(nx, .inr (6, [.ref fd, .ref tb, .ref pr, .ref ad, .ref rd, .ref wd, .ref h, .int (nI sk)]))]) := by
  refine m_enterX (cc := cX6_productByBits) (maxL := 3) (ret := (some .int)) (by decide +kernel) rfl (Nat.le_of_ble_eq_true rfl) ?_
  intro p e s m below meth c A ls C0 hnt hE hP hD hl
  obtain ⟨hx, hb, hr, hml, hts, hown, hlocks, hK, hA⟩ := id C0
  obtain ⟨hz1, hz2, ⟨hcIO, hcIA, hcIS⟩, hdcl, ⟨hs0, hs1, hs2, hs3, hs4, hs5, hs6, hs7⟩, ⟨hn1, hn2⟩, ⟨hl0, hl1, hl2, hl3, hl4⟩, hzO, htO⟩ := id hE
  generalize hQ : vx_MQ below _ _ _ s 1 6 A = Q
  have hS : va_S A s.heap s.heap [] := va_S.rf
  have hl : lv_has ls 3 [(0, .ref nx), (1, .int x), (2, .int y)] := hl
  have hwd0 := hts (.constant RX6 58 (65535)) (by decide +kernel)
  rcases Decidable.em (m_isN x) with hc | hc
  · skip
    obtain ⟨k, hk, rfl⟩ := m_isN_to hc
    refine lv_iload_n hx hb dX6_productByBits_0 rfl (lv_at hl 1 rfl) ?_
    refine lv_ldc hx hb hown hwd0 dX6_productByBits_1 ?_
    refine lv_topi (nm_r (show ((65535 : Int32)) = nI 65535 from by decide) ?_)
    refine m_callSv (As := [.int (nI k), .int (nI 65535)]) (rest := []) C0 hl hP hD hS (c_X6_requireRange l D cY k 65535 (by omega) (by decide)) (va_cwS 2 hts gX6_productByBits_X6_requireRange rfl rfl rfl (by decide +kernel) ⟨Nat.le_of_ble_eq_true rfl, Nat.le_of_ble_eq_true rfl⟩) dX6_productByBits_3 [] rfl rfl rfl (Nat.le_of_ble_eq_true rfl) (Nat.zero_le _) (Nat.zero_le _) (fun _ => rfl) (fun u H1 locs hw hP hD hS => ?_)
    try dsimp only at hw
    clear hw
    have hP : va_P D vwCl [(nx, .inr (6, [.ref fd, .ref tb, .ref pr, .ref ad, .ref rd, .ref wd, .ref h, .int (nI sk)]))] H1 := hP
    have hD : va_D A [(nx, .inr (6, [.ref fd, .ref tb, .ref pr, .ref ad, .ref rd, .ref wd, .ref h, .int (nI sk)]))] := hD
    refine lv_iload_n hx hb dX6_productByBits_6 rfl (lv_at hl 2 rfl) ?_
    refine lv_ldc hx hb hown hwd0 dX6_productByBits_7 ?_
    refine lv_topi (nm_r (show ((65535 : Int32)) = nI 65535 from by decide) ?_)
    subst hQ
    exact m_callSx (As := [.int y, .int (nI 65535)]) (rest := []) C0 hnt hE hl hP hD hS (c_X6_requireRange_x l hfl D cY eS eO y (nI 65535) (fun q => hn ⟨hc, q⟩)) (va_cwS 2 hts gX6_productByBits_X6_requireRange rfl rfl rfl (by decide +kernel) ⟨Nat.le_of_ble_eq_true rfl, Nat.le_of_ble_eq_true rfl⟩) dX6_productByBits_9 [] rfl rfl rfl (Nat.le_of_ble_eq_true rfl) (Nat.le_of_ble_eq_true rfl) (Nat.le_of_ble_eq_true rfl) (fun _ => rfl) (fun _ => ⟨(), rfl⟩)
  · skip
    refine lv_iload_n hx hb dX6_productByBits_0 rfl (lv_at hl 1 rfl) ?_
    refine lv_ldc hx hb hown hwd0 dX6_productByBits_1 ?_
    refine lv_topi (nm_r (show ((65535 : Int32)) = nI 65535 from by decide) ?_)
    subst hQ
    exact m_callSx (As := [.int x, .int (nI 65535)]) (rest := []) C0 hnt hE hl hP hD hS (c_X6_requireRange_x l hfl D cY eS eO x (nI 65535) (hc)) (va_cwS 2 hts gX6_productByBits_X6_requireRange rfl rfl rfl (by decide +kernel) ⟨Nat.le_of_ble_eq_true rfl, Nat.le_of_ble_eq_true rfl⟩) dX6_productByBits_3 [] rfl rfl rfl (Nat.le_of_ble_eq_true rfl) (Nat.le_of_ble_eq_true rfl) (Nat.le_of_ble_eq_true rfl) (fun _ => rfl) (fun _ => ⟨(), rfl⟩)
set_option maxHeartbeats 4000000 in
set_option maxRecDepth 100000 in
theorem c_X6_quotient (l : Launch) (D : va_G) (cY : Nat → ClassId) (nx fd tb pr ad rd wd h sk : Nat) (fb : Nat) (bp : Nat → Nat) (x y : Nat) (hB : n_bp bp) (hxx : x < 65536) (hyy : y < 65536) : m_Mi l yX6_quotient wsX6_quotient 2 50 D cY [.ref nx, .int (nI x), .int (nI y)] [(nx, .inr (6, [.ref fd, .ref tb, .ref pr, .ref ad, .ref rd, .ref wd, .ref h, .int (nI sk)])), (fd, .inr (2, [.ref fb])), (fb, .inl (cY 0, 256, .inl (m_nf bp)))] (fun (res : Int32) (u : Unit) => res = n_div x y) (fun (u : Unit) => [(nx, .inr (6, [.ref fd, .ref tb, .ref pr, .ref ad, .ref rd, .ref wd, .ref h, .int (nI sk)])), (fd, .inr (2, [.ref fb])), (fb, .inl (cY 0, 256, .inl (m_nf bp)))]) := by
  refine m_enterI (cc := cX6_quotient) (maxL := 3) (ret := (some .int)) (by decide +kernel) rfl (Nat.le_of_ble_eq_true rfl) ?_
  intro p e s m below meth c A ls C0 hP hD hl
  obtain ⟨hx, hb, hr, hml, hts, hown, hlocks, hK, hA⟩ := id C0
  generalize hQ : MQ below _ _ s 0 0 A = Q
  have hS : va_S A s.heap s.heap [] := va_S.rf
  have hl : lv_has ls 3 [(0, .ref nx), (1, .int (nI x)), (2, .int (nI y))] := hl
  have hwd0 := hts (.constant RX6 58 (65535)) (by decide +kernel)
  have hwd1 := hts (.fieldLink RX6 12 "NimberField" "field" "LNimberField$Nimbers;") (by decide +kernel)
  have hwd2 := (show ∀ w ∈ u_ws RX6 TX6 8, w ∈ wsX6_quotient from by decide +kernel)
  refine lv_iload_n hx hb dX6_quotient_0 rfl (lv_at hl 1 rfl) ?_
  refine lv_ldc hx hb hown hwd0 dX6_quotient_1 ?_
  refine lv_topi (nm_r (show ((65535 : Int32)) = nI 65535 from by decide) ?_)
  refine m_callSv (As := [.int (nI x), .int (nI 65535)]) (rest := []) C0 hl hP hD hS (c_X6_requireRange l D cY x 65535 (by omega) (by decide)) (va_cwS 2 hts gX6_quotient_X6_requireRange rfl rfl rfl (by decide +kernel) ⟨Nat.le_of_ble_eq_true rfl, Nat.le_of_ble_eq_true rfl⟩) dX6_quotient_3 [] rfl rfl rfl (Nat.le_of_ble_eq_true rfl) (Nat.zero_le _) (Nat.zero_le _) (fun _ => rfl) (fun u H1 locs hw hP hD hS => ?_)
  try dsimp only at hw
  clear hw
  have hP : va_P D vwCl [(nx, .inr (6, [.ref fd, .ref tb, .ref pr, .ref ad, .ref rd, .ref wd, .ref h, .int (nI sk)])), (fd, .inr (2, [.ref fb])), (fb, .inl (cY 0, 256, .inl (m_nf bp)))] H1 := hP
  have hD : va_D A [(nx, .inr (6, [.ref fd, .ref tb, .ref pr, .ref ad, .ref rd, .ref wd, .ref h, .int (nI sk)])), (fd, .inr (2, [.ref fb])), (fb, .inl (cY 0, 256, .inl (m_nf bp)))] := hD
  refine lv_iload_n hx hb dX6_quotient_6 rfl (lv_at hl 2 rfl) ?_
  refine lv_ldc hx hb hown hwd0 dX6_quotient_7 ?_
  refine lv_topi (nm_r (show ((65535 : Int32)) = nI 65535 from by decide) ?_)
  refine m_callSv (As := [.int (nI y), .int (nI 65535)]) (rest := []) C0 hl hP hD hS (c_X6_requireRange l D cY y 65535 (by omega) (by decide)) (va_cwS 2 hts gX6_quotient_X6_requireRange rfl rfl rfl (by decide +kernel) ⟨Nat.le_of_ble_eq_true rfl, Nat.le_of_ble_eq_true rfl⟩) dX6_quotient_9 [] rfl rfl rfl (Nat.le_of_ble_eq_true rfl) (Nat.zero_le _) (Nat.zero_le _) (fun _ => rfl) (fun u H2 locs hw hP hD hS => ?_)
  try dsimp only at hw
  clear hw
  have hP : va_P D vwCl [(nx, .inr (6, [.ref fd, .ref tb, .ref pr, .ref ad, .ref rd, .ref wd, .ref h, .int (nI sk)])), (fd, .inr (2, [.ref fb])), (fb, .inl (cY 0, 256, .inl (m_nf bp)))] H2 := hP
  have hD : va_D A [(nx, .inr (6, [.ref fd, .ref tb, .ref pr, .ref ad, .ref rd, .ref wd, .ref h, .int (nI sk)])), (fd, .inr (2, [.ref fb])), (fb, .inl (cY 0, 256, .inl (m_nf bp)))] := hD
  refine lv_aload_n hx hb dX6_quotient_12 rfl (lv_at hl 0 rfl) ?_
  refine va_get (D := D) (ci := 6) (v := .ref fd) (C := RX6) (T := TX6) (N := 8) hx hb hts hwd2 hown hK hP 0 rfl rfl 0 (by decide) hwd1 (fun _ h9 => h9) rfl dX6_quotient_13 ?_
  refine lv_iload_n hx hb dX6_quotient_16 rfl (lv_at hl 1 rfl) ?_
  refine lv_iload_n hx hb dX6_quotient_17 rfl (lv_at hl 2 rfl) ?_
  refine m_callVi (As := [.int (nI x), .int (nI y)]) (rest := []) C0 hl hP hD hS (c_X2_dividedBy l D cY fd fb bp x y (by first | assumption | omega | exact nm_lt _ _ | exact np_lt _ _ | decide) (by first | assumption | omega | exact nm_lt _ _ | exact np_lt _ _ | decide) (by first | assumption | omega | exact nm_lt _ _ | exact np_lt _ _ | decide)) (cwV 2 hts gX6_quotient_X2_dividedBy rfl rfl rfl (by decide +kernel) ⟨Nat.le_of_ble_eq_true rfl, Nat.le_of_ble_eq_true rfl⟩) dX6_quotient_18 [1, 2] rfl rfl 1 rfl rfl rfl rfl (Nat.le_of_ble_eq_true rfl) (Nat.zero_le _) (Nat.zero_le _) (fun _ => rfl) (fun r4 u H3 locs hw hP hD hS => ?_)
  try dsimp only at hw
  obtain rfl := hw
  have hP : va_P D vwCl [(nx, .inr (6, [.ref fd, .ref tb, .ref pr, .ref ad, .ref rd, .ref wd, .ref h, .int (nI sk)])), (fd, .inr (2, [.ref fb])), (fb, .inl (cY 0, 256, .inl (m_nf bp)))] H3 := hP
  have hD : va_D A [(nx, .inr (6, [.ref fd, .ref tb, .ref pr, .ref ad, .ref rd, .ref wd, .ref h, .int (nI sk)])), (fd, .inr (2, [.ref fb])), (fb, .inl (cY 0, 256, .inl (m_nf bp)))] := hD
  subst hQ
  exact m_iret C0 hS dX6_quotient_21 (u := ()) hP (by first | trivial | rfl | omega)
set_option maxHeartbeats 4000000 in
set_option maxRecDepth 100000 in
theorem c_X6_quotient_x1 (l : Launch) (hfl : l.stackTraces = false) (D : va_G) (cY : Nat → ClassId) (eS : Nat → Nat) (eO : Nat) (nx fd tb pr ad rd wd h sk : Nat) (x y : Int32) (hn : ¬ (m_isN x ∧ m_isN y)) : m_Mx l yX6_quotient wsX6_quotient 7 117 D cY eS eO [.ref nx, .int x, .int y] [(nx, .inr (6, [.ref fd, .ref tb, .ref pr, .ref ad, .ref rd, .ref wd, .ref h, .int (nI sk)]))] e_IA (fun (u : Unit) => [(nx, .inr (6, [.ref fd, .ref tb, .ref pr, .ref ad, .ref rd, .ref wd, .ref h, .int (nI sk)]))]) := by
  refine m_enterX (cc := cX6_quotient) (maxL := 3) (ret := (some .int)) (by decide +kernel) rfl (Nat.le_of_ble_eq_true rfl) ?_
  intro p e s m below meth c A ls C0 hnt hE hP hD hl
  obtain ⟨hx, hb, hr, hml, hts, hown, hlocks, hK, hA⟩ := id C0
  obtain ⟨hz1, hz2, ⟨hcIO, hcIA, hcIS⟩, hdcl, ⟨hs0, hs1, hs2, hs3, hs4, hs5, hs6, hs7⟩, ⟨hn1, hn2⟩, ⟨hl0, hl1, hl2, hl3, hl4⟩, hzO, htO⟩ := id hE
  generalize hQ : vx_MQ below _ _ _ s 1 6 A = Q
  have hS : va_S A s.heap s.heap [] := va_S.rf
  have hl : lv_has ls 3 [(0, .ref nx), (1, .int x), (2, .int y)] := hl
  have hwd0 := hts (.constant RX6 58 (65535)) (by decide +kernel)
  rcases Decidable.em (m_isN x) with hc | hc
  · skip
    obtain ⟨k, hk, rfl⟩ := m_isN_to hc
    refine lv_iload_n hx hb dX6_quotient_0 rfl (lv_at hl 1 rfl) ?_
    refine lv_ldc hx hb hown hwd0 dX6_quotient_1 ?_
    refine lv_topi (nm_r (show ((65535 : Int32)) = nI 65535 from by decide) ?_)
    refine m_callSv (As := [.int (nI k), .int (nI 65535)]) (rest := []) C0 hl hP hD hS (c_X6_requireRange l D cY k 65535 (by omega) (by decide)) (va_cwS 2 hts gX6_quotient_X6_requireRange rfl rfl rfl (by decide +kernel) ⟨Nat.le_of_ble_eq_true rfl, Nat.le_of_ble_eq_true rfl⟩) dX6_quotient_3 [] rfl rfl rfl (Nat.le_of_ble_eq_true rfl) (Nat.zero_le _) (Nat.zero_le _) (fun _ => rfl) (fun u H1 locs hw hP hD hS => ?_)
    try dsimp only at hw
    clear hw
    have hP : va_P D vwCl [(nx, .inr (6, [.ref fd, .ref tb, .ref pr, .ref ad, .ref rd, .ref wd, .ref h, .int (nI sk)]))] H1 := hP
    have hD : va_D A [(nx, .inr (6, [.ref fd, .ref tb, .ref pr, .ref ad, .ref rd, .ref wd, .ref h, .int (nI sk)]))] := hD
    refine lv_iload_n hx hb dX6_quotient_6 rfl (lv_at hl 2 rfl) ?_
    refine lv_ldc hx hb hown hwd0 dX6_quotient_7 ?_
    refine lv_topi (nm_r (show ((65535 : Int32)) = nI 65535 from by decide) ?_)
    subst hQ
    exact m_callSx (As := [.int y, .int (nI 65535)]) (rest := []) C0 hnt hE hl hP hD hS (c_X6_requireRange_x l hfl D cY eS eO y (nI 65535) (fun q => hn ⟨hc, q⟩)) (va_cwS 2 hts gX6_quotient_X6_requireRange rfl rfl rfl (by decide +kernel) ⟨Nat.le_of_ble_eq_true rfl, Nat.le_of_ble_eq_true rfl⟩) dX6_quotient_9 [] rfl rfl rfl (Nat.le_of_ble_eq_true rfl) (Nat.le_of_ble_eq_true rfl) (Nat.le_of_ble_eq_true rfl) (fun _ => rfl) (fun _ => ⟨(), rfl⟩)
  · skip
    refine lv_iload_n hx hb dX6_quotient_0 rfl (lv_at hl 1 rfl) ?_
    refine lv_ldc hx hb hown hwd0 dX6_quotient_1 ?_
    refine lv_topi (nm_r (show ((65535 : Int32)) = nI 65535 from by decide) ?_)
    subst hQ
    exact m_callSx (As := [.int x, .int (nI 65535)]) (rest := []) C0 hnt hE hl hP hD hS (c_X6_requireRange_x l hfl D cY eS eO x (nI 65535) (hc)) (va_cwS 2 hts gX6_quotient_X6_requireRange rfl rfl rfl (by decide +kernel) ⟨Nat.le_of_ble_eq_true rfl, Nat.le_of_ble_eq_true rfl⟩) dX6_quotient_3 [] rfl rfl rfl (Nat.le_of_ble_eq_true rfl) (Nat.le_of_ble_eq_true rfl) (Nat.le_of_ble_eq_true rfl) (fun _ => rfl) (fun _ => ⟨(), rfl⟩)
set_option maxHeartbeats 4000000 in
set_option maxRecDepth 100000 in
theorem c_X6_power (l : Launch) (D : va_G) (cY : Nat → ClassId) (nx fd tb pr ad rd wd h sk : Nat) (fb : Nat) (bp : Nat → Nat) (x y : Nat) (hB : n_bp bp) (hxx : x < 65536) (hyy : y ≤ 1000000000) : m_Mi l yX6_power wsX6_power 2 50 D cY [.ref nx, .int (nI x), .int (nI y)] [(nx, .inr (6, [.ref fd, .ref tb, .ref pr, .ref ad, .ref rd, .ref wd, .ref h, .int (nI sk)])), (fd, .inr (2, [.ref fb])), (fb, .inl (cY 0, 256, .inl (m_nf bp)))] (fun (res : Int32) (u : Unit) => res = nI (np x y)) (fun (u : Unit) => [(nx, .inr (6, [.ref fd, .ref tb, .ref pr, .ref ad, .ref rd, .ref wd, .ref h, .int (nI sk)])), (fd, .inr (2, [.ref fb])), (fb, .inl (cY 0, 256, .inl (m_nf bp)))]) := by
  refine m_enterI (cc := cX6_power) (maxL := 3) (ret := (some .int)) (by decide +kernel) rfl (Nat.le_of_ble_eq_true rfl) ?_
  intro p e s m below meth c A ls C0 hP hD hl
  obtain ⟨hx, hb, hr, hml, hts, hown, hlocks, hK, hA⟩ := id C0
  generalize hQ : MQ below _ _ s 0 0 A = Q
  have hS : va_S A s.heap s.heap [] := va_S.rf
  have hl : lv_has ls 3 [(0, .ref nx), (1, .int (nI x)), (2, .int (nI y))] := hl
  have hwd0 := hts (.constant RX6 58 (65535)) (by decide +kernel)
  have hwd1 := hts (.constant RX6 149 (1000000000)) (by decide +kernel)
  have hwd2 := hts (.fieldLink RX6 12 "NimberField" "field" "LNimberField$Nimbers;") (by decide +kernel)
  have hwd3 := (show ∀ w ∈ u_ws RX6 TX6 8, w ∈ wsX6_power from by decide +kernel)
  refine lv_iload_n hx hb dX6_power_0 rfl (lv_at hl 1 rfl) ?_
  refine lv_ldc hx hb hown hwd0 dX6_power_1 ?_
  refine lv_topi (nm_r (show ((65535 : Int32)) = nI 65535 from by decide) ?_)
  refine m_callSv (As := [.int (nI x), .int (nI 65535)]) (rest := []) C0 hl hP hD hS (c_X6_requireRange l D cY x 65535 (by omega) (by decide)) (va_cwS 2 hts gX6_power_X6_requireRange rfl rfl rfl (by decide +kernel) ⟨Nat.le_of_ble_eq_true rfl, Nat.le_of_ble_eq_true rfl⟩) dX6_power_3 [] rfl rfl rfl (Nat.le_of_ble_eq_true rfl) (Nat.zero_le _) (Nat.zero_le _) (fun _ => rfl) (fun u H1 locs hw hP hD hS => ?_)
  try dsimp only at hw
  clear hw
  have hP : va_P D vwCl [(nx, .inr (6, [.ref fd, .ref tb, .ref pr, .ref ad, .ref rd, .ref wd, .ref h, .int (nI sk)])), (fd, .inr (2, [.ref fb])), (fb, .inl (cY 0, 256, .inl (m_nf bp)))] H1 := hP
  have hD : va_D A [(nx, .inr (6, [.ref fd, .ref tb, .ref pr, .ref ad, .ref rd, .ref wd, .ref h, .int (nI sk)])), (fd, .inr (2, [.ref fb])), (fb, .inl (cY 0, 256, .inl (m_nf bp)))] := hD
  refine lv_iload_n hx hb dX6_power_6 rfl (lv_at hl 2 rfl) ?_
  refine lv_ldc hx hb hown hwd1 dX6_power_7 ?_
  refine lv_topi (nm_r (show ((1000000000 : Int32)) = nI 1000000000 from by decide) ?_)
  refine m_callSv (As := [.int (nI y), .int (nI 1000000000)]) (rest := []) C0 hl hP hD hS (c_X6_requireRange l D cY y 1000000000 (by omega) (by decide)) (va_cwS 2 hts gX6_power_X6_requireRange rfl rfl rfl (by decide +kernel) ⟨Nat.le_of_ble_eq_true rfl, Nat.le_of_ble_eq_true rfl⟩) dX6_power_9 [] rfl rfl rfl (Nat.le_of_ble_eq_true rfl) (Nat.zero_le _) (Nat.zero_le _) (fun _ => rfl) (fun u H2 locs hw hP hD hS => ?_)
  try dsimp only at hw
  clear hw
  have hP : va_P D vwCl [(nx, .inr (6, [.ref fd, .ref tb, .ref pr, .ref ad, .ref rd, .ref wd, .ref h, .int (nI sk)])), (fd, .inr (2, [.ref fb])), (fb, .inl (cY 0, 256, .inl (m_nf bp)))] H2 := hP
  have hD : va_D A [(nx, .inr (6, [.ref fd, .ref tb, .ref pr, .ref ad, .ref rd, .ref wd, .ref h, .int (nI sk)])), (fd, .inr (2, [.ref fb])), (fb, .inl (cY 0, 256, .inl (m_nf bp)))] := hD
  refine lv_aload_n hx hb dX6_power_12 rfl (lv_at hl 0 rfl) ?_
  refine va_get (D := D) (ci := 6) (v := .ref fd) (C := RX6) (T := TX6) (N := 8) hx hb hts hwd3 hown hK hP 0 rfl rfl 0 (by decide) hwd2 (fun _ h9 => h9) rfl dX6_power_13 ?_
  refine lv_iload_n hx hb dX6_power_16 rfl (lv_at hl 1 rfl) ?_
  refine lv_iload_n hx hb dX6_power_17 rfl (lv_at hl 2 rfl) ?_
  refine m_callVi (As := [.int (nI x), .int (nI y)]) (rest := []) C0 hl hP hD hS (c_X2_raised l D cY fd fb bp x y (by first | assumption | omega | exact nm_lt _ _ | exact np_lt _ _ | decide) (by first | assumption | omega | exact nm_lt _ _ | exact np_lt _ _ | decide) (by first | assumption | omega | exact nm_lt _ _ | exact np_lt _ _ | decide)) (cwV 2 hts gX6_power_X2_raised rfl rfl rfl (by decide +kernel) ⟨Nat.le_of_ble_eq_true rfl, Nat.le_of_ble_eq_true rfl⟩) dX6_power_18 [1, 2] rfl rfl 1 rfl rfl rfl rfl (Nat.le_of_ble_eq_true rfl) (Nat.zero_le _) (Nat.zero_le _) (fun _ => rfl) (fun r4 u H3 locs hw hP hD hS => ?_)
  try dsimp only at hw
  obtain rfl := hw
  have hP : va_P D vwCl [(nx, .inr (6, [.ref fd, .ref tb, .ref pr, .ref ad, .ref rd, .ref wd, .ref h, .int (nI sk)])), (fd, .inr (2, [.ref fb])), (fb, .inl (cY 0, 256, .inl (m_nf bp)))] H3 := hP
  have hD : va_D A [(nx, .inr (6, [.ref fd, .ref tb, .ref pr, .ref ad, .ref rd, .ref wd, .ref h, .int (nI sk)])), (fd, .inr (2, [.ref fb])), (fb, .inl (cY 0, 256, .inl (m_nf bp)))] := hD
  subst hQ
  exact m_iret C0 hS dX6_power_21 (u := ()) hP (by first | trivial | rfl | omega)
set_option maxHeartbeats 4000000 in
set_option maxRecDepth 100000 in
theorem c_X6_power_x1 (l : Launch) (hfl : l.stackTraces = false) (D : va_G) (cY : Nat → ClassId) (eS : Nat → Nat) (eO : Nat) (nx fd tb pr ad rd wd h sk : Nat) (x y : Int32) (hn : ¬ (m_isN x ∧ m_inI y 0 1000000000)) : m_Mx l yX6_power wsX6_power 7 117 D cY eS eO [.ref nx, .int x, .int y] [(nx, .inr (6, [.ref fd, .ref tb, .ref pr, .ref ad, .ref rd, .ref wd, .ref h, .int (nI sk)]))] e_IA (fun (u : Unit) => [(nx, .inr (6, [.ref fd, .ref tb, .ref pr, .ref ad, .ref rd, .ref wd, .ref h, .int (nI sk)]))]) := by
  refine m_enterX (cc := cX6_power) (maxL := 3) (ret := (some .int)) (by decide +kernel) rfl (Nat.le_of_ble_eq_true rfl) ?_
  intro p e s m below meth c A ls C0 hnt hE hP hD hl
  obtain ⟨hx, hb, hr, hml, hts, hown, hlocks, hK, hA⟩ := id C0
  obtain ⟨hz1, hz2, ⟨hcIO, hcIA, hcIS⟩, hdcl, ⟨hs0, hs1, hs2, hs3, hs4, hs5, hs6, hs7⟩, ⟨hn1, hn2⟩, ⟨hl0, hl1, hl2, hl3, hl4⟩, hzO, htO⟩ := id hE
  generalize hQ : vx_MQ below _ _ _ s 1 6 A = Q
  have hS : va_S A s.heap s.heap [] := va_S.rf
  have hl : lv_has ls 3 [(0, .ref nx), (1, .int x), (2, .int y)] := hl
  have hwd0 := hts (.constant RX6 58 (65535)) (by decide +kernel)
  have hwd1 := hts (.constant RX6 149 (1000000000)) (by decide +kernel)
  rcases Decidable.em (m_isN x) with hc | hc
  · skip
    obtain ⟨k, hk, rfl⟩ := m_isN_to hc
    refine lv_iload_n hx hb dX6_power_0 rfl (lv_at hl 1 rfl) ?_
    refine lv_ldc hx hb hown hwd0 dX6_power_1 ?_
    refine lv_topi (nm_r (show ((65535 : Int32)) = nI 65535 from by decide) ?_)
    refine m_callSv (As := [.int (nI k), .int (nI 65535)]) (rest := []) C0 hl hP hD hS (c_X6_requireRange l D cY k 65535 (by omega) (by decide)) (va_cwS 2 hts gX6_power_X6_requireRange rfl rfl rfl (by decide +kernel) ⟨Nat.le_of_ble_eq_true rfl, Nat.le_of_ble_eq_true rfl⟩) dX6_power_3 [] rfl rfl rfl (Nat.le_of_ble_eq_true rfl) (Nat.zero_le _) (Nat.zero_le _) (fun _ => rfl) (fun u H1 locs hw hP hD hS => ?_)
    try dsimp only at hw
    clear hw
    have hP : va_P D vwCl [(nx, .inr (6, [.ref fd, .ref tb, .ref pr, .ref ad, .ref rd, .ref wd, .ref h, .int (nI sk)]))] H1 := hP
    have hD : va_D A [(nx, .inr (6, [.ref fd, .ref tb, .ref pr, .ref ad, .ref rd, .ref wd, .ref h, .int (nI sk)]))] := hD
    refine lv_iload_n hx hb dX6_power_6 rfl (lv_at hl 2 rfl) ?_
    refine lv_ldc hx hb hown hwd1 dX6_power_7 ?_
    refine lv_topi (nm_r (show ((1000000000 : Int32)) = nI 1000000000 from by decide) ?_)
    subst hQ
    exact m_callSx (As := [.int y, .int (nI 1000000000)]) (rest := []) C0 hnt hE hl hP hD hS (c_X6_requireRange_x l hfl D cY eS eO y (nI 1000000000) (fun q => hn ⟨hc, q⟩)) (va_cwS 2 hts gX6_power_X6_requireRange rfl rfl rfl (by decide +kernel) ⟨Nat.le_of_ble_eq_true rfl, Nat.le_of_ble_eq_true rfl⟩) dX6_power_9 [] rfl rfl rfl (Nat.le_of_ble_eq_true rfl) (Nat.le_of_ble_eq_true rfl) (Nat.le_of_ble_eq_true rfl) (fun _ => rfl) (fun _ => ⟨(), rfl⟩)
  · skip
    refine lv_iload_n hx hb dX6_power_0 rfl (lv_at hl 1 rfl) ?_
    refine lv_ldc hx hb hown hwd0 dX6_power_1 ?_
    refine lv_topi (nm_r (show ((65535 : Int32)) = nI 65535 from by decide) ?_)
    subst hQ
    exact m_callSx (As := [.int x, .int (nI 65535)]) (rest := []) C0 hnt hE hl hP hD hS (c_X6_requireRange_x l hfl D cY eS eO x (nI 65535) (hc)) (va_cwS 2 hts gX6_power_X6_requireRange rfl rfl rfl (by decide +kernel) ⟨Nat.le_of_ble_eq_true rfl, Nat.le_of_ble_eq_true rfl⟩) dX6_power_3 [] rfl rfl rfl (Nat.le_of_ble_eq_true rfl) (Nat.le_of_ble_eq_true rfl) (Nat.le_of_ble_eq_true rfl) (fun _ => rfl) (fun _ => ⟨(), rfl⟩)
set_option maxHeartbeats 4000000 in
set_option maxRecDepth 100000 in
theorem c_X6_rootOf (l : Launch) (D : va_G) (cY : Nat → ClassId) (nx fd tb pr ad rd wd h sk : Nat) (fb : Nat) (bp : Nat → Nat) (x : Nat) (hB : n_bp bp) (hxx : x < 65536) : m_Mi l yX6_rootOf wsX6_rootOf 2 46 D cY [.ref nx, .int (nI x)] [(nx, .inr (6, [.ref fd, .ref tb, .ref pr, .ref ad, .ref rd, .ref wd, .ref h, .int (nI sk)])), (fd, .inr (2, [.ref fb])), (fb, .inl (cY 0, 256, .inl (m_nf bp)))] (fun (res : Int32) (u : Unit) => res = nI (np x 32768)) (fun (u : Unit) => [(nx, .inr (6, [.ref fd, .ref tb, .ref pr, .ref ad, .ref rd, .ref wd, .ref h, .int (nI sk)])), (fd, .inr (2, [.ref fb])), (fb, .inl (cY 0, 256, .inl (m_nf bp)))]) := by
  refine m_enterI (cc := cX6_rootOf) (maxL := 2) (ret := (some .int)) (by decide +kernel) rfl (Nat.le_of_ble_eq_true rfl) ?_
  intro p e s m below meth c A ls C0 hP hD hl
  obtain ⟨hx, hb, hr, hml, hts, hown, hlocks, hK, hA⟩ := id C0
  generalize hQ : MQ below _ _ s 0 0 A = Q
  have hS : va_S A s.heap s.heap [] := va_S.rf
  have hl : lv_has ls 2 [(0, .ref nx), (1, .int (nI x))] := hl
  have hwd0 := hts (.constant RX6 58 (65535)) (by decide +kernel)
  have hwd1 := hts (.fieldLink RX6 12 "NimberField" "field" "LNimberField$Nimbers;") (by decide +kernel)
  have hwd2 := (show ∀ w ∈ u_ws RX6 TX6 8, w ∈ wsX6_rootOf from by decide +kernel)
  refine lv_iload_n hx hb dX6_rootOf_0 rfl (lv_at hl 1 rfl) ?_
  refine lv_ldc hx hb hown hwd0 dX6_rootOf_1 ?_
  refine lv_topi (nm_r (show ((65535 : Int32)) = nI 65535 from by decide) ?_)
  refine m_callSv (As := [.int (nI x), .int (nI 65535)]) (rest := []) C0 hl hP hD hS (c_X6_requireRange l D cY x 65535 (by omega) (by decide)) (va_cwS 2 hts gX6_rootOf_X6_requireRange rfl rfl rfl (by decide +kernel) ⟨Nat.le_of_ble_eq_true rfl, Nat.le_of_ble_eq_true rfl⟩) dX6_rootOf_3 [] rfl rfl rfl (Nat.le_of_ble_eq_true rfl) (Nat.zero_le _) (Nat.zero_le _) (fun _ => rfl) (fun u H1 locs hw hP hD hS => ?_)
  try dsimp only at hw
  clear hw
  have hP : va_P D vwCl [(nx, .inr (6, [.ref fd, .ref tb, .ref pr, .ref ad, .ref rd, .ref wd, .ref h, .int (nI sk)])), (fd, .inr (2, [.ref fb])), (fb, .inl (cY 0, 256, .inl (m_nf bp)))] H1 := hP
  have hD : va_D A [(nx, .inr (6, [.ref fd, .ref tb, .ref pr, .ref ad, .ref rd, .ref wd, .ref h, .int (nI sk)])), (fd, .inr (2, [.ref fb])), (fb, .inl (cY 0, 256, .inl (m_nf bp)))] := hD
  refine lv_aload_n hx hb dX6_rootOf_6 rfl (lv_at hl 0 rfl) ?_
  refine va_get (D := D) (ci := 6) (v := .ref fd) (C := RX6) (T := TX6) (N := 8) hx hb hts hwd2 hown hK hP 0 rfl rfl 0 (by decide) hwd1 (fun _ h9 => h9) rfl dX6_rootOf_7 ?_
  refine lv_iload_n hx hb dX6_rootOf_10 rfl (lv_at hl 1 rfl) ?_
  refine m_callVi (As := [.int (nI x)]) (rest := []) C0 hl hP hD hS (c_X2_root l D cY fd fb bp x (by first | assumption | omega | exact nm_lt _ _ | exact np_lt _ _ | decide) (by first | assumption | omega | exact nm_lt _ _ | exact np_lt _ _ | decide)) (cwV 1 hts gX6_rootOf_X2_root rfl rfl rfl (by decide +kernel) ⟨Nat.le_of_ble_eq_true rfl, Nat.le_of_ble_eq_true rfl⟩) dX6_rootOf_11 [1, 2] rfl rfl 1 rfl rfl rfl rfl (Nat.le_of_ble_eq_true rfl) (Nat.zero_le _) (Nat.zero_le _) (fun _ => rfl) (fun r3 u H2 locs hw hP hD hS => ?_)
  try dsimp only at hw
  obtain rfl := hw
  have hP : va_P D vwCl [(nx, .inr (6, [.ref fd, .ref tb, .ref pr, .ref ad, .ref rd, .ref wd, .ref h, .int (nI sk)])), (fd, .inr (2, [.ref fb])), (fb, .inl (cY 0, 256, .inl (m_nf bp)))] H2 := hP
  have hD : va_D A [(nx, .inr (6, [.ref fd, .ref tb, .ref pr, .ref ad, .ref rd, .ref wd, .ref h, .int (nI sk)])), (fd, .inr (2, [.ref fb])), (fb, .inl (cY 0, 256, .inl (m_nf bp)))] := hD
  subst hQ
  exact m_iret C0 hS dX6_rootOf_14 (u := ()) hP (by first | trivial | rfl | omega)
set_option maxHeartbeats 4000000 in
set_option maxRecDepth 100000 in
theorem c_X6_rootOf_x1 (l : Launch) (hfl : l.stackTraces = false) (D : va_G) (cY : Nat → ClassId) (eS : Nat → Nat) (eO : Nat) (nx fd tb pr ad rd wd h sk : Nat) (x : Int32) (hn : ¬ m_isN x) : m_Mx l yX6_rootOf wsX6_rootOf 7 117 D cY eS eO [.ref nx, .int x] [(nx, .inr (6, [.ref fd, .ref tb, .ref pr, .ref ad, .ref rd, .ref wd, .ref h, .int (nI sk)]))] e_IA (fun (u : Unit) => [(nx, .inr (6, [.ref fd, .ref tb, .ref pr, .ref ad, .ref rd, .ref wd, .ref h, .int (nI sk)]))]) := by
  refine m_enterX (cc := cX6_rootOf) (maxL := 2) (ret := (some .int)) (by decide +kernel) rfl (Nat.le_of_ble_eq_true rfl) ?_
  intro p e s m below meth c A ls C0 hnt hE hP hD hl
  obtain ⟨hx, hb, hr, hml, hts, hown, hlocks, hK, hA⟩ := id C0
  obtain ⟨hz1, hz2, ⟨hcIO, hcIA, hcIS⟩, hdcl, ⟨hs0, hs1, hs2, hs3, hs4, hs5, hs6, hs7⟩, ⟨hn1, hn2⟩, ⟨hl0, hl1, hl2, hl3, hl4⟩, hzO, htO⟩ := id hE
  generalize hQ : vx_MQ below _ _ _ s 1 6 A = Q
  have hS : va_S A s.heap s.heap [] := va_S.rf
  have hl : lv_has ls 2 [(0, .ref nx), (1, .int x)] := hl
  have hwd0 := hts (.constant RX6 58 (65535)) (by decide +kernel)
  refine lv_iload_n hx hb dX6_rootOf_0 rfl (lv_at hl 1 rfl) ?_
  refine lv_ldc hx hb hown hwd0 dX6_rootOf_1 ?_
  refine lv_topi (nm_r (show ((65535 : Int32)) = nI 65535 from by decide) ?_)
  subst hQ
  exact m_callSx (As := [.int x, .int (nI 65535)]) (rest := []) C0 hnt hE hl hP hD hS (c_X6_requireRange_x l hfl D cY eS eO x (nI 65535) (hn)) (va_cwS 2 hts gX6_rootOf_X6_requireRange rfl rfl rfl (by decide +kernel) ⟨Nat.le_of_ble_eq_true rfl, Nat.le_of_ble_eq_true rfl⟩) dX6_rootOf_3 [] rfl rfl rfl (Nat.le_of_ble_eq_true rfl) (Nat.le_of_ble_eq_true rfl) (Nat.le_of_ble_eq_true rfl) (fun _ => rfl) (fun _ => ⟨(), rfl⟩)
set_option maxHeartbeats 4000000 in
set_option maxRecDepth 100000 in
theorem c_X6_traceOf (l : Launch) (D : va_G) (cY : Nat → ClassId) (nx fd tb pr ad rd wd h sk : Nat) (fb : Nat) (bp : Nat → Nat) (x : Nat) (hB : n_bp bp) (hxx : x < 65536) : m_Mi l yX6_traceOf wsX6_traceOf 2 47 D cY [.ref nx, .int (nI x)] [(nx, .inr (6, [.ref fd, .ref tb, .ref pr, .ref ad, .ref rd, .ref wd, .ref h, .int (nI sk)])), (fd, .inr (2, [.ref fb])), (fb, .inl (cY 0, 256, .inl (m_nf bp)))] (fun (res : Int32) (u : Unit) => res = nI (n_tr x 16)) (fun (u : Unit) => [(nx, .inr (6, [.ref fd, .ref tb, .ref pr, .ref ad, .ref rd, .ref wd, .ref h, .int (nI sk)])), (fd, .inr (2, [.ref fb])), (fb, .inl (cY 0, 256, .inl (m_nf bp)))]) := by
  refine m_enterI (cc := cX6_traceOf) (maxL := 2) (ret := (some .int)) (by decide +kernel) rfl (Nat.le_of_ble_eq_true rfl) ?_
  intro p e s m below meth c A ls C0 hP hD hl
  obtain ⟨hx, hb, hr, hml, hts, hown, hlocks, hK, hA⟩ := id C0
  generalize hQ : MQ below _ _ s 0 0 A = Q
  have hS : va_S A s.heap s.heap [] := va_S.rf
  have hl : lv_has ls 2 [(0, .ref nx), (1, .int (nI x))] := hl
  have hwd0 := hts (.constant RX6 58 (65535)) (by decide +kernel)
  have hwd1 := hts (.fieldLink RX6 12 "NimberField" "field" "LNimberField$Nimbers;") (by decide +kernel)
  have hwd2 := (show ∀ w ∈ u_ws RX6 TX6 8, w ∈ wsX6_traceOf from by decide +kernel)
  refine lv_iload_n hx hb dX6_traceOf_0 rfl (lv_at hl 1 rfl) ?_
  refine lv_ldc hx hb hown hwd0 dX6_traceOf_1 ?_
  refine lv_topi (nm_r (show ((65535 : Int32)) = nI 65535 from by decide) ?_)
  refine m_callSv (As := [.int (nI x), .int (nI 65535)]) (rest := []) C0 hl hP hD hS (c_X6_requireRange l D cY x 65535 (by omega) (by decide)) (va_cwS 2 hts gX6_traceOf_X6_requireRange rfl rfl rfl (by decide +kernel) ⟨Nat.le_of_ble_eq_true rfl, Nat.le_of_ble_eq_true rfl⟩) dX6_traceOf_3 [] rfl rfl rfl (Nat.le_of_ble_eq_true rfl) (Nat.zero_le _) (Nat.zero_le _) (fun _ => rfl) (fun u H1 locs hw hP hD hS => ?_)
  try dsimp only at hw
  clear hw
  have hP : va_P D vwCl [(nx, .inr (6, [.ref fd, .ref tb, .ref pr, .ref ad, .ref rd, .ref wd, .ref h, .int (nI sk)])), (fd, .inr (2, [.ref fb])), (fb, .inl (cY 0, 256, .inl (m_nf bp)))] H1 := hP
  have hD : va_D A [(nx, .inr (6, [.ref fd, .ref tb, .ref pr, .ref ad, .ref rd, .ref wd, .ref h, .int (nI sk)])), (fd, .inr (2, [.ref fb])), (fb, .inl (cY 0, 256, .inl (m_nf bp)))] := hD
  refine lv_aload_n hx hb dX6_traceOf_6 rfl (lv_at hl 0 rfl) ?_
  refine va_get (D := D) (ci := 6) (v := .ref fd) (C := RX6) (T := TX6) (N := 8) hx hb hts hwd2 hown hK hP 0 rfl rfl 0 (by decide) hwd1 (fun _ h9 => h9) rfl dX6_traceOf_7 ?_
  refine lv_iload_n hx hb dX6_traceOf_10 rfl (lv_at hl 1 rfl) ?_
  refine m_callVi (As := [.int (nI x)]) (rest := []) C0 hl hP hD hS (c_X2_trace l D cY fd fb bp x (by first | assumption | omega | exact nm_lt _ _ | exact np_lt _ _ | decide) (by first | assumption | omega | exact nm_lt _ _ | exact np_lt _ _ | decide)) (cwV 1 hts gX6_traceOf_X2_trace rfl rfl rfl (by decide +kernel) ⟨Nat.le_of_ble_eq_true rfl, Nat.le_of_ble_eq_true rfl⟩) dX6_traceOf_11 [1, 2] rfl rfl 1 rfl rfl rfl rfl (Nat.le_of_ble_eq_true rfl) (Nat.zero_le _) (Nat.zero_le _) (fun _ => rfl) (fun r3 u H2 locs hw hP hD hS => ?_)
  try dsimp only at hw
  obtain rfl := hw
  have hP : va_P D vwCl [(nx, .inr (6, [.ref fd, .ref tb, .ref pr, .ref ad, .ref rd, .ref wd, .ref h, .int (nI sk)])), (fd, .inr (2, [.ref fb])), (fb, .inl (cY 0, 256, .inl (m_nf bp)))] H2 := hP
  have hD : va_D A [(nx, .inr (6, [.ref fd, .ref tb, .ref pr, .ref ad, .ref rd, .ref wd, .ref h, .int (nI sk)])), (fd, .inr (2, [.ref fb])), (fb, .inl (cY 0, 256, .inl (m_nf bp)))] := hD
  subst hQ
  exact m_iret C0 hS dX6_traceOf_14 (u := ()) hP (by first | trivial | rfl | omega)
set_option maxHeartbeats 4000000 in
set_option maxRecDepth 100000 in
theorem c_X6_traceOf_x1 (l : Launch) (hfl : l.stackTraces = false) (D : va_G) (cY : Nat → ClassId) (eS : Nat → Nat) (eO : Nat) (nx fd tb pr ad rd wd h sk : Nat) (x : Int32) (hn : ¬ m_isN x) : m_Mx l yX6_traceOf wsX6_traceOf 7 117 D cY eS eO [.ref nx, .int x] [(nx, .inr (6, [.ref fd, .ref tb, .ref pr, .ref ad, .ref rd, .ref wd, .ref h, .int (nI sk)]))] e_IA (fun (u : Unit) => [(nx, .inr (6, [.ref fd, .ref tb, .ref pr, .ref ad, .ref rd, .ref wd, .ref h, .int (nI sk)]))]) := by
  refine m_enterX (cc := cX6_traceOf) (maxL := 2) (ret := (some .int)) (by decide +kernel) rfl (Nat.le_of_ble_eq_true rfl) ?_
  intro p e s m below meth c A ls C0 hnt hE hP hD hl
  obtain ⟨hx, hb, hr, hml, hts, hown, hlocks, hK, hA⟩ := id C0
  obtain ⟨hz1, hz2, ⟨hcIO, hcIA, hcIS⟩, hdcl, ⟨hs0, hs1, hs2, hs3, hs4, hs5, hs6, hs7⟩, ⟨hn1, hn2⟩, ⟨hl0, hl1, hl2, hl3, hl4⟩, hzO, htO⟩ := id hE
  generalize hQ : vx_MQ below _ _ _ s 1 6 A = Q
  have hS : va_S A s.heap s.heap [] := va_S.rf
  have hl : lv_has ls 2 [(0, .ref nx), (1, .int x)] := hl
  have hwd0 := hts (.constant RX6 58 (65535)) (by decide +kernel)
  refine lv_iload_n hx hb dX6_traceOf_0 rfl (lv_at hl 1 rfl) ?_
  refine lv_ldc hx hb hown hwd0 dX6_traceOf_1 ?_
  refine lv_topi (nm_r (show ((65535 : Int32)) = nI 65535 from by decide) ?_)
  subst hQ
  exact m_callSx (As := [.int x, .int (nI 65535)]) (rest := []) C0 hnt hE hl hP hD hS (c_X6_requireRange_x l hfl D cY eS eO x (nI 65535) (hn)) (va_cwS 2 hts gX6_traceOf_X6_requireRange rfl rfl rfl (by decide +kernel) ⟨Nat.le_of_ble_eq_true rfl, Nat.le_of_ble_eq_true rfl⟩) dX6_traceOf_3 [] rfl rfl rfl (Nat.le_of_ble_eq_true rfl) (Nat.le_of_ble_eq_true rfl) (Nat.le_of_ble_eq_true rfl) (fun _ => rfl) (fun _ => ⟨(), rfl⟩)
set_option maxHeartbeats 4000000 in
set_option maxRecDepth 100000 in
theorem c_X6_solve (l : Launch) (D : va_G) (cY : Nat → ClassId) (nx fd tb pr ad rd wd h sk : Nat) (fb : Nat) (bp : Nat → Nat) (x : Nat) (hB : n_bp bp) (hxx : x < 65536) : m_Mi l yX6_solve wsX6_solve 2 47 D cY [.ref nx, .int (nI x)] [(nx, .inr (6, [.ref fd, .ref tb, .ref pr, .ref ad, .ref rd, .ref wd, .ref h, .int (nI sk)])), (fd, .inr (2, [.ref fb])), (fb, .inl (cY 0, 256, .inl (m_nf bp)))] (fun (res : Int32) (u : Unit) => res = n_sol x) (fun (u : Unit) => [(nx, .inr (6, [.ref fd, .ref tb, .ref pr, .ref ad, .ref rd, .ref wd, .ref h, .int (nI sk)])), (fd, .inr (2, [.ref fb])), (fb, .inl (cY 0, 256, .inl (m_nf bp)))]) := by
  refine m_enterI (cc := cX6_solve) (maxL := 2) (ret := (some .int)) (by decide +kernel) rfl (Nat.le_of_ble_eq_true rfl) ?_
  intro p e s m below meth c A ls C0 hP hD hl
  obtain ⟨hx, hb, hr, hml, hts, hown, hlocks, hK, hA⟩ := id C0
  generalize hQ : MQ below _ _ s 0 0 A = Q
  have hS : va_S A s.heap s.heap [] := va_S.rf
  have hl : lv_has ls 2 [(0, .ref nx), (1, .int (nI x))] := hl
  have hwd0 := hts (.constant RX6 58 (65535)) (by decide +kernel)
  have hwd1 := hts (.fieldLink RX6 12 "NimberField" "field" "LNimberField$Nimbers;") (by decide +kernel)
  have hwd2 := (show ∀ w ∈ u_ws RX6 TX6 8, w ∈ wsX6_solve from by decide +kernel)
  refine lv_iload_n hx hb dX6_solve_0 rfl (lv_at hl 1 rfl) ?_
  refine lv_ldc hx hb hown hwd0 dX6_solve_1 ?_
  refine lv_topi (nm_r (show ((65535 : Int32)) = nI 65535 from by decide) ?_)
  refine m_callSv (As := [.int (nI x), .int (nI 65535)]) (rest := []) C0 hl hP hD hS (c_X6_requireRange l D cY x 65535 (by omega) (by decide)) (va_cwS 2 hts gX6_solve_X6_requireRange rfl rfl rfl (by decide +kernel) ⟨Nat.le_of_ble_eq_true rfl, Nat.le_of_ble_eq_true rfl⟩) dX6_solve_3 [] rfl rfl rfl (Nat.le_of_ble_eq_true rfl) (Nat.zero_le _) (Nat.zero_le _) (fun _ => rfl) (fun u H1 locs hw hP hD hS => ?_)
  try dsimp only at hw
  clear hw
  have hP : va_P D vwCl [(nx, .inr (6, [.ref fd, .ref tb, .ref pr, .ref ad, .ref rd, .ref wd, .ref h, .int (nI sk)])), (fd, .inr (2, [.ref fb])), (fb, .inl (cY 0, 256, .inl (m_nf bp)))] H1 := hP
  have hD : va_D A [(nx, .inr (6, [.ref fd, .ref tb, .ref pr, .ref ad, .ref rd, .ref wd, .ref h, .int (nI sk)])), (fd, .inr (2, [.ref fb])), (fb, .inl (cY 0, 256, .inl (m_nf bp)))] := hD
  refine lv_aload_n hx hb dX6_solve_6 rfl (lv_at hl 0 rfl) ?_
  refine va_get (D := D) (ci := 6) (v := .ref fd) (C := RX6) (T := TX6) (N := 8) hx hb hts hwd2 hown hK hP 0 rfl rfl 0 (by decide) hwd1 (fun _ h9 => h9) rfl dX6_solve_7 ?_
  refine lv_iload_n hx hb dX6_solve_10 rfl (lv_at hl 1 rfl) ?_
  refine m_callVi (As := [.int (nI x)]) (rest := []) C0 hl hP hD hS (c_X2_leastSolution l D cY fd fb bp x (by first | assumption | omega | exact nm_lt _ _ | exact np_lt _ _ | decide) (by first | assumption | omega | exact nm_lt _ _ | exact np_lt _ _ | decide)) (cwV 1 hts gX6_solve_X2_leastSolution rfl rfl rfl (by decide +kernel) ⟨Nat.le_of_ble_eq_true rfl, Nat.le_of_ble_eq_true rfl⟩) dX6_solve_11 [1, 2] rfl rfl 1 rfl rfl rfl rfl (Nat.le_of_ble_eq_true rfl) (Nat.zero_le _) (Nat.zero_le _) (fun _ => rfl) (fun r3 u H2 locs hw hP hD hS => ?_)
  try dsimp only at hw
  obtain rfl := hw
  have hP : va_P D vwCl [(nx, .inr (6, [.ref fd, .ref tb, .ref pr, .ref ad, .ref rd, .ref wd, .ref h, .int (nI sk)])), (fd, .inr (2, [.ref fb])), (fb, .inl (cY 0, 256, .inl (m_nf bp)))] H2 := hP
  have hD : va_D A [(nx, .inr (6, [.ref fd, .ref tb, .ref pr, .ref ad, .ref rd, .ref wd, .ref h, .int (nI sk)])), (fd, .inr (2, [.ref fb])), (fb, .inl (cY 0, 256, .inl (m_nf bp)))] := hD
  subst hQ
  exact m_iret C0 hS dX6_solve_14 (u := ()) hP (by first | trivial | rfl | omega)
set_option maxHeartbeats 4000000 in
set_option maxRecDepth 100000 in
theorem c_X6_solve_x1 (l : Launch) (hfl : l.stackTraces = false) (D : va_G) (cY : Nat → ClassId) (eS : Nat → Nat) (eO : Nat) (nx fd tb pr ad rd wd h sk : Nat) (x : Int32) (hn : ¬ m_isN x) : m_Mx l yX6_solve wsX6_solve 7 117 D cY eS eO [.ref nx, .int x] [(nx, .inr (6, [.ref fd, .ref tb, .ref pr, .ref ad, .ref rd, .ref wd, .ref h, .int (nI sk)]))] e_IA (fun (u : Unit) => [(nx, .inr (6, [.ref fd, .ref tb, .ref pr, .ref ad, .ref rd, .ref wd, .ref h, .int (nI sk)]))]) := by
  refine m_enterX (cc := cX6_solve) (maxL := 2) (ret := (some .int)) (by decide +kernel) rfl (Nat.le_of_ble_eq_true rfl) ?_
  intro p e s m below meth c A ls C0 hnt hE hP hD hl
  obtain ⟨hx, hb, hr, hml, hts, hown, hlocks, hK, hA⟩ := id C0
  obtain ⟨hz1, hz2, ⟨hcIO, hcIA, hcIS⟩, hdcl, ⟨hs0, hs1, hs2, hs3, hs4, hs5, hs6, hs7⟩, ⟨hn1, hn2⟩, ⟨hl0, hl1, hl2, hl3, hl4⟩, hzO, htO⟩ := id hE
  generalize hQ : vx_MQ below _ _ _ s 1 6 A = Q
  have hS : va_S A s.heap s.heap [] := va_S.rf
  have hl : lv_has ls 2 [(0, .ref nx), (1, .int x)] := hl
  have hwd0 := hts (.constant RX6 58 (65535)) (by decide +kernel)
  refine lv_iload_n hx hb dX6_solve_0 rfl (lv_at hl 1 rfl) ?_
  refine lv_ldc hx hb hown hwd0 dX6_solve_1 ?_
  refine lv_topi (nm_r (show ((65535 : Int32)) = nI 65535 from by decide) ?_)
  subst hQ
  exact m_callSx (As := [.int x, .int (nI 65535)]) (rest := []) C0 hnt hE hl hP hD hS (c_X6_requireRange_x l hfl D cY eS eO x (nI 65535) (hn)) (va_cwS 2 hts gX6_solve_X6_requireRange rfl rfl rfl (by decide +kernel) ⟨Nat.le_of_ble_eq_true rfl, Nat.le_of_ble_eq_true rfl⟩) dX6_solve_3 [] rfl rfl rfl (Nat.le_of_ble_eq_true rfl) (Nat.le_of_ble_eq_true rfl) (Nat.le_of_ble_eq_true rfl) (fun _ => rfl) (fun _ => ⟨(), rfl⟩)
set_option maxHeartbeats 4000000 in
set_option maxRecDepth 100000 in
theorem c_X6_fieldOf (l : Launch) (D : va_G) (cY : Nat → ClassId) (nx fd tb pr ad rd wd h sk : Nat) (x : Nat) (hxx : x < 65536) : m_Mi l yX6_fieldOf wsX6_fieldOf 1 21 D cY [.ref nx, .int (nI x)] [(nx, .inr (6, [.ref fd, .ref tb, .ref pr, .ref ad, .ref rd, .ref wd, .ref h, .int (nI sk)]))] (fun (res : Int32) (u : Unit) => res = nI (n_fld x)) (fun (u : Unit) => [(nx, .inr (6, [.ref fd, .ref tb, .ref pr, .ref ad, .ref rd, .ref wd, .ref h, .int (nI sk)]))]) := by
  refine m_enterI (cc := cX6_fieldOf) (maxL := 3) (ret := (some .int)) (by decide +kernel) rfl (Nat.le_of_ble_eq_true rfl) ?_
  intro p e s m below meth c A ls C0 hP hD hl
  obtain ⟨hx, hb, hr, hml, hts, hown, hlocks, hK, hA⟩ := id C0
  generalize hQ : MQ below _ _ s 0 0 A = Q
  have hS : va_S A s.heap s.heap [] := va_S.rf
  have hl : lv_has ls 3 [(0, .ref nx), (1, .int (nI x))] := hl
  have hwd0 := hts (.constant RX6 58 (65535)) (by decide +kernel)
  refine lv_iload_n hx hb dX6_fieldOf_0 rfl (lv_at hl 1 rfl) ?_
  refine lv_ldc hx hb hown hwd0 dX6_fieldOf_1 ?_
  refine lv_topi (nm_r (show ((65535 : Int32)) = nI 65535 from by decide) ?_)
  refine m_callSv (As := [.int (nI x), .int (nI 65535)]) (rest := []) C0 hl hP hD hS (c_X6_requireRange l D cY x 65535 (by omega) (by decide)) (va_cwS 2 hts gX6_fieldOf_X6_requireRange rfl rfl rfl (by decide +kernel) ⟨Nat.le_of_ble_eq_true rfl, Nat.le_of_ble_eq_true rfl⟩) dX6_fieldOf_3 [] rfl rfl rfl (Nat.le_of_ble_eq_true rfl) (Nat.zero_le _) (Nat.zero_le _) (fun _ => rfl) (fun u H1 locs hw hP hD hS => ?_)
  try dsimp only at hw
  clear hw
  have hP : va_P D vwCl [(nx, .inr (6, [.ref fd, .ref tb, .ref pr, .ref ad, .ref rd, .ref wd, .ref h, .int (nI sk)]))] H1 := hP
  have hD : va_D A [(nx, .inr (6, [.ref fd, .ref tb, .ref pr, .ref ad, .ref rd, .ref wd, .ref h, .int (nI sk)]))] := hD
  refine lv_iconst (v := nI 1) hx hb dX6_fieldOf_6 (by decide) ?_
  refine lv_istore_n (lv' := [(2, .int (nI 1)), (0, .ref nx), (1, .int (nI x))]) hx hb dX6_fieldOf_7 rfl hl (by decide) rfl (fun ls hl => ?_)
  refine lv_iload_n hx hb dX6_fieldOf_8 rfl (lv_at hl 0 rfl) ?_
  refine lv_bipush (v := nI 16) hx hb dX6_fieldOf_9 (by decide) ?_
  refine lv_icmp_ge (tgt := 27) hx hb dX6_fieldOf_11 (by decide) (fun c11 => ?_) (fun c11 => ?_)
  · exact absurd c11 (by decide)
  · refine lv_iload_n hx hb dX6_fieldOf_14 rfl (lv_at hl 2 rfl) ?_
    refine lv_iload_n hx hb dX6_fieldOf_15 rfl (lv_at hl 0 rfl) ?_
    refine lv_ishr hx hb dX6_fieldOf_16 ?_
    refine lv_topi (nm_r (m_shr _ _ (by omega) (by omega)) ?_)
    refine lv_if_eq (tgt := 27) hx hb dX6_fieldOf_17 (by decide) (fun c17 => ?_) (fun c17 => ?_)
    · have c17 : (x >>> 1) = 0 := (nI_eq (a := (x >>> 1)) (b := 0) (by first | omega | exact Nat.lt_of_le_of_lt Nat.and_le_right (by decide) | exact Nat.lt_trans (nm_lt _ _) (by decide) | exact Nat.lt_trans (np_lt _ _) (by decide) | exact Nat.lt_trans (p_at_lt htx) (by decide)) (by first | omega | exact Nat.lt_of_le_of_lt Nat.and_le_right (by decide) | exact Nat.lt_trans (nm_lt _ _) (by decide) | exact Nat.lt_trans (np_lt _ _) (by decide) | exact Nat.lt_trans (p_at_lt htx) (by decide))).mp c17
      refine lv_iload_n hx hb dX6_fieldOf_27 rfl (lv_at hl 0 rfl) ?_
      simp only [Nat.shiftRight_eq_div_pow] at *
      subst hQ
      exact m_iret C0 hS dX6_fieldOf_28 (u := ()) hP (by rw [n_fld]; first | rw [if_pos (by omega)] | rw [if_neg (by omega), if_pos (by omega)] | rw [if_neg (by omega), if_neg (by omega), if_pos (by omega)] | rw [if_neg (by omega), if_neg (by omega), if_neg (by omega), if_pos (by omega)] | rw [if_neg (by omega), if_neg (by omega), if_neg (by omega), if_neg (by omega)])
    · have c17 : ¬ ((x >>> 1) = 0) := fun qq9 => c17 ((nI_eq (a := (x >>> 1)) (b := 0) (by first | omega | exact Nat.lt_of_le_of_lt Nat.and_le_right (by decide) | exact Nat.lt_trans (nm_lt _ _) (by decide) | exact Nat.lt_trans (np_lt _ _) (by decide) | exact Nat.lt_trans (p_at_lt htx) (by decide)) (by first | omega | exact Nat.lt_of_le_of_lt Nat.and_le_right (by decide) | exact Nat.lt_trans (nm_lt _ _) (by decide) | exact Nat.lt_trans (np_lt _ _) (by decide) | exact Nat.lt_trans (p_at_lt htx) (by decide))).mpr qq9)
      refine lv_iload_n hx hb dX6_fieldOf_20 rfl (lv_at hl 0 rfl) ?_
      refine lv_iconst (v := nI 2) hx hb dX6_fieldOf_21 (by decide) ?_
      refine lv_imul hx hb dX6_fieldOf_22 ?_
      refine lv_topi (nm_r (show _ = nI 2 from by decide) ?_)
      refine lv_istore_n (lv' := [(2, .int (nI 2)), (0, .ref nx), (1, .int (nI x))]) hx hb dX6_fieldOf_23 rfl hl (by decide) rfl (fun ls hl => ?_)
      refine lv_goto (tgt := 8) hx hb dX6_fieldOf_24 (by decide) ?_
      refine lv_iload_n hx hb dX6_fieldOf_8 rfl (lv_at hl 0 rfl) ?_
      refine lv_bipush (v := nI 16) hx hb dX6_fieldOf_9 (by decide) ?_
      refine lv_icmp_ge (tgt := 27) hx hb dX6_fieldOf_11 (by decide) (fun c11 => ?_) (fun c11 => ?_)
      · exact absurd c11 (by decide)
      · refine lv_iload_n hx hb dX6_fieldOf_14 rfl (lv_at hl 2 rfl) ?_
        refine lv_iload_n hx hb dX6_fieldOf_15 rfl (lv_at hl 0 rfl) ?_
        refine lv_ishr hx hb dX6_fieldOf_16 ?_
        refine lv_topi (nm_r (m_shr _ _ (by omega) (by omega)) ?_)
        refine lv_if_eq (tgt := 27) hx hb dX6_fieldOf_17 (by decide) (fun c17 => ?_) (fun c17 => ?_)
        · have c17 : (x >>> 2) = 0 := (nI_eq (a := (x >>> 2)) (b := 0) (by first | omega | exact Nat.lt_of_le_of_lt Nat.and_le_right (by decide) | exact Nat.lt_trans (nm_lt _ _) (by decide) | exact Nat.lt_trans (np_lt _ _) (by decide) | exact Nat.lt_trans (p_at_lt htx) (by decide)) (by first | omega | exact Nat.lt_of_le_of_lt Nat.and_le_right (by decide) | exact Nat.lt_trans (nm_lt _ _) (by decide) | exact Nat.lt_trans (np_lt _ _) (by decide) | exact Nat.lt_trans (p_at_lt htx) (by decide))).mp c17
          refine lv_iload_n hx hb dX6_fieldOf_27 rfl (lv_at hl 0 rfl) ?_
          simp only [Nat.shiftRight_eq_div_pow] at *
          subst hQ
          exact m_iret C0 hS dX6_fieldOf_28 (u := ()) hP (by rw [n_fld]; first | rw [if_pos (by omega)] | rw [if_neg (by omega), if_pos (by omega)] | rw [if_neg (by omega), if_neg (by omega), if_pos (by omega)] | rw [if_neg (by omega), if_neg (by omega), if_neg (by omega), if_pos (by omega)] | rw [if_neg (by omega), if_neg (by omega), if_neg (by omega), if_neg (by omega)])
        · have c17 : ¬ ((x >>> 2) = 0) := fun qq9 => c17 ((nI_eq (a := (x >>> 2)) (b := 0) (by first | omega | exact Nat.lt_of_le_of_lt Nat.and_le_right (by decide) | exact Nat.lt_trans (nm_lt _ _) (by decide) | exact Nat.lt_trans (np_lt _ _) (by decide) | exact Nat.lt_trans (p_at_lt htx) (by decide)) (by first | omega | exact Nat.lt_of_le_of_lt Nat.and_le_right (by decide) | exact Nat.lt_trans (nm_lt _ _) (by decide) | exact Nat.lt_trans (np_lt _ _) (by decide) | exact Nat.lt_trans (p_at_lt htx) (by decide))).mpr qq9)
          refine lv_iload_n hx hb dX6_fieldOf_20 rfl (lv_at hl 0 rfl) ?_
          refine lv_iconst (v := nI 2) hx hb dX6_fieldOf_21 (by decide) ?_
          refine lv_imul hx hb dX6_fieldOf_22 ?_
          refine lv_topi (nm_r (show _ = nI 4 from by decide) ?_)
          refine lv_istore_n (lv' := [(2, .int (nI 4)), (0, .ref nx), (1, .int (nI x))]) hx hb dX6_fieldOf_23 rfl hl (by decide) rfl (fun ls hl => ?_)
          refine lv_goto (tgt := 8) hx hb dX6_fieldOf_24 (by decide) ?_
          refine lv_iload_n hx hb dX6_fieldOf_8 rfl (lv_at hl 0 rfl) ?_
          refine lv_bipush (v := nI 16) hx hb dX6_fieldOf_9 (by decide) ?_
          refine lv_icmp_ge (tgt := 27) hx hb dX6_fieldOf_11 (by decide) (fun c11 => ?_) (fun c11 => ?_)
          · exact absurd c11 (by decide)
          · refine lv_iload_n hx hb dX6_fieldOf_14 rfl (lv_at hl 2 rfl) ?_
            refine lv_iload_n hx hb dX6_fieldOf_15 rfl (lv_at hl 0 rfl) ?_
            refine lv_ishr hx hb dX6_fieldOf_16 ?_
            refine lv_topi (nm_r (m_shr _ _ (by omega) (by omega)) ?_)
            refine lv_if_eq (tgt := 27) hx hb dX6_fieldOf_17 (by decide) (fun c17 => ?_) (fun c17 => ?_)
            · have c17 : (x >>> 4) = 0 := (nI_eq (a := (x >>> 4)) (b := 0) (by first | omega | exact Nat.lt_of_le_of_lt Nat.and_le_right (by decide) | exact Nat.lt_trans (nm_lt _ _) (by decide) | exact Nat.lt_trans (np_lt _ _) (by decide) | exact Nat.lt_trans (p_at_lt htx) (by decide)) (by first | omega | exact Nat.lt_of_le_of_lt Nat.and_le_right (by decide) | exact Nat.lt_trans (nm_lt _ _) (by decide) | exact Nat.lt_trans (np_lt _ _) (by decide) | exact Nat.lt_trans (p_at_lt htx) (by decide))).mp c17
              refine lv_iload_n hx hb dX6_fieldOf_27 rfl (lv_at hl 0 rfl) ?_
              simp only [Nat.shiftRight_eq_div_pow] at *
              subst hQ
              exact m_iret C0 hS dX6_fieldOf_28 (u := ()) hP (by rw [n_fld]; first | rw [if_pos (by omega)] | rw [if_neg (by omega), if_pos (by omega)] | rw [if_neg (by omega), if_neg (by omega), if_pos (by omega)] | rw [if_neg (by omega), if_neg (by omega), if_neg (by omega), if_pos (by omega)] | rw [if_neg (by omega), if_neg (by omega), if_neg (by omega), if_neg (by omega)])
            · have c17 : ¬ ((x >>> 4) = 0) := fun qq9 => c17 ((nI_eq (a := (x >>> 4)) (b := 0) (by first | omega | exact Nat.lt_of_le_of_lt Nat.and_le_right (by decide) | exact Nat.lt_trans (nm_lt _ _) (by decide) | exact Nat.lt_trans (np_lt _ _) (by decide) | exact Nat.lt_trans (p_at_lt htx) (by decide)) (by first | omega | exact Nat.lt_of_le_of_lt Nat.and_le_right (by decide) | exact Nat.lt_trans (nm_lt _ _) (by decide) | exact Nat.lt_trans (np_lt _ _) (by decide) | exact Nat.lt_trans (p_at_lt htx) (by decide))).mpr qq9)
              refine lv_iload_n hx hb dX6_fieldOf_20 rfl (lv_at hl 0 rfl) ?_
              refine lv_iconst (v := nI 2) hx hb dX6_fieldOf_21 (by decide) ?_
              refine lv_imul hx hb dX6_fieldOf_22 ?_
              refine lv_topi (nm_r (show _ = nI 8 from by decide) ?_)
              refine lv_istore_n (lv' := [(2, .int (nI 8)), (0, .ref nx), (1, .int (nI x))]) hx hb dX6_fieldOf_23 rfl hl (by decide) rfl (fun ls hl => ?_)
              refine lv_goto (tgt := 8) hx hb dX6_fieldOf_24 (by decide) ?_
              refine lv_iload_n hx hb dX6_fieldOf_8 rfl (lv_at hl 0 rfl) ?_
              refine lv_bipush (v := nI 16) hx hb dX6_fieldOf_9 (by decide) ?_
              refine lv_icmp_ge (tgt := 27) hx hb dX6_fieldOf_11 (by decide) (fun c11 => ?_) (fun c11 => ?_)
              · exact absurd c11 (by decide)
              · refine lv_iload_n hx hb dX6_fieldOf_14 rfl (lv_at hl 2 rfl) ?_
                refine lv_iload_n hx hb dX6_fieldOf_15 rfl (lv_at hl 0 rfl) ?_
                refine lv_ishr hx hb dX6_fieldOf_16 ?_
                refine lv_topi (nm_r (m_shr _ _ (by omega) (by omega)) ?_)
                refine lv_if_eq (tgt := 27) hx hb dX6_fieldOf_17 (by decide) (fun c17 => ?_) (fun c17 => ?_)
                · have c17 : (x >>> 8) = 0 := (nI_eq (a := (x >>> 8)) (b := 0) (by first | omega | exact Nat.lt_of_le_of_lt Nat.and_le_right (by decide) | exact Nat.lt_trans (nm_lt _ _) (by decide) | exact Nat.lt_trans (np_lt _ _) (by decide) | exact Nat.lt_trans (p_at_lt htx) (by decide)) (by first | omega | exact Nat.lt_of_le_of_lt Nat.and_le_right (by decide) | exact Nat.lt_trans (nm_lt _ _) (by decide) | exact Nat.lt_trans (np_lt _ _) (by decide) | exact Nat.lt_trans (p_at_lt htx) (by decide))).mp c17
                  refine lv_iload_n hx hb dX6_fieldOf_27 rfl (lv_at hl 0 rfl) ?_
                  simp only [Nat.shiftRight_eq_div_pow] at *
                  subst hQ
                  exact m_iret C0 hS dX6_fieldOf_28 (u := ()) hP (by rw [n_fld]; first | rw [if_pos (by omega)] | rw [if_neg (by omega), if_pos (by omega)] | rw [if_neg (by omega), if_neg (by omega), if_pos (by omega)] | rw [if_neg (by omega), if_neg (by omega), if_neg (by omega), if_pos (by omega)] | rw [if_neg (by omega), if_neg (by omega), if_neg (by omega), if_neg (by omega)])
                · have c17 : ¬ ((x >>> 8) = 0) := fun qq9 => c17 ((nI_eq (a := (x >>> 8)) (b := 0) (by first | omega | exact Nat.lt_of_le_of_lt Nat.and_le_right (by decide) | exact Nat.lt_trans (nm_lt _ _) (by decide) | exact Nat.lt_trans (np_lt _ _) (by decide) | exact Nat.lt_trans (p_at_lt htx) (by decide)) (by first | omega | exact Nat.lt_of_le_of_lt Nat.and_le_right (by decide) | exact Nat.lt_trans (nm_lt _ _) (by decide) | exact Nat.lt_trans (np_lt _ _) (by decide) | exact Nat.lt_trans (p_at_lt htx) (by decide))).mpr qq9)
                  refine lv_iload_n hx hb dX6_fieldOf_20 rfl (lv_at hl 0 rfl) ?_
                  refine lv_iconst (v := nI 2) hx hb dX6_fieldOf_21 (by decide) ?_
                  refine lv_imul hx hb dX6_fieldOf_22 ?_
                  refine lv_topi (nm_r (show _ = nI 16 from by decide) ?_)
                  refine lv_istore_n (lv' := [(2, .int (nI 16)), (0, .ref nx), (1, .int (nI x))]) hx hb dX6_fieldOf_23 rfl hl (by decide) rfl (fun ls hl => ?_)
                  refine lv_goto (tgt := 8) hx hb dX6_fieldOf_24 (by decide) ?_
                  refine lv_iload_n hx hb dX6_fieldOf_8 rfl (lv_at hl 0 rfl) ?_
                  refine lv_bipush (v := nI 16) hx hb dX6_fieldOf_9 (by decide) ?_
                  refine lv_icmp_ge (tgt := 27) hx hb dX6_fieldOf_11 (by decide) (fun c11 => ?_) (fun c11 => ?_)
                  · refine lv_iload_n hx hb dX6_fieldOf_27 rfl (lv_at hl 0 rfl) ?_
                    simp only [Nat.shiftRight_eq_div_pow] at *
                    subst hQ
                    exact m_iret C0 hS dX6_fieldOf_28 (u := ()) hP (by rw [n_fld]; first | rw [if_pos (by omega)] | rw [if_neg (by omega), if_pos (by omega)] | rw [if_neg (by omega), if_neg (by omega), if_pos (by omega)] | rw [if_neg (by omega), if_neg (by omega), if_neg (by omega), if_pos (by omega)] | rw [if_neg (by omega), if_neg (by omega), if_neg (by omega), if_neg (by omega)])
                  · exact absurd c11 (by decide)
set_option maxHeartbeats 4000000 in
set_option maxRecDepth 100000 in
theorem c_X6_fieldOf_x1 (l : Launch) (hfl : l.stackTraces = false) (D : va_G) (cY : Nat → ClassId) (eS : Nat → Nat) (eO : Nat) (nx fd tb pr ad rd wd h sk : Nat) (x : Int32) (hn : ¬ m_isN x) : m_Mx l yX6_fieldOf wsX6_fieldOf 7 117 D cY eS eO [.ref nx, .int x] [(nx, .inr (6, [.ref fd, .ref tb, .ref pr, .ref ad, .ref rd, .ref wd, .ref h, .int (nI sk)]))] e_IA (fun (u : Unit) => [(nx, .inr (6, [.ref fd, .ref tb, .ref pr, .ref ad, .ref rd, .ref wd, .ref h, .int (nI sk)]))]) := by
  refine m_enterX (cc := cX6_fieldOf) (maxL := 3) (ret := (some .int)) (by decide +kernel) rfl (Nat.le_of_ble_eq_true rfl) ?_
  intro p e s m below meth c A ls C0 hnt hE hP hD hl
  obtain ⟨hx, hb, hr, hml, hts, hown, hlocks, hK, hA⟩ := id C0
  obtain ⟨hz1, hz2, ⟨hcIO, hcIA, hcIS⟩, hdcl, ⟨hs0, hs1, hs2, hs3, hs4, hs5, hs6, hs7⟩, ⟨hn1, hn2⟩, ⟨hl0, hl1, hl2, hl3, hl4⟩, hzO, htO⟩ := id hE
  generalize hQ : vx_MQ below _ _ _ s 1 6 A = Q
  have hS : va_S A s.heap s.heap [] := va_S.rf
  have hl : lv_has ls 3 [(0, .ref nx), (1, .int x)] := hl
  have hwd0 := hts (.constant RX6 58 (65535)) (by decide +kernel)
  refine lv_iload_n hx hb dX6_fieldOf_0 rfl (lv_at hl 1 rfl) ?_
  refine lv_ldc hx hb hown hwd0 dX6_fieldOf_1 ?_
  refine lv_topi (nm_r (show ((65535 : Int32)) = nI 65535 from by decide) ?_)
  subst hQ
  exact m_callSx (As := [.int x, .int (nI 65535)]) (rest := []) C0 hnt hE hl hP hD hS (c_X6_requireRange_x l hfl D cY eS eO x (nI 65535) (hn)) (va_cwS 2 hts gX6_fieldOf_X6_requireRange rfl rfl rfl (by decide +kernel) ⟨Nat.le_of_ble_eq_true rfl, Nat.le_of_ble_eq_true rfl⟩) dX6_fieldOf_3 [] rfl rfl rfl (Nat.le_of_ble_eq_true rfl) (Nat.le_of_ble_eq_true rfl) (Nat.le_of_ble_eq_true rfl) (fun _ => rfl) (fun _ => ⟨(), rfl⟩)
set_option maxHeartbeats 4000000 in
set_option maxRecDepth 100000 in
theorem c_X6_products (l : Launch) (D : va_G) (cY : Nat → ClassId) (nx fd tb pr ad rd wd h sk : Nat) (ab cnt : Nat) (f : Nat → Nat)  : m_Mi l yX6_products wsX6_products 1 20 D cY [.ref nx] [(nx, .inr (6, [.ref fd, .ref tb, .ref pr, .ref ad, .ref rd, .ref wd, .ref h, .int (nI sk)])), (ad, .inr (4, [.ref ab, .int (nI cnt)])), (ab, .inl (cY 0, 8, .inl (m_nf f)))] (fun (res : Int32) (u : Unit) => res = nI cnt) (fun (u : Unit) => [(nx, .inr (6, [.ref fd, .ref tb, .ref pr, .ref ad, .ref rd, .ref wd, .ref h, .int (nI sk)])), (ad, .inr (4, [.ref ab, .int (nI cnt)])), (ab, .inl (cY 0, 8, .inl (m_nf f)))]) := by
  refine m_enterI (cc := cX6_products) (maxL := 1) (ret := (some .int)) (by decide +kernel) rfl (Nat.le_of_ble_eq_true rfl) ?_
  intro p e s m below meth c A ls C0 hP hD hl
  obtain ⟨hx, hb, hr, hml, hts, hown, hlocks, hK, hA⟩ := id C0
  generalize hQ : MQ below _ _ s 0 0 A = Q
  have hS : va_S A s.heap s.heap [] := va_S.rf
  have hl : lv_has ls 1 [(0, .ref nx)] := hl
  have hwd0 := hts (.fieldLink RX6 33 "NimberField" "state" "LNimberField$State;") (by decide +kernel)
  have hwd1 := (show ∀ w ∈ u_ws RX6 TX6 8, w ∈ wsX6_products from by decide +kernel)
  refine lv_aload_n hx hb dX6_products_0 rfl (lv_at hl 0 rfl) ?_
  refine va_get (D := D) (ci := 6) (v := .ref ad) (C := RX6) (T := TX6) (N := 8) hx hb hts hwd1 hown hK hP 0 rfl rfl 3 (by decide) hwd0 (fun _ h9 => h9) rfl dX6_products_1 ?_
  refine m_callVi (As := []) (rest := []) C0 hl hP hD hS (c_X4_productCount l D cY ad ab cnt f ) (cwV 0 hts gX6_products_X4_productCount rfl rfl rfl (by decide +kernel) ⟨Nat.le_of_ble_eq_true rfl, Nat.le_of_ble_eq_true rfl⟩) dX6_products_4 [1, 2] rfl rfl 1 rfl rfl rfl rfl (Nat.le_of_ble_eq_true rfl) (Nat.zero_le _) (Nat.zero_le _) (fun _ => rfl) (fun r2 u H1 locs hw hP hD hS => ?_)
  try dsimp only at hw
  obtain rfl := hw
  have hP : va_P D vwCl [(nx, .inr (6, [.ref fd, .ref tb, .ref pr, .ref ad, .ref rd, .ref wd, .ref h, .int (nI sk)])), (ad, .inr (4, [.ref ab, .int (nI cnt)])), (ab, .inl (cY 0, 8, .inl (m_nf f)))] H1 := hP
  have hD : va_D A [(nx, .inr (6, [.ref fd, .ref tb, .ref pr, .ref ad, .ref rd, .ref wd, .ref h, .int (nI sk)])), (ad, .inr (4, [.ref ab, .int (nI cnt)])), (ab, .inl (cY 0, 8, .inl (m_nf f)))] := hD
  subst hQ
  exact m_iret C0 hS dX6_products_7 (u := ()) hP (by first | trivial | rfl | omega)
set_option maxHeartbeats 4000000 in
set_option maxRecDepth 100000 in
theorem c_X6_recordedStates (l : Launch) (D : va_G) (cY : Nat → ClassId) (nx fd tb pr ad rd wd h sk : Nat) (kp z s0 s1 s2 s3 b0 b1 b2 b3 t0 t1 t2 t3 : Nat) (g0 g1 g2 g3 : Nat → Nat)  : m_Mi l yX6_recordedStates wsX6_recordedStates 1 20 D cY [.ref nx] [(nx, .inr (6, [.ref fd, .ref tb, .ref pr, .ref ad, .ref rd, .ref wd, .ref h, .int (nI sk)])), (h, .inr (0, [.ref kp, .int (nI z)])), (kp, .inl (cY 3, 4, .inr (.inr (.inr (.inr (m_k4 s0 s1 s2 s3)))))), (s0, .inr (4, [.ref b0, .int (nI t0)])), (b0, .inl (cY 0, 8, .inl (m_nf g0))), (s1, .inr (4, [.ref b1, .int (nI t1)])), (b1, .inl (cY 0, 8, .inl (m_nf g1))), (s2, .inr (4, [.ref b2, .int (nI t2)])), (b2, .inl (cY 0, 8, .inl (m_nf g2))), (s3, .inr (4, [.ref b3, .int (nI t3)])), (b3, .inl (cY 0, 8, .inl (m_nf g3)))] (fun (res : Int32) (u : Unit) => res = nI z) (fun (u : Unit) => [(nx, .inr (6, [.ref fd, .ref tb, .ref pr, .ref ad, .ref rd, .ref wd, .ref h, .int (nI sk)])), (h, .inr (0, [.ref kp, .int (nI z)])), (kp, .inl (cY 3, 4, .inr (.inr (.inr (.inr (m_k4 s0 s1 s2 s3)))))), (s0, .inr (4, [.ref b0, .int (nI t0)])), (b0, .inl (cY 0, 8, .inl (m_nf g0))), (s1, .inr (4, [.ref b1, .int (nI t1)])), (b1, .inl (cY 0, 8, .inl (m_nf g1))), (s2, .inr (4, [.ref b2, .int (nI t2)])), (b2, .inl (cY 0, 8, .inl (m_nf g2))), (s3, .inr (4, [.ref b3, .int (nI t3)])), (b3, .inl (cY 0, 8, .inl (m_nf g3)))]) := by
  refine m_enterI (cc := cX6_recordedStates) (maxL := 1) (ret := (some .int)) (by decide +kernel) rfl (Nat.le_of_ble_eq_true rfl) ?_
  intro p e s m below meth c A ls C0 hP hD hl
  obtain ⟨hx, hb, hr, hml, hts, hown, hlocks, hK, hA⟩ := id C0
  generalize hQ : MQ below _ _ s 0 0 A = Q
  have hS : va_S A s.heap s.heap [] := va_S.rf
  have hl : lv_has ls 1 [(0, .ref nx)] := hl
  have hwd0 := hts (.fieldLink RX6 46 "NimberField" "history" "LNimberField$History;") (by decide +kernel)
  have hwd1 := (show ∀ w ∈ u_ws RX6 TX6 8, w ∈ wsX6_recordedStates from by decide +kernel)
  refine lv_aload_n hx hb dX6_recordedStates_0 rfl (lv_at hl 0 rfl) ?_
  refine va_get (D := D) (ci := 6) (v := .ref h) (C := RX6) (T := TX6) (N := 8) hx hb hts hwd1 hown hK hP 0 rfl rfl 6 (by decide) hwd0 (fun _ h9 => h9) rfl dX6_recordedStates_1 ?_
  refine m_callVi (As := []) (rest := []) C0 hl hP hD hS (c_X0_size l D cY h kp z ) (cwV 0 hts gX6_recordedStates_X0_size rfl rfl rfl (by decide +kernel) ⟨Nat.le_of_ble_eq_true rfl, Nat.le_of_ble_eq_true rfl⟩) dX6_recordedStates_4 [1] rfl rfl 1 rfl rfl rfl rfl (Nat.le_of_ble_eq_true rfl) (Nat.zero_le _) (Nat.zero_le _) (fun _ => rfl) (fun r2 u H1 locs hw hP hD hS => ?_)
  try dsimp only at hw
  obtain rfl := hw
  have hP : va_P D vwCl [(nx, .inr (6, [.ref fd, .ref tb, .ref pr, .ref ad, .ref rd, .ref wd, .ref h, .int (nI sk)])), (h, .inr (0, [.ref kp, .int (nI z)])), (kp, .inl (cY 3, 4, .inr (.inr (.inr (.inr (m_k4 s0 s1 s2 s3)))))), (s0, .inr (4, [.ref b0, .int (nI t0)])), (b0, .inl (cY 0, 8, .inl (m_nf g0))), (s1, .inr (4, [.ref b1, .int (nI t1)])), (b1, .inl (cY 0, 8, .inl (m_nf g1))), (s2, .inr (4, [.ref b2, .int (nI t2)])), (b2, .inl (cY 0, 8, .inl (m_nf g2))), (s3, .inr (4, [.ref b3, .int (nI t3)])), (b3, .inl (cY 0, 8, .inl (m_nf g3)))] H1 := hP
  have hD : va_D A [(nx, .inr (6, [.ref fd, .ref tb, .ref pr, .ref ad, .ref rd, .ref wd, .ref h, .int (nI sk)])), (h, .inr (0, [.ref kp, .int (nI z)])), (kp, .inl (cY 3, 4, .inr (.inr (.inr (.inr (m_k4 s0 s1 s2 s3)))))), (s0, .inr (4, [.ref b0, .int (nI t0)])), (b0, .inl (cY 0, 8, .inl (m_nf g0))), (s1, .inr (4, [.ref b1, .int (nI t1)])), (b1, .inl (cY 0, 8, .inl (m_nf g1))), (s2, .inr (4, [.ref b2, .int (nI t2)])), (b2, .inl (cY 0, 8, .inl (m_nf g2))), (s3, .inr (4, [.ref b3, .int (nI t3)])), (b3, .inl (cY 0, 8, .inl (m_nf g3)))] := hD
  subst hQ
  exact m_iret C0 hS dX6_recordedStates_7 (u := ()) hP (by first | trivial | rfl | omega)
