set_option maxHeartbeats 4000000 in
set_option maxRecDepth 100000 in
theorem c_L_set_ok (l : Launch) (D : va_G) (cY : Nat → ClassId) (nx fd tb pr ad rd wd h sk : Nat) (ab cnt : Nat) (f : Nat → Nat) (kp z s0 s1 s2 s3 b0 b1 b2 b3 t0 t1 t2 t3 : Nat) (g0 g1 g2 g3 : Nat → Nat) (k v : Nat) (ot : Nat) (ov : Nat → Int64) (hf8 : m_z 8 f) (hf16 : ∀ j, f j < 65536) (hg0 : m_z 8 g0) (hg1 : m_z 8 g1) (hg2 : m_z 8 g2) (hg3 : m_z 8 g3) (hz4 : z ≤ 4) (hk : k < 8) (hv : v < 65536) : m_Mi l yL_set wsL_set 4 88 D cY [.ref nx, .int (nI k), .int (nI v), .ref ot] [(ot, .inl (cY 2, 1, .inr (.inl ov))), (nx, .inr (6, [.ref fd, .ref tb, .ref pr, .ref ad, .ref rd, .ref wd, .ref h, .int (nI sk)])), (ad, .inr (4, [.ref ab, .int (nI cnt)])), (ab, .inl (cY 0, 8, .inl (m_nf f))), (h, .inr (0, [.ref kp, .int (nI z)])), (kp, .inl (cY 3, 4, .inr (.inr (.inr (.inr (m_k4 s0 s1 s2 s3)))))), (s0, .inr (4, [.ref b0, .int (nI t0)])), (b0, .inl (cY 0, 8, .inl (m_nf g0))), (s1, .inr (4, [.ref b1, .int (nI t1)])), (b1, .inl (cY 0, 8, .inl (m_nf g1))), (s2, .inr (4, [.ref b2, .int (nI t2)])), (b2, .inl (cY 0, 8, .inl (m_nf g2))), (s3, .inr (4, [.ref b3, .int (nI t3)])), (b3, .inl (cY 0, 8, .inl (m_nf g3)))] (fun (res : Int32) (u : Unit) => res = nI 0) (fun (u : Unit) => [(ot, .inl (cY 2, 1, .inr (.inl (vp_updL ov 0 (Int32.toInt64 (nI (f k))))))), (nx, .inr (6, [.ref fd, .ref tb, .ref pr, .ref ad, .ref rd, .ref wd, .ref h, .int (nI sk)])), (ad, .inr (4, [.ref ab, .int (nI cnt)])), (ab, .inl (cY 0, 8, .inl (m_nf (m_up f k v)))), (h, .inr (0, [.ref kp, .int (nI (min (z + 1) 4))])), (kp, .inl (cY 3, 4, .inr (.inr (.inr (.inr (m_k4 s0 s1 s2 s3)))))), (s0, .inr (4, [.ref b0, .int (nI cnt)])), (b0, .inl (cY 0, 8, .inl (m_nf f))), (s1, .inr (4, [.ref b1, .int (nI t0)])), (b1, .inl (cY 0, 8, .inl (m_nf g0))), (s2, .inr (4, [.ref b2, .int (nI t1)])), (b2, .inl (cY 0, 8, .inl (m_nf g1))), (s3, .inr (4, [.ref b3, .int (nI t2)])), (b3, .inl (cY 0, 8, .inl (m_nf g2)))]) := by
  refine m_enterIW (cc := cL_set) (maxL := 5) (ret := (some .int)) (by decide +kernel) rfl (Nat.le_of_ble_eq_true rfl) ?_
  intro p e s m below meth c A ls C0 hP hD hl
  obtain ⟨hx, hb, hr, hml, hts, hown, hlocks, hK, hA⟩ := id C0
  generalize hQ : MQ below _ _ s 0 0 A = Q
  have hS : va_S A s.heap s.heap [] := va_S.rf
  have hl : lv_has ls 5 [(0, .ref nx), (1, .int (nI k)), (2, .int (nI v)), (3, .ref ot)] := hl
  refine lv_aload_n hx hb dL_set_0 rfl (lv_at hl 3 rfl) ?_
  refine lv_iconst (v := nI 0) hx hb dL_set_1 (by decide) ?_
  refine lv_aload_n hx hb dL_set_2 rfl (lv_at hl 0 rfl) ?_
  refine lv_iload_n hx hb dL_set_3 rfl (lv_at hl 1 rfl) ?_
  refine lv_iload_n hx hb dL_set_4 rfl (lv_at hl 2 rfl) ?_
  refine m_callVi (As := [.int (nI k), .int (nI v)]) (rest := [.int (nI 0), .ref ot]) C0 hl hP hD hS (c_X6_set l D cY nx fd tb pr ad rd wd h sk ab cnt f kp z s0 s1 s2 s3 b0 b1 b2 b3 t0 t1 t2 t3 g0 g1 g2 g3 k v (by first | assumption | omega | exact nm_lt _ _ | exact np_lt _ _ | decide) (by first | assumption | omega | exact nm_lt _ _ | exact np_lt _ _ | decide) (by first | assumption | omega | exact nm_lt _ _ | exact np_lt _ _ | decide) (by first | assumption | omega | exact nm_lt _ _ | exact np_lt _ _ | decide) (by first | assumption | omega | exact nm_lt _ _ | exact np_lt _ _ | decide) (by first | assumption | omega | exact nm_lt _ _ | exact np_lt _ _ | decide) (by first | assumption | omega | exact nm_lt _ _ | exact np_lt _ _ | decide) (by first | assumption | omega | exact nm_lt _ _ | exact np_lt _ _ | decide) (by first | assumption | omega | exact nm_lt _ _ | exact np_lt _ _ | decide)) (cwV 2 hts gL_set_X6_set rfl rfl rfl (by decide +kernel) ⟨Nat.le_of_ble_eq_true rfl, Nat.le_of_ble_eq_true rfl⟩) dL_set_5 [1, 2, 3, 4, 5, 6, 7, 8, 9, 10, 11, 12, 13] rfl rfl 1 rfl rfl rfl rfl (Nat.le_of_ble_eq_true rfl) (Nat.zero_le _) (Nat.zero_le _) (fun _ => rfl) (fun r2 u H1 locs hw hP hD hS => ?_)
  try dsimp only at hw
  obtain rfl := hw
  have hP : va_P D vwCl [(ot, .inl (cY 2, 1, .inr (.inl ov))), (nx, .inr (6, [.ref fd, .ref tb, .ref pr, .ref ad, .ref rd, .ref wd, .ref h, .int (nI sk)])), (ad, .inr (4, [.ref ab, .int (nI cnt)])), (ab, .inl (cY 0, 8, .inl (m_nf (m_up f k v)))), (h, .inr (0, [.ref kp, .int (nI (min (z + 1) 4))])), (kp, .inl (cY 3, 4, .inr (.inr (.inr (.inr (m_k4 s0 s1 s2 s3)))))), (s0, .inr (4, [.ref b0, .int (nI cnt)])), (b0, .inl (cY 0, 8, .inl (m_nf f))), (s1, .inr (4, [.ref b1, .int (nI t0)])), (b1, .inl (cY 0, 8, .inl (m_nf g0))), (s2, .inr (4, [.ref b2, .int (nI t1)])), (b2, .inl (cY 0, 8, .inl (m_nf g1))), (s3, .inr (4, [.ref b3, .int (nI t2)])), (b3, .inl (cY 0, 8, .inl (m_nf g2)))] H1 := hP
  have hD : va_D A [(ot, .inl (cY 2, 1, .inr (.inl ov))), (nx, .inr (6, [.ref fd, .ref tb, .ref pr, .ref ad, .ref rd, .ref wd, .ref h, .int (nI sk)])), (ad, .inr (4, [.ref ab, .int (nI cnt)])), (ab, .inl (cY 0, 8, .inl (m_nf (m_up f k v)))), (h, .inr (0, [.ref kp, .int (nI (min (z + 1) 4))])), (kp, .inl (cY 3, 4, .inr (.inr (.inr (.inr (m_k4 s0 s1 s2 s3)))))), (s0, .inr (4, [.ref b0, .int (nI cnt)])), (b0, .inl (cY 0, 8, .inl (m_nf f))), (s1, .inr (4, [.ref b1, .int (nI t0)])), (b1, .inl (cY 0, 8, .inl (m_nf g0))), (s2, .inr (4, [.ref b2, .int (nI t1)])), (b2, .inl (cY 0, 8, .inl (m_nf g1))), (s3, .inr (4, [.ref b3, .int (nI t2)])), (b3, .inl (cY 0, 8, .inl (m_nf g2)))] := hD
  refine lv_i2l (v := Int32.toInt64 (nI (f k))) hx hb dL_set_8 rfl ?_
  refine va_last hx hb hK hP hD hS 0 2 rfl rfl (m_in (n := 0) (by first | assumption | omega) (by decide)) dL_set_9 (fun H3 locs hP hD hS => ?_)
  have hP : va_P D vwCl [(ot, .inl (cY 2, 1, .inr (.inl (vp_updL ov 0 (Int32.toInt64 (nI (f k))))))), (nx, .inr (6, [.ref fd, .ref tb, .ref pr, .ref ad, .ref rd, .ref wd, .ref h, .int (nI sk)])), (ad, .inr (4, [.ref ab, .int (nI cnt)])), (ab, .inl (cY 0, 8, .inl (m_nf (m_up f k v)))), (h, .inr (0, [.ref kp, .int (nI (min (z + 1) 4))])), (kp, .inl (cY 3, 4, .inr (.inr (.inr (.inr (m_k4 s0 s1 s2 s3)))))), (s0, .inr (4, [.ref b0, .int (nI cnt)])), (b0, .inl (cY 0, 8, .inl (m_nf f))), (s1, .inr (4, [.ref b1, .int (nI t0)])), (b1, .inl (cY 0, 8, .inl (m_nf g0))), (s2, .inr (4, [.ref b2, .int (nI t1)])), (b2, .inl (cY 0, 8, .inl (m_nf g1))), (s3, .inr (4, [.ref b3, .int (nI t2)])), (b3, .inl (cY 0, 8, .inl (m_nf g2)))] H3 := hP
  have hD : va_D A [(ot, .inl (cY 2, 1, .inr (.inl (vp_updL ov 0 (Int32.toInt64 (nI (f k))))))), (nx, .inr (6, [.ref fd, .ref tb, .ref pr, .ref ad, .ref rd, .ref wd, .ref h, .int (nI sk)])), (ad, .inr (4, [.ref ab, .int (nI cnt)])), (ab, .inl (cY 0, 8, .inl (m_nf (m_up f k v)))), (h, .inr (0, [.ref kp, .int (nI (min (z + 1) 4))])), (kp, .inl (cY 3, 4, .inr (.inr (.inr (.inr (m_k4 s0 s1 s2 s3)))))), (s0, .inr (4, [.ref b0, .int (nI cnt)])), (b0, .inl (cY 0, 8, .inl (m_nf f))), (s1, .inr (4, [.ref b1, .int (nI t0)])), (b1, .inl (cY 0, 8, .inl (m_nf g0))), (s2, .inr (4, [.ref b2, .int (nI t1)])), (b2, .inl (cY 0, 8, .inl (m_nf g1))), (s3, .inr (4, [.ref b3, .int (nI t2)])), (b3, .inl (cY 0, 8, .inl (m_nf g2)))] := hD
  refine lv_goto (tgt := 21) hx hb dL_set_10 (by decide) ?_
  refine lv_iconst (v := nI 0) hx hb dL_set_21 (by decide) ?_
  subst hQ
  exact m_iret C0 hS dL_set_22 (u := ()) hP (rfl)
set_option maxHeartbeats 4000000 in
set_option maxRecDepth 100000 in
theorem c_L_set_x1 (l : Launch) (hfl : l.stackTraces = false) (D : va_G) (cY : Nat → ClassId) (eS : Nat → Nat) (eO : Nat) (nx fd tb pr ad rd wd h sk : Nat) (x y : Int32) (ot : Nat) (ov : Nat → Int64) (hn : ¬ m_isR x) : m_Me l yL_set wsL_set 8 139 1 6 D cY eS eO [.ref nx, .int x, .int y, .ref ot] [(ot, .inl (cY 2, 1, .inr (.inl ov))), (nx, .inr (6, [.ref fd, .ref tb, .ref pr, .ref ad, .ref rd, .ref wd, .ref h, .int (nI sk)]))] (fun (res : Int32) (u : Unit) => res = nI 1) (fun (u : Unit) => [(ot, .inl (cY 2, 1, .inr (.inl ov))), (nx, .inr (6, [.ref fd, .ref tb, .ref pr, .ref ad, .ref rd, .ref wd, .ref h, .int (nI sk)]))]) := by
  refine m_enterEW (cc := cL_set) (maxL := 5) (ret := (some .int)) (by decide +kernel) rfl (Nat.le_of_ble_eq_true rfl) ?_
  intro p e s m below meth c A ls C0 htb hE hP hD hl
  obtain ⟨hx, hb, hr, hml, hts, hown, hlocks, hK, hA⟩ := id C0
  obtain ⟨hz1, hz2, ⟨hcIO, hcIA, hcIS⟩, hdcl, ⟨hs0, hs1, hs2, hs3, hs4, hs5, hs6, hs7⟩, ⟨hn1, hn2⟩, ⟨hl0, hl1, hl2, hl3, hl4⟩, hzO, htO⟩ := id hE
  generalize hQ : MQ below _ _ s 1 6 A = Q
  have hS : va_S A s.heap s.heap [] := va_S.rf
  have hl : lv_has ls 5 [(0, .ref nx), (1, .int x), (2, .int y), (3, .ref ot)] := hl
  have hwd0 := hts (.classLink RL 13 e_IO) (by decide +kernel)
  refine lv_aload_n hx hb dL_set_0 rfl (lv_at hl 3 rfl) ?_
  refine lv_iconst (v := nI 0) hx hb dL_set_1 (by decide) ?_
  refine lv_aload_n hx hb dL_set_2 rfl (lv_at hl 0 rfl) ?_
  refine lv_iload_n hx hb dL_set_3 rfl (lv_at hl 1 rfl) ?_
  refine lv_iload_n hx hb dL_set_4 rfl (lv_at hl 2 rfl) ?_
  refine m_callVc (As := [.int x, .int y]) (rest := [.int (nI 0), .ref ot]) C0 htb hE hl hP hD hS (c_X6_set_x1 l hfl D cY eS eO nx fd tb pr ad rd wd h sk x y (by first | assumption | omega | exact nm_lt _ _ | exact np_lt _ _ | decide)) (cwV 2 hts gL_set_X6_set rfl rfl rfl (by decide +kernel) ⟨Nat.le_of_ble_eq_true rfl, Nat.le_of_ble_eq_true rfl⟩) dL_set_5 [1] rfl rfl 1 rfl rfl rfl rfl (Nat.le_of_ble_eq_true rfl) (Nat.le_of_ble_eq_true rfl) (Nat.le_of_ble_eq_true rfl) (fun _ => rfl) (tableOf []) ⟨0, 10, 13, 13⟩ (tableOf [(0, 10, 17, 15)]) rfl (fun z hz => by cases hz) (by decide) (by decide) hwd0 hcIO (fun q9 u H1 locs hP hD hS => ?_)
  have hP : va_P D vwCl [(ot, .inl (cY 2, 1, .inr (.inl ov))), (nx, .inr (6, [.ref fd, .ref tb, .ref pr, .ref ad, .ref rd, .ref wd, .ref h, .int (nI sk)]))] H1 := hP
  have hD : va_D A [(ot, .inl (cY 2, 1, .inr (.inl ov))), (nx, .inr (6, [.ref fd, .ref tb, .ref pr, .ref ad, .ref rd, .ref wd, .ref h, .int (nI sk)]))] := hD
  refine lv_astore (lv' := [(4, .ref q9), (0, .ref nx), (1, .int x), (2, .int y), (3, .ref ot)]) hx hb dL_set_13 hl (by decide) rfl (fun ls hl => ?_)
  refine lv_iconst (v := nI 1) hx hb dL_set_15 (by decide) ?_
  subst hQ
  exact m_iretC C0 hS dL_set_16 (u := ()) hP (rfl)
set_option maxHeartbeats 4000000 in
set_option maxRecDepth 100000 in
theorem c_L_set_x2 (l : Launch) (hfl : l.stackTraces = false) (D : va_G) (cY : Nat → ClassId) (eS : Nat → Nat) (eO : Nat) (nx fd tb pr ad rd wd h sk : Nat) (k : Nat) (y : Int32) (ot : Nat) (ov : Nat → Int64) (hk : k < 8) (hn : ¬ m_isN y) : m_Me l yL_set wsL_set 8 140 1 6 D cY eS eO [.ref nx, .int (nI k), .int y, .ref ot] [(ot, .inl (cY 2, 1, .inr (.inl ov))), (nx, .inr (6, [.ref fd, .ref tb, .ref pr, .ref ad, .ref rd, .ref wd, .ref h, .int (nI sk)]))] (fun (res : Int32) (u : Unit) => res = nI 2) (fun (u : Unit) => [(ot, .inl (cY 2, 1, .inr (.inl ov))), (nx, .inr (6, [.ref fd, .ref tb, .ref pr, .ref ad, .ref rd, .ref wd, .ref h, .int (nI sk)]))]) := by
  refine m_enterEW (cc := cL_set) (maxL := 5) (ret := (some .int)) (by decide +kernel) rfl (Nat.le_of_ble_eq_true rfl) ?_
  intro p e s m below meth c A ls C0 htb hE hP hD hl
  obtain ⟨hx, hb, hr, hml, hts, hown, hlocks, hK, hA⟩ := id C0
  obtain ⟨hz1, hz2, ⟨hcIO, hcIA, hcIS⟩, hdcl, ⟨hs0, hs1, hs2, hs3, hs4, hs5, hs6, hs7⟩, ⟨hn1, hn2⟩, ⟨hl0, hl1, hl2, hl3, hl4⟩, hzO, htO⟩ := id hE
  generalize hQ : MQ below _ _ s 1 6 A = Q
  have hS : va_S A s.heap s.heap [] := va_S.rf
  have hl : lv_has ls 5 [(0, .ref nx), (1, .int (nI k)), (2, .int y), (3, .ref ot)] := hl
  have hwd0 := hts (.classLink RL 15 e_IA) (by decide +kernel)
  have hwd1 := hts (.classLink RL 13 e_IO) (by decide +kernel)
  refine lv_aload_n hx hb dL_set_0 rfl (lv_at hl 3 rfl) ?_
  refine lv_iconst (v := nI 0) hx hb dL_set_1 (by decide) ?_
  refine lv_aload_n hx hb dL_set_2 rfl (lv_at hl 0 rfl) ?_
  refine lv_iload_n hx hb dL_set_3 rfl (lv_at hl 1 rfl) ?_
  refine lv_iload_n hx hb dL_set_4 rfl (lv_at hl 2 rfl) ?_
  refine m_callVc (As := [.int (nI k), .int y]) (rest := [.int (nI 0), .ref ot]) C0 htb hE hl hP hD hS (c_X6_set_x2 l hfl D cY eS eO nx fd tb pr ad rd wd h sk k y (by first | assumption | omega | exact nm_lt _ _ | exact np_lt _ _ | decide) (by first | assumption | omega | exact nm_lt _ _ | exact np_lt _ _ | decide)) (cwV 2 hts gL_set_X6_set rfl rfl rfl (by decide +kernel) ⟨Nat.le_of_ble_eq_true rfl, Nat.le_of_ble_eq_true rfl⟩) dL_set_5 [1] rfl rfl 1 rfl rfl rfl rfl (Nat.le_of_ble_eq_true rfl) (Nat.le_of_ble_eq_true rfl) (Nat.le_of_ble_eq_true rfl) (fun _ => rfl) (tableOf [(0, 10, 13, 13)]) ⟨0, 10, 17, 15⟩ (tableOf []) rfl (fun z hz => by have hz : z = ⟨0, 10, 13, 13⟩ := (by simpa [tableOf] using hz); subst hz; exact Or.inr ⟨by decide, e_IO, hwd1, hn1⟩) (by decide) (by decide) hwd0 hcIA (fun q9 u H1 locs hP hD hS => ?_)
  have hP : va_P D vwCl [(ot, .inl (cY 2, 1, .inr (.inl ov))), (nx, .inr (6, [.ref fd, .ref tb, .ref pr, .ref ad, .ref rd, .ref wd, .ref h, .int (nI sk)]))] H1 := hP
  have hD : va_D A [(ot, .inl (cY 2, 1, .inr (.inl ov))), (nx, .inr (6, [.ref fd, .ref tb, .ref pr, .ref ad, .ref rd, .ref wd, .ref h, .int (nI sk)]))] := hD
  refine lv_astore (lv' := [(4, .ref q9), (0, .ref nx), (1, .int (nI k)), (2, .int y), (3, .ref ot)]) hx hb dL_set_17 hl (by decide) rfl (fun ls hl => ?_)
  refine lv_iconst (v := nI 2) hx hb dL_set_19 (by decide) ?_
  subst hQ
  exact m_iretC C0 hS dL_set_20 (u := ()) hP (rfl)
set_option maxHeartbeats 4000000 in
set_option maxRecDepth 100000 in
theorem c_L_invert_ok (l : Launch) (D : va_G) (cY : Nat → ClassId) (nx fd tb pr ad rd wd h sk : Nat) (ab cnt : Nat) (f : Nat → Nat) (kp z s0 s1 s2 s3 b0 b1 b2 b3 t0 t1 t2 t3 : Nat) (g0 g1 g2 g3 : Nat → Nat) (fb : Nat) (bp : Nat → Nat) (k : Nat) (ot : Nat) (ov : Nat → Int64) (hf8 : m_z 8 f) (hf16 : ∀ j, f j < 65536) (hg0 : m_z 8 g0) (hg1 : m_z 8 g1) (hg2 : m_z 8 g2) (hg3 : m_z 8 g3) (hz4 : z ≤ 4) (hB : n_bp bp) (hk : k < 8) (hz : ¬ f k = 0) : m_Mi l yL_invert wsL_invert 5 109 D cY [.ref nx, .int (nI k), .ref ot] [(ot, .inl (cY 2, 1, .inr (.inl ov))), (nx, .inr (6, [.ref fd, .ref tb, .ref pr, .ref ad, .ref rd, .ref wd, .ref h, .int (nI sk)])), (ad, .inr (4, [.ref ab, .int (nI cnt)])), (ab, .inl (cY 0, 8, .inl (m_nf f))), (h, .inr (0, [.ref kp, .int (nI z)])), (kp, .inl (cY 3, 4, .inr (.inr (.inr (.inr (m_k4 s0 s1 s2 s3)))))), (s0, .inr (4, [.ref b0, .int (nI t0)])), (b0, .inl (cY 0, 8, .inl (m_nf g0))), (s1, .inr (4, [.ref b1, .int (nI t1)])), (b1, .inl (cY 0, 8, .inl (m_nf g1))), (s2, .inr (4, [.ref b2, .int (nI t2)])), (b2, .inl (cY 0, 8, .inl (m_nf g2))), (s3, .inr (4, [.ref b3, .int (nI t3)])), (b3, .inl (cY 0, 8, .inl (m_nf g3))), (fd, .inr (2, [.ref fb])), (fb, .inl (cY 0, 256, .inl (m_nf bp)))] (fun (res : Int32) (u : Unit) => res = nI 0) (fun (u : Unit) => [(ot, .inl (cY 2, 1, .inr (.inl (vp_updL ov 0 (Int32.toInt64 (nI (np (f k) 65534))))))), (nx, .inr (6, [.ref fd, .ref tb, .ref pr, .ref ad, .ref rd, .ref wd, .ref h, .int (nI sk)])), (ad, .inr (4, [.ref ab, .int (nI cnt)])), (ab, .inl (cY 0, 8, .inl (m_nf (m_up f k (np (f k) 65534))))), (h, .inr (0, [.ref kp, .int (nI (min (z + 1) 4))])), (kp, .inl (cY 3, 4, .inr (.inr (.inr (.inr (m_k4 s0 s1 s2 s3)))))), (s0, .inr (4, [.ref b0, .int (nI cnt)])), (b0, .inl (cY 0, 8, .inl (m_nf f))), (s1, .inr (4, [.ref b1, .int (nI t0)])), (b1, .inl (cY 0, 8, .inl (m_nf g0))), (s2, .inr (4, [.ref b2, .int (nI t1)])), (b2, .inl (cY 0, 8, .inl (m_nf g1))), (s3, .inr (4, [.ref b3, .int (nI t2)])), (b3, .inl (cY 0, 8, .inl (m_nf g2))), (fd, .inr (2, [.ref fb])), (fb, .inl (cY 0, 256, .inl (m_nf bp)))]) := by
  refine m_enterIW (cc := cL_invert) (maxL := 4) (ret := (some .int)) (by decide +kernel) rfl (Nat.le_of_ble_eq_true rfl) ?_
  intro p e s m below meth c A ls C0 hP hD hl
  obtain ⟨hx, hb, hr, hml, hts, hown, hlocks, hK, hA⟩ := id C0
  generalize hQ : MQ below _ _ s 0 0 A = Q
  have hS : va_S A s.heap s.heap [] := va_S.rf
  have hl : lv_has ls 4 [(0, .ref nx), (1, .int (nI k)), (2, .ref ot)] := hl
  refine lv_aload_n hx hb dL_invert_0 rfl (lv_at hl 2 rfl) ?_
  refine lv_iconst (v := nI 0) hx hb dL_invert_1 (by decide) ?_
  refine lv_aload_n hx hb dL_invert_2 rfl (lv_at hl 0 rfl) ?_
  refine lv_iload_n hx hb dL_invert_3 rfl (lv_at hl 1 rfl) ?_
  refine m_callVi (As := [.int (nI k)]) (rest := [.int (nI 0), .ref ot]) C0 hl hP hD hS (c_X6_invert l D cY nx fd tb pr ad rd wd h sk ab cnt f kp z s0 s1 s2 s3 b0 b1 b2 b3 t0 t1 t2 t3 g0 g1 g2 g3 fb bp k (by first | assumption | omega | exact nm_lt _ _ | exact np_lt _ _ | decide) (by first | assumption | omega | exact nm_lt _ _ | exact np_lt _ _ | decide) (by first | assumption | omega | exact nm_lt _ _ | exact np_lt _ _ | decide) (by first | assumption | omega | exact nm_lt _ _ | exact np_lt _ _ | decide) (by first | assumption | omega | exact nm_lt _ _ | exact np_lt _ _ | decide) (by first | assumption | omega | exact nm_lt _ _ | exact np_lt _ _ | decide) (by first | assumption | omega | exact nm_lt _ _ | exact np_lt _ _ | decide) (by first | assumption | omega | exact nm_lt _ _ | exact np_lt _ _ | decide) (by first | assumption | omega | exact nm_lt _ _ | exact np_lt _ _ | decide) (by first | assumption | omega | exact nm_lt _ _ | exact np_lt _ _ | decide)) (cwV 1 hts gL_invert_X6_invert rfl rfl rfl (by decide +kernel) ⟨Nat.le_of_ble_eq_true rfl, Nat.le_of_ble_eq_true rfl⟩) dL_invert_4 [1, 2, 3, 4, 5, 6, 7, 8, 9, 10, 11, 12, 13, 14, 15] rfl rfl 1 rfl rfl rfl rfl (Nat.le_of_ble_eq_true rfl) (Nat.zero_le _) (Nat.zero_le _) (fun _ => rfl) (fun r2 u H1 locs hw hP hD hS => ?_)
  try dsimp only at hw
  obtain rfl := hw
  have hP : va_P D vwCl [(ot, .inl (cY 2, 1, .inr (.inl ov))), (nx, .inr (6, [.ref fd, .ref tb, .ref pr, .ref ad, .ref rd, .ref wd, .ref h, .int (nI sk)])), (ad, .inr (4, [.ref ab, .int (nI cnt)])), (ab, .inl (cY 0, 8, .inl (m_nf (m_up f k (np (f k) 65534))))), (h, .inr (0, [.ref kp, .int (nI (min (z + 1) 4))])), (kp, .inl (cY 3, 4, .inr (.inr (.inr (.inr (m_k4 s0 s1 s2 s3)))))), (s0, .inr (4, [.ref b0, .int (nI cnt)])), (b0, .inl (cY 0, 8, .inl (m_nf f))), (s1, .inr (4, [.ref b1, .int (nI t0)])), (b1, .inl (cY 0, 8, .inl (m_nf g0))), (s2, .inr (4, [.ref b2, .int (nI t1)])), (b2, .inl (cY 0, 8, .inl (m_nf g1))), (s3, .inr (4, [.ref b3, .int (nI t2)])), (b3, .inl (cY 0, 8, .inl (m_nf g2))), (fd, .inr (2, [.ref fb])), (fb, .inl (cY 0, 256, .inl (m_nf bp)))] H1 := hP
  have hD : va_D A [(ot, .inl (cY 2, 1, .inr (.inl ov))), (nx, .inr (6, [.ref fd, .ref tb, .ref pr, .ref ad, .ref rd, .ref wd, .ref h, .int (nI sk)])), (ad, .inr (4, [.ref ab, .int (nI cnt)])), (ab, .inl (cY 0, 8, .inl (m_nf (m_up f k (np (f k) 65534))))), (h, .inr (0, [.ref kp, .int (nI (min (z + 1) 4))])), (kp, .inl (cY 3, 4, .inr (.inr (.inr (.inr (m_k4 s0 s1 s2 s3)))))), (s0, .inr (4, [.ref b0, .int (nI cnt)])), (b0, .inl (cY 0, 8, .inl (m_nf f))), (s1, .inr (4, [.ref b1, .int (nI t0)])), (b1, .inl (cY 0, 8, .inl (m_nf g0))), (s2, .inr (4, [.ref b2, .int (nI t1)])), (b2, .inl (cY 0, 8, .inl (m_nf g1))), (s3, .inr (4, [.ref b3, .int (nI t2)])), (b3, .inl (cY 0, 8, .inl (m_nf g2))), (fd, .inr (2, [.ref fb])), (fb, .inl (cY 0, 256, .inl (m_nf bp)))] := hD
  refine lv_i2l (v := Int32.toInt64 (nI (np (f k) 65534))) hx hb dL_invert_7 rfl ?_
  refine va_last hx hb hK hP hD hS 0 2 rfl rfl (m_in (n := 0) (by first | assumption | omega) (by decide)) dL_invert_8 (fun H3 locs hP hD hS => ?_)
  have hP : va_P D vwCl [(ot, .inl (cY 2, 1, .inr (.inl (vp_updL ov 0 (Int32.toInt64 (nI (np (f k) 65534))))))), (nx, .inr (6, [.ref fd, .ref tb, .ref pr, .ref ad, .ref rd, .ref wd, .ref h, .int (nI sk)])), (ad, .inr (4, [.ref ab, .int (nI cnt)])), (ab, .inl (cY 0, 8, .inl (m_nf (m_up f k (np (f k) 65534))))), (h, .inr (0, [.ref kp, .int (nI (min (z + 1) 4))])), (kp, .inl (cY 3, 4, .inr (.inr (.inr (.inr (m_k4 s0 s1 s2 s3)))))), (s0, .inr (4, [.ref b0, .int (nI cnt)])), (b0, .inl (cY 0, 8, .inl (m_nf f))), (s1, .inr (4, [.ref b1, .int (nI t0)])), (b1, .inl (cY 0, 8, .inl (m_nf g0))), (s2, .inr (4, [.ref b2, .int (nI t1)])), (b2, .inl (cY 0, 8, .inl (m_nf g1))), (s3, .inr (4, [.ref b3, .int (nI t2)])), (b3, .inl (cY 0, 8, .inl (m_nf g2))), (fd, .inr (2, [.ref fb])), (fb, .inl (cY 0, 256, .inl (m_nf bp)))] H3 := hP
  have hD : va_D A [(ot, .inl (cY 2, 1, .inr (.inl (vp_updL ov 0 (Int32.toInt64 (nI (np (f k) 65534))))))), (nx, .inr (6, [.ref fd, .ref tb, .ref pr, .ref ad, .ref rd, .ref wd, .ref h, .int (nI sk)])), (ad, .inr (4, [.ref ab, .int (nI cnt)])), (ab, .inl (cY 0, 8, .inl (m_nf (m_up f k (np (f k) 65534))))), (h, .inr (0, [.ref kp, .int (nI (min (z + 1) 4))])), (kp, .inl (cY 3, 4, .inr (.inr (.inr (.inr (m_k4 s0 s1 s2 s3)))))), (s0, .inr (4, [.ref b0, .int (nI cnt)])), (b0, .inl (cY 0, 8, .inl (m_nf f))), (s1, .inr (4, [.ref b1, .int (nI t0)])), (b1, .inl (cY 0, 8, .inl (m_nf g0))), (s2, .inr (4, [.ref b2, .int (nI t1)])), (b2, .inl (cY 0, 8, .inl (m_nf g1))), (s3, .inr (4, [.ref b3, .int (nI t2)])), (b3, .inl (cY 0, 8, .inl (m_nf g2))), (fd, .inr (2, [.ref fb])), (fb, .inl (cY 0, 256, .inl (m_nf bp)))] := hD
  refine lv_goto (tgt := 18) hx hb dL_invert_9 (by decide) ?_
  refine lv_iconst (v := nI 0) hx hb dL_invert_18 (by decide) ?_
  subst hQ
  exact m_iret C0 hS dL_invert_19 (u := ()) hP (rfl)
set_option maxHeartbeats 4000000 in
set_option maxRecDepth 100000 in
theorem c_L_invert_x1 (l : Launch) (hfl : l.stackTraces = false) (D : va_G) (cY : Nat → ClassId) (eS : Nat → Nat) (eO : Nat) (nx fd tb pr ad rd wd h sk : Nat) (x : Int32) (ot : Nat) (ov : Nat → Int64) (hn : ¬ m_isR x) : m_Me l yL_invert wsL_invert 8 138 1 6 D cY eS eO [.ref nx, .int x, .ref ot] [(ot, .inl (cY 2, 1, .inr (.inl ov))), (nx, .inr (6, [.ref fd, .ref tb, .ref pr, .ref ad, .ref rd, .ref wd, .ref h, .int (nI sk)]))] (fun (res : Int32) (u : Unit) => res = nI 1) (fun (u : Unit) => [(ot, .inl (cY 2, 1, .inr (.inl ov))), (nx, .inr (6, [.ref fd, .ref tb, .ref pr, .ref ad, .ref rd, .ref wd, .ref h, .int (nI sk)]))]) := by
  refine m_enterEW (cc := cL_invert) (maxL := 4) (ret := (some .int)) (by decide +kernel) rfl (Nat.le_of_ble_eq_true rfl) ?_
  intro p e s m below meth c A ls C0 htb hE hP hD hl
  obtain ⟨hx, hb, hr, hml, hts, hown, hlocks, hK, hA⟩ := id C0
  obtain ⟨hz1, hz2, ⟨hcIO, hcIA, hcIS⟩, hdcl, ⟨hs0, hs1, hs2, hs3, hs4, hs5, hs6, hs7⟩, ⟨hn1, hn2⟩, ⟨hl0, hl1, hl2, hl3, hl4⟩, hzO, htO⟩ := id hE
  generalize hQ : MQ below _ _ s 1 6 A = Q
  have hS : va_S A s.heap s.heap [] := va_S.rf
  have hl : lv_has ls 4 [(0, .ref nx), (1, .int x), (2, .ref ot)] := hl
  have hwd0 := hts (.classLink RL 13 e_IO) (by decide +kernel)
  refine lv_aload_n hx hb dL_invert_0 rfl (lv_at hl 2 rfl) ?_
  refine lv_iconst (v := nI 0) hx hb dL_invert_1 (by decide) ?_
  refine lv_aload_n hx hb dL_invert_2 rfl (lv_at hl 0 rfl) ?_
  refine lv_iload_n hx hb dL_invert_3 rfl (lv_at hl 1 rfl) ?_
  refine m_callVc (As := [.int x]) (rest := [.int (nI 0), .ref ot]) C0 htb hE hl hP hD hS (c_X6_invert_x1 l hfl D cY eS eO nx fd tb pr ad rd wd h sk x (by first | assumption | omega | exact nm_lt _ _ | exact np_lt _ _ | decide)) (cwV 1 hts gL_invert_X6_invert rfl rfl rfl (by decide +kernel) ⟨Nat.le_of_ble_eq_true rfl, Nat.le_of_ble_eq_true rfl⟩) dL_invert_4 [1] rfl rfl 1 rfl rfl rfl rfl (Nat.le_of_ble_eq_true rfl) (Nat.le_of_ble_eq_true rfl) (Nat.le_of_ble_eq_true rfl) (fun _ => rfl) (tableOf []) ⟨0, 9, 12, 13⟩ (tableOf [(0, 9, 15, 21)]) rfl (fun z hz => by cases hz) (by decide) (by decide) hwd0 hcIO (fun q9 u H1 locs hP hD hS => ?_)
  have hP : va_P D vwCl [(ot, .inl (cY 2, 1, .inr (.inl ov))), (nx, .inr (6, [.ref fd, .ref tb, .ref pr, .ref ad, .ref rd, .ref wd, .ref h, .int (nI sk)]))] H1 := hP
  have hD : va_D A [(ot, .inl (cY 2, 1, .inr (.inl ov))), (nx, .inr (6, [.ref fd, .ref tb, .ref pr, .ref ad, .ref rd, .ref wd, .ref h, .int (nI sk)]))] := hD
  refine lv_astore_n (lv' := [(3, .ref q9), (0, .ref nx), (1, .int x), (2, .ref ot)]) hx hb dL_invert_12 rfl hl (by decide) rfl (fun ls hl => ?_)
  refine lv_iconst (v := nI 1) hx hb dL_invert_13 (by decide) ?_
  subst hQ
  exact m_iretC C0 hS dL_invert_14 (u := ()) hP (rfl)
set_option maxHeartbeats 4000000 in
set_option maxRecDepth 100000 in
theorem c_L_invert_x2 (l : Launch) (hfl : l.stackTraces = false) (D : va_G) (cY : Nat → ClassId) (eS : Nat → Nat) (eO : Nat) (nx fd tb pr ad rd wd h sk : Nat) (ab cnt : Nat) (f : Nat → Nat) (k : Nat) (ot : Nat) (ov : Nat → Int64) (hf8 : m_z 8 f) (hf16 : ∀ j, f j < 65536) (hk : k < 8) (hz : f k = 0) : m_Me l yL_invert wsL_invert 7 118 1 6 D cY eS eO [.ref nx, .int (nI k), .ref ot] [(ot, .inl (cY 2, 1, .inr (.inl ov))), (nx, .inr (6, [.ref fd, .ref tb, .ref pr, .ref ad, .ref rd, .ref wd, .ref h, .int (nI sk)])), (ad, .inr (4, [.ref ab, .int (nI cnt)])), (ab, .inl (cY 0, 8, .inl (m_nf f)))] (fun (res : Int32) (u : Unit) => res = nI 2) (fun (u : Unit) => [(ot, .inl (cY 2, 1, .inr (.inl ov))), (nx, .inr (6, [.ref fd, .ref tb, .ref pr, .ref ad, .ref rd, .ref wd, .ref h, .int (nI sk)])), (ad, .inr (4, [.ref ab, .int (nI cnt)])), (ab, .inl (cY 0, 8, .inl (m_nf f)))]) := by
  refine m_enterEW (cc := cL_invert) (maxL := 4) (ret := (some .int)) (by decide +kernel) rfl (Nat.le_of_ble_eq_true rfl) ?_
  intro p e s m below meth c A ls C0 htb hE hP hD hl
  obtain ⟨hx, hb, hr, hml, hts, hown, hlocks, hK, hA⟩ := id C0
  obtain ⟨hz1, hz2, ⟨hcIO, hcIA, hcIS⟩, hdcl, ⟨hs0, hs1, hs2, hs3, hs4, hs5, hs6, hs7⟩, ⟨hn1, hn2⟩, ⟨hl0, hl1, hl2, hl3, hl4⟩, hzO, htO⟩ := id hE
  generalize hQ : MQ below _ _ s 1 6 A = Q
  have hS : va_S A s.heap s.heap [] := va_S.rf
  have hl : lv_has ls 4 [(0, .ref nx), (1, .int (nI k)), (2, .ref ot)] := hl
  have hwd0 := hts (.classLink RL 21 e_IS) (by decide +kernel)
  have hwd1 := hts (.classLink RL 13 e_IO) (by decide +kernel)
  refine lv_aload_n hx hb dL_invert_0 rfl (lv_at hl 2 rfl) ?_
  refine lv_iconst (v := nI 0) hx hb dL_invert_1 (by decide) ?_
  refine lv_aload_n hx hb dL_invert_2 rfl (lv_at hl 0 rfl) ?_
  refine lv_iload_n hx hb dL_invert_3 rfl (lv_at hl 1 rfl) ?_
  refine m_callVc (As := [.int (nI k)]) (rest := [.int (nI 0), .ref ot]) C0 htb hE hl hP hD hS (c_X6_invert_x2 l hfl D cY eS eO nx fd tb pr ad rd wd h sk ab cnt f k (by first | assumption | omega | exact nm_lt _ _ | exact np_lt _ _ | decide) (by first | assumption | omega | exact nm_lt _ _ | exact np_lt _ _ | decide) (by first | assumption | omega | exact nm_lt _ _ | exact np_lt _ _ | decide) (by first | assumption | omega | exact nm_lt _ _ | exact np_lt _ _ | decide)) (cwV 1 hts gL_invert_X6_invert rfl rfl rfl (by decide +kernel) ⟨Nat.le_of_ble_eq_true rfl, Nat.le_of_ble_eq_true rfl⟩) dL_invert_4 [1, 2, 3] rfl rfl 1 rfl rfl rfl rfl (Nat.le_of_ble_eq_true rfl) (Nat.le_of_ble_eq_true rfl) (Nat.le_of_ble_eq_true rfl) (fun _ => rfl) (tableOf [(0, 9, 12, 13)]) ⟨0, 9, 15, 21⟩ (tableOf []) rfl (fun z hz => by have hz : z = ⟨0, 9, 12, 13⟩ := (by simpa [tableOf] using hz); subst hz; exact Or.inr ⟨by decide, e_IO, hwd1, hn2⟩) (by decide) (by decide) hwd0 hcIS (fun q9 u H1 locs hP hD hS => ?_)
  have hP : va_P D vwCl [(ot, .inl (cY 2, 1, .inr (.inl ov))), (nx, .inr (6, [.ref fd, .ref tb, .ref pr, .ref ad, .ref rd, .ref wd, .ref h, .int (nI sk)])), (ad, .inr (4, [.ref ab, .int (nI cnt)])), (ab, .inl (cY 0, 8, .inl (m_nf f)))] H1 := hP
  have hD : va_D A [(ot, .inl (cY 2, 1, .inr (.inl ov))), (nx, .inr (6, [.ref fd, .ref tb, .ref pr, .ref ad, .ref rd, .ref wd, .ref h, .int (nI sk)])), (ad, .inr (4, [.ref ab, .int (nI cnt)])), (ab, .inl (cY 0, 8, .inl (m_nf f)))] := hD
  refine lv_astore_n (lv' := [(3, .ref q9), (0, .ref nx), (1, .int (nI k)), (2, .ref ot)]) hx hb dL_invert_15 rfl hl (by decide) rfl (fun ls hl => ?_)
  refine lv_iconst (v := nI 2) hx hb dL_invert_16 (by decide) ?_
  subst hQ
  exact m_iretC C0 hS dL_invert_17 (u := ()) hP (rfl)
set_option maxHeartbeats 4000000 in
set_option maxRecDepth 100000 in
theorem c_L_takeRoot_ok (l : Launch) (D : va_G) (cY : Nat → ClassId) (nx fd tb pr ad rd wd h sk : Nat) (ab cnt : Nat) (f : Nat → Nat) (kp z s0 s1 s2 s3 b0 b1 b2 b3 t0 t1 t2 t3 : Nat) (g0 g1 g2 g3 : Nat → Nat) (fb : Nat) (bp : Nat → Nat) (k : Nat) (ot : Nat) (ov : Nat → Int64) (hf8 : m_z 8 f) (hf16 : ∀ j, f j < 65536) (hg0 : m_z 8 g0) (hg1 : m_z 8 g1) (hg2 : m_z 8 g2) (hg3 : m_z 8 g3) (hz4 : z ≤ 4) (hB : n_bp bp) (hk : k < 8) : m_Mi l yL_takeRoot wsL_takeRoot 5 108 D cY [.ref nx, .int (nI k), .ref ot] [(ot, .inl (cY 2, 1, .inr (.inl ov))), (nx, .inr (6, [.ref fd, .ref tb, .ref pr, .ref ad, .ref rd, .ref wd, .ref h, .int (nI sk)])), (ad, .inr (4, [.ref ab, .int (nI cnt)])), (ab, .inl (cY 0, 8, .inl (m_nf f))), (h, .inr (0, [.ref kp, .int (nI z)])), (kp, .inl (cY 3, 4, .inr (.inr (.inr (.inr (m_k4 s0 s1 s2 s3)))))), (s0, .inr (4, [.ref b0, .int (nI t0)])), (b0, .inl (cY 0, 8, .inl (m_nf g0))), (s1, .inr (4, [.ref b1, .int (nI t1)])), (b1, .inl (cY 0, 8, .inl (m_nf g1))), (s2, .inr (4, [.ref b2, .int (nI t2)])), (b2, .inl (cY 0, 8, .inl (m_nf g2))), (s3, .inr (4, [.ref b3, .int (nI t3)])), (b3, .inl (cY 0, 8, .inl (m_nf g3))), (fd, .inr (2, [.ref fb])), (fb, .inl (cY 0, 256, .inl (m_nf bp)))] (fun (res : Int32) (u : Unit) => res = nI 0) (fun (u : Unit) => [(ot, .inl (cY 2, 1, .inr (.inl (vp_updL ov 0 (Int32.toInt64 (nI (np (f k) 32768))))))), (nx, .inr (6, [.ref fd, .ref tb, .ref pr, .ref ad, .ref rd, .ref wd, .ref h, .int (nI sk)])), (ad, .inr (4, [.ref ab, .int (nI cnt)])), (ab, .inl (cY 0, 8, .inl (m_nf (m_up f k (np (f k) 32768))))), (h, .inr (0, [.ref kp, .int (nI (min (z + 1) 4))])), (kp, .inl (cY 3, 4, .inr (.inr (.inr (.inr (m_k4 s0 s1 s2 s3)))))), (s0, .inr (4, [.ref b0, .int (nI cnt)])), (b0, .inl (cY 0, 8, .inl (m_nf f))), (s1, .inr (4, [.ref b1, .int (nI t0)])), (b1, .inl (cY 0, 8, .inl (m_nf g0))), (s2, .inr (4, [.ref b2, .int (nI t1)])), (b2, .inl (cY 0, 8, .inl (m_nf g1))), (s3, .inr (4, [.ref b3, .int (nI t2)])), (b3, .inl (cY 0, 8, .inl (m_nf g2))), (fd, .inr (2, [.ref fb])), (fb, .inl (cY 0, 256, .inl (m_nf bp)))]) := by
  refine m_enterIW (cc := cL_takeRoot) (maxL := 4) (ret := (some .int)) (by decide +kernel) rfl (Nat.le_of_ble_eq_true rfl) ?_
  intro p e s m below meth c A ls C0 hP hD hl
  obtain ⟨hx, hb, hr, hml, hts, hown, hlocks, hK, hA⟩ := id C0
  generalize hQ : MQ below _ _ s 0 0 A = Q
  have hS : va_S A s.heap s.heap [] := va_S.rf
  have hl : lv_has ls 4 [(0, .ref nx), (1, .int (nI k)), (2, .ref ot)] := hl
  refine lv_aload_n hx hb dL_takeRoot_0 rfl (lv_at hl 2 rfl) ?_
  refine lv_iconst (v := nI 0) hx hb dL_takeRoot_1 (by decide) ?_
  refine lv_aload_n hx hb dL_takeRoot_2 rfl (lv_at hl 0 rfl) ?_
  refine lv_iload_n hx hb dL_takeRoot_3 rfl (lv_at hl 1 rfl) ?_
  refine m_callVi (As := [.int (nI k)]) (rest := [.int (nI 0), .ref ot]) C0 hl hP hD hS (c_X6_takeRoot l D cY nx fd tb pr ad rd wd h sk ab cnt f kp z s0 s1 s2 s3 b0 b1 b2 b3 t0 t1 t2 t3 g0 g1 g2 g3 fb bp k (by first | assumption | omega | exact nm_lt _ _ | exact np_lt _ _ | decide) (by first | assumption | omega | exact nm_lt _ _ | exact np_lt _ _ | decide) (by first | assumption | omega | exact nm_lt _ _ | exact np_lt _ _ | decide) (by first | assumption | omega | exact nm_lt _ _ | exact np_lt _ _ | decide) (by first | assumption | omega | exact nm_lt _ _ | exact np_lt _ _ | decide) (by first | assumption | omega | exact nm_lt _ _ | exact np_lt _ _ | decide) (by first | assumption | omega | exact nm_lt _ _ | exact np_lt _ _ | decide) (by first | assumption | omega | exact nm_lt _ _ | exact np_lt _ _ | decide) (by first | assumption | omega | exact nm_lt _ _ | exact np_lt _ _ | decide)) (cwV 1 hts gL_takeRoot_X6_takeRoot rfl rfl rfl (by decide +kernel) ⟨Nat.le_of_ble_eq_true rfl, Nat.le_of_ble_eq_true rfl⟩) dL_takeRoot_4 [1, 2, 3, 4, 5, 6, 7, 8, 9, 10, 11, 12, 13, 14, 15] rfl rfl 1 rfl rfl rfl rfl (Nat.le_of_ble_eq_true rfl) (Nat.zero_le _) (Nat.zero_le _) (fun _ => rfl) (fun r2 u H1 locs hw hP hD hS => ?_)
  try dsimp only at hw
  obtain rfl := hw
  have hP : va_P D vwCl [(ot, .inl (cY 2, 1, .inr (.inl ov))), (nx, .inr (6, [.ref fd, .ref tb, .ref pr, .ref ad, .ref rd, .ref wd, .ref h, .int (nI sk)])), (ad, .inr (4, [.ref ab, .int (nI cnt)])), (ab, .inl (cY 0, 8, .inl (m_nf (m_up f k (np (f k) 32768))))), (h, .inr (0, [.ref kp, .int (nI (min (z + 1) 4))])), (kp, .inl (cY 3, 4, .inr (.inr (.inr (.inr (m_k4 s0 s1 s2 s3)))))), (s0, .inr (4, [.ref b0, .int (nI cnt)])), (b0, .inl (cY 0, 8, .inl (m_nf f))), (s1, .inr (4, [.ref b1, .int (nI t0)])), (b1, .inl (cY 0, 8, .inl (m_nf g0))), (s2, .inr (4, [.ref b2, .int (nI t1)])), (b2, .inl (cY 0, 8, .inl (m_nf g1))), (s3, .inr (4, [.ref b3, .int (nI t2)])), (b3, .inl (cY 0, 8, .inl (m_nf g2))), (fd, .inr (2, [.ref fb])), (fb, .inl (cY 0, 256, .inl (m_nf bp)))] H1 := hP
  have hD : va_D A [(ot, .inl (cY 2, 1, .inr (.inl ov))), (nx, .inr (6, [.ref fd, .ref tb, .ref pr, .ref ad, .ref rd, .ref wd, .ref h, .int (nI sk)])), (ad, .inr (4, [.ref ab, .int (nI cnt)])), (ab, .inl (cY 0, 8, .inl (m_nf (m_up f k (np (f k) 32768))))), (h, .inr (0, [.ref kp, .int (nI (min (z + 1) 4))])), (kp, .inl (cY 3, 4, .inr (.inr (.inr (.inr (m_k4 s0 s1 s2 s3)))))), (s0, .inr (4, [.ref b0, .int (nI cnt)])), (b0, .inl (cY 0, 8, .inl (m_nf f))), (s1, .inr (4, [.ref b1, .int (nI t0)])), (b1, .inl (cY 0, 8, .inl (m_nf g0))), (s2, .inr (4, [.ref b2, .int (nI t1)])), (b2, .inl (cY 0, 8, .inl (m_nf g1))), (s3, .inr (4, [.ref b3, .int (nI t2)])), (b3, .inl (cY 0, 8, .inl (m_nf g2))), (fd, .inr (2, [.ref fb])), (fb, .inl (cY 0, 256, .inl (m_nf bp)))] := hD
  refine lv_i2l (v := Int32.toInt64 (nI (np (f k) 32768))) hx hb dL_takeRoot_7 rfl ?_
  refine va_last hx hb hK hP hD hS 0 2 rfl rfl (m_in (n := 0) (by first | assumption | omega) (by decide)) dL_takeRoot_8 (fun H3 locs hP hD hS => ?_)
  have hP : va_P D vwCl [(ot, .inl (cY 2, 1, .inr (.inl (vp_updL ov 0 (Int32.toInt64 (nI (np (f k) 32768))))))), (nx, .inr (6, [.ref fd, .ref tb, .ref pr, .ref ad, .ref rd, .ref wd, .ref h, .int (nI sk)])), (ad, .inr (4, [.ref ab, .int (nI cnt)])), (ab, .inl (cY 0, 8, .inl (m_nf (m_up f k (np (f k) 32768))))), (h, .inr (0, [.ref kp, .int (nI (min (z + 1) 4))])), (kp, .inl (cY 3, 4, .inr (.inr (.inr (.inr (m_k4 s0 s1 s2 s3)))))), (s0, .inr (4, [.ref b0, .int (nI cnt)])), (b0, .inl (cY 0, 8, .inl (m_nf f))), (s1, .inr (4, [.ref b1, .int (nI t0)])), (b1, .inl (cY 0, 8, .inl (m_nf g0))), (s2, .inr (4, [.ref b2, .int (nI t1)])), (b2, .inl (cY 0, 8, .inl (m_nf g1))), (s3, .inr (4, [.ref b3, .int (nI t2)])), (b3, .inl (cY 0, 8, .inl (m_nf g2))), (fd, .inr (2, [.ref fb])), (fb, .inl (cY 0, 256, .inl (m_nf bp)))] H3 := hP
  have hD : va_D A [(ot, .inl (cY 2, 1, .inr (.inl (vp_updL ov 0 (Int32.toInt64 (nI (np (f k) 32768))))))), (nx, .inr (6, [.ref fd, .ref tb, .ref pr, .ref ad, .ref rd, .ref wd, .ref h, .int (nI sk)])), (ad, .inr (4, [.ref ab, .int (nI cnt)])), (ab, .inl (cY 0, 8, .inl (m_nf (m_up f k (np (f k) 32768))))), (h, .inr (0, [.ref kp, .int (nI (min (z + 1) 4))])), (kp, .inl (cY 3, 4, .inr (.inr (.inr (.inr (m_k4 s0 s1 s2 s3)))))), (s0, .inr (4, [.ref b0, .int (nI cnt)])), (b0, .inl (cY 0, 8, .inl (m_nf f))), (s1, .inr (4, [.ref b1, .int (nI t0)])), (b1, .inl (cY 0, 8, .inl (m_nf g0))), (s2, .inr (4, [.ref b2, .int (nI t1)])), (b2, .inl (cY 0, 8, .inl (m_nf g1))), (s3, .inr (4, [.ref b3, .int (nI t2)])), (b3, .inl (cY 0, 8, .inl (m_nf g2))), (fd, .inr (2, [.ref fb])), (fb, .inl (cY 0, 256, .inl (m_nf bp)))] := hD
  refine lv_goto (tgt := 15) hx hb dL_takeRoot_9 (by decide) ?_
  refine lv_iconst (v := nI 0) hx hb dL_takeRoot_15 (by decide) ?_
  subst hQ
  exact m_iret C0 hS dL_takeRoot_16 (u := ()) hP (rfl)
set_option maxHeartbeats 4000000 in
set_option maxRecDepth 100000 in
theorem c_L_takeRoot_x1 (l : Launch) (hfl : l.stackTraces = false) (D : va_G) (cY : Nat → ClassId) (eS : Nat → Nat) (eO : Nat) (nx fd tb pr ad rd wd h sk : Nat) (x : Int32) (ot : Nat) (ov : Nat → Int64) (hn : ¬ m_isR x) : m_Me l yL_takeRoot wsL_takeRoot 8 137 1 6 D cY eS eO [.ref nx, .int x, .ref ot] [(ot, .inl (cY 2, 1, .inr (.inl ov))), (nx, .inr (6, [.ref fd, .ref tb, .ref pr, .ref ad, .ref rd, .ref wd, .ref h, .int (nI sk)]))] (fun (res : Int32) (u : Unit) => res = nI 1) (fun (u : Unit) => [(ot, .inl (cY 2, 1, .inr (.inl ov))), (nx, .inr (6, [.ref fd, .ref tb, .ref pr, .ref ad, .ref rd, .ref wd, .ref h, .int (nI sk)]))]) := by
  refine m_enterEW (cc := cL_takeRoot) (maxL := 4) (ret := (some .int)) (by decide +kernel) rfl (Nat.le_of_ble_eq_true rfl) ?_
  intro p e s m below meth c A ls C0 htb hE hP hD hl
  obtain ⟨hx, hb, hr, hml, hts, hown, hlocks, hK, hA⟩ := id C0
  obtain ⟨hz1, hz2, ⟨hcIO, hcIA, hcIS⟩, hdcl, ⟨hs0, hs1, hs2, hs3, hs4, hs5, hs6, hs7⟩, ⟨hn1, hn2⟩, ⟨hl0, hl1, hl2, hl3, hl4⟩, hzO, htO⟩ := id hE
  generalize hQ : MQ below _ _ s 1 6 A = Q
  have hS : va_S A s.heap s.heap [] := va_S.rf
  have hl : lv_has ls 4 [(0, .ref nx), (1, .int x), (2, .ref ot)] := hl
  have hwd0 := hts (.classLink RL 13 e_IO) (by decide +kernel)
  refine lv_aload_n hx hb dL_takeRoot_0 rfl (lv_at hl 2 rfl) ?_
  refine lv_iconst (v := nI 0) hx hb dL_takeRoot_1 (by decide) ?_
  refine lv_aload_n hx hb dL_takeRoot_2 rfl (lv_at hl 0 rfl) ?_
  refine lv_iload_n hx hb dL_takeRoot_3 rfl (lv_at hl 1 rfl) ?_
  refine m_callVc (As := [.int x]) (rest := [.int (nI 0), .ref ot]) C0 htb hE hl hP hD hS (c_X6_takeRoot_x1 l hfl D cY eS eO nx fd tb pr ad rd wd h sk x (by first | assumption | omega | exact nm_lt _ _ | exact np_lt _ _ | decide)) (cwV 1 hts gL_takeRoot_X6_takeRoot rfl rfl rfl (by decide +kernel) ⟨Nat.le_of_ble_eq_true rfl, Nat.le_of_ble_eq_true rfl⟩) dL_takeRoot_4 [1] rfl rfl 1 rfl rfl rfl rfl (Nat.le_of_ble_eq_true rfl) (Nat.le_of_ble_eq_true rfl) (Nat.le_of_ble_eq_true rfl) (fun _ => rfl) (tableOf []) ⟨0, 9, 12, 13⟩ (tableOf []) rfl (fun z hz => by cases hz) (by decide) (by decide) hwd0 hcIO (fun q9 u H1 locs hP hD hS => ?_)
  have hP : va_P D vwCl [(ot, .inl (cY 2, 1, .inr (.inl ov))), (nx, .inr (6, [.ref fd, .ref tb, .ref pr, .ref ad, .ref rd, .ref wd, .ref h, .int (nI sk)]))] H1 := hP
  have hD : va_D A [(ot, .inl (cY 2, 1, .inr (.inl ov))), (nx, .inr (6, [.ref fd, .ref tb, .ref pr, .ref ad, .ref rd, .ref wd, .ref h, .int (nI sk)]))] := hD
  refine lv_astore_n (lv' := [(3, .ref q9), (0, .ref nx), (1, .int x), (2, .ref ot)]) hx hb dL_takeRoot_12 rfl hl (by decide) rfl (fun ls hl => ?_)
  refine lv_iconst (v := nI 1) hx hb dL_takeRoot_13 (by decide) ?_
  subst hQ
  exact m_iretC C0 hS dL_takeRoot_14 (u := ()) hP (rfl)
set_option maxHeartbeats 4000000 in
set_option maxRecDepth 100000 in
theorem c_L_multiply_ok (l : Launch) (D : va_G) (cY : Nat → ClassId) (nx fd tb pr ad rd wd h sk : Nat) (ab cnt : Nat) (f : Nat → Nat) (kp z s0 s1 s2 s3 b0 b1 b2 b3 t0 t1 t2 t3 : Nat) (g0 g1 g2 g3 : Nat → Nat) (fb : Nat) (bp : Nat → Nat) (k j : Nat) (ot : Nat) (ov : Nat → Int64) (hf8 : m_z 8 f) (hf16 : ∀ j, f j < 65536) (hg0 : m_z 8 g0) (hg1 : m_z 8 g1) (hg2 : m_z 8 g2) (hg3 : m_z 8 g3) (hz4 : z ≤ 4) (hB : n_bp bp) (hk : k < 8) (hj : j < 8) : m_Mi l yL_multiply wsL_multiply 5 110 D cY [.ref nx, .int (nI k), .int (nI j), .ref ot] [(ot, .inl (cY 2, 1, .inr (.inl ov))), (nx, .inr (6, [.ref fd, .ref tb, .ref pr, .ref ad, .ref rd, .ref wd, .ref h, .int (nI sk)])), (ad, .inr (4, [.ref ab, .int (nI cnt)])), (ab, .inl (cY 0, 8, .inl (m_nf f))), (h, .inr (0, [.ref kp, .int (nI z)])), (kp, .inl (cY 3, 4, .inr (.inr (.inr (.inr (m_k4 s0 s1 s2 s3)))))), (s0, .inr (4, [.ref b0, .int (nI t0)])), (b0, .inl (cY 0, 8, .inl (m_nf g0))), (s1, .inr (4, [.ref b1, .int (nI t1)])), (b1, .inl (cY 0, 8, .inl (m_nf g1))), (s2, .inr (4, [.ref b2, .int (nI t2)])), (b2, .inl (cY 0, 8, .inl (m_nf g2))), (s3, .inr (4, [.ref b3, .int (nI t3)])), (b3, .inl (cY 0, 8, .inl (m_nf g3))), (fd, .inr (2, [.ref fb])), (fb, .inl (cY 0, 256, .inl (m_nf bp)))] (fun (res : Int32) (u : Unit) => res = nI 0) (fun (u : Unit) => [(ot, .inl (cY 2, 1, .inr (.inl (vp_updL ov 0 (Int32.toInt64 (nI (nm (f k) (f j)))))))), (nx, .inr (6, [.ref fd, .ref tb, .ref pr, .ref ad, .ref rd, .ref wd, .ref h, .int (nI sk)])), (ad, .inr (4, [.ref ab, .int (nI (cnt + 1))])), (ab, .inl (cY 0, 8, .inl (m_nf (m_up f k (nm (f k) (f j)))))), (h, .inr (0, [.ref kp, .int (nI (min (z + 1) 4))])), (kp, .inl (cY 3, 4, .inr (.inr (.inr (.inr (m_k4 s0 s1 s2 s3)))))), (s0, .inr (4, [.ref b0, .int (nI cnt)])), (b0, .inl (cY 0, 8, .inl (m_nf f))), (s1, .inr (4, [.ref b1, .int (nI t0)])), (b1, .inl (cY 0, 8, .inl (m_nf g0))), (s2, .inr (4, [.ref b2, .int (nI t1)])), (b2, .inl (cY 0, 8, .inl (m_nf g1))), (s3, .inr (4, [.ref b3, .int (nI t2)])), (b3, .inl (cY 0, 8, .inl (m_nf g2))), (fd, .inr (2, [.ref fb])), (fb, .inl (cY 0, 256, .inl (m_nf bp)))]) := by
  refine m_enterIW (cc := cL_multiply) (maxL := 5) (ret := (some .int)) (by decide +kernel) rfl (Nat.le_of_ble_eq_true rfl) ?_
  intro p e s m below meth c A ls C0 hP hD hl
  obtain ⟨hx, hb, hr, hml, hts, hown, hlocks, hK, hA⟩ := id C0
  generalize hQ : MQ below _ _ s 0 0 A = Q
  have hS : va_S A s.heap s.heap [] := va_S.rf
  have hl : lv_has ls 5 [(0, .ref nx), (1, .int (nI k)), (2, .int (nI j)), (3, .ref ot)] := hl
  refine lv_aload_n hx hb dL_multiply_0 rfl (lv_at hl 3 rfl) ?_
  refine lv_iconst (v := nI 0) hx hb dL_multiply_1 (by decide) ?_
  refine lv_aload_n hx hb dL_multiply_2 rfl (lv_at hl 0 rfl) ?_
  refine lv_iload_n hx hb dL_multiply_3 rfl (lv_at hl 1 rfl) ?_
  refine lv_iload_n hx hb dL_multiply_4 rfl (lv_at hl 2 rfl) ?_
  refine m_callVi (As := [.int (nI k), .int (nI j)]) (rest := [.int (nI 0), .ref ot]) C0 hl hP hD hS (c_X6_multiply l D cY nx fd tb pr ad rd wd h sk ab cnt f kp z s0 s1 s2 s3 b0 b1 b2 b3 t0 t1 t2 t3 g0 g1 g2 g3 fb bp k j (by first | assumption | omega | exact nm_lt _ _ | exact np_lt _ _ | decide) (by first | assumption | omega | exact nm_lt _ _ | exact np_lt _ _ | decide) (by first | assumption | omega | exact nm_lt _ _ | exact np_lt _ _ | decide) (by first | assumption | omega | exact nm_lt _ _ | exact np_lt _ _ | decide) (by first | assumption | omega | exact nm_lt _ _ | exact np_lt _ _ | decide) (by first | assumption | omega | exact nm_lt _ _ | exact np_lt _ _ | decide) (by first | assumption | omega | exact nm_lt _ _ | exact np_lt _ _ | decide) (by first | assumption | omega | exact nm_lt _ _ | exact np_lt _ _ | decide) (by first | assumption | omega | exact nm_lt _ _ | exact np_lt _ _ | decide) (by first | assumption | omega | exact nm_lt _ _ | exact np_lt _ _ | decide)) (cwV 2 hts gL_multiply_X6_multiply rfl rfl rfl (by decide +kernel) ⟨Nat.le_of_ble_eq_true rfl, Nat.le_of_ble_eq_true rfl⟩) dL_multiply_5 [1, 2, 3, 4, 5, 6, 7, 8, 9, 10, 11, 12, 13, 14, 15] rfl rfl 1 rfl rfl rfl rfl (Nat.le_of_ble_eq_true rfl) (Nat.zero_le _) (Nat.zero_le _) (fun _ => rfl) (fun r2 u H1 locs hw hP hD hS => ?_)
  try dsimp only at hw
  obtain rfl := hw
  have hP : va_P D vwCl [(ot, .inl (cY 2, 1, .inr (.inl ov))), (nx, .inr (6, [.ref fd, .ref tb, .ref pr, .ref ad, .ref rd, .ref wd, .ref h, .int (nI sk)])), (ad, .inr (4, [.ref ab, .int (nI (cnt + 1))])), (ab, .inl (cY 0, 8, .inl (m_nf (m_up f k (nm (f k) (f j)))))), (h, .inr (0, [.ref kp, .int (nI (min (z + 1) 4))])), (kp, .inl (cY 3, 4, .inr (.inr (.inr (.inr (m_k4 s0 s1 s2 s3)))))), (s0, .inr (4, [.ref b0, .int (nI cnt)])), (b0, .inl (cY 0, 8, .inl (m_nf f))), (s1, .inr (4, [.ref b1, .int (nI t0)])), (b1, .inl (cY 0, 8, .inl (m_nf g0))), (s2, .inr (4, [.ref b2, .int (nI t1)])), (b2, .inl (cY 0, 8, .inl (m_nf g1))), (s3, .inr (4, [.ref b3, .int (nI t2)])), (b3, .inl (cY 0, 8, .inl (m_nf g2))), (fd, .inr (2, [.ref fb])), (fb, .inl (cY 0, 256, .inl (m_nf bp)))] H1 := hP
  have hD : va_D A [(ot, .inl (cY 2, 1, .inr (.inl ov))), (nx, .inr (6, [.ref fd, .ref tb, .ref pr, .ref ad, .ref rd, .ref wd, .ref h, .int (nI sk)])), (ad, .inr (4, [.ref ab, .int (nI (cnt + 1))])), (ab, .inl (cY 0, 8, .inl (m_nf (m_up f k (nm (f k) (f j)))))), (h, .inr (0, [.ref kp, .int (nI (min (z + 1) 4))])), (kp, .inl (cY 3, 4, .inr (.inr (.inr (.inr (m_k4 s0 s1 s2 s3)))))), (s0, .inr (4, [.ref b0, .int (nI cnt)])), (b0, .inl (cY 0, 8, .inl (m_nf f))), (s1, .inr (4, [.ref b1, .int (nI t0)])), (b1, .inl (cY 0, 8, .inl (m_nf g0))), (s2, .inr (4, [.ref b2, .int (nI t1)])), (b2, .inl (cY 0, 8, .inl (m_nf g1))), (s3, .inr (4, [.ref b3, .int (nI t2)])), (b3, .inl (cY 0, 8, .inl (m_nf g2))), (fd, .inr (2, [.ref fb])), (fb, .inl (cY 0, 256, .inl (m_nf bp)))] := hD
  refine lv_i2l (v := Int32.toInt64 (nI (nm (f k) (f j)))) hx hb dL_multiply_8 rfl ?_
  refine va_last hx hb hK hP hD hS 0 2 rfl rfl (m_in (n := 0) (by first | assumption | omega) (by decide)) dL_multiply_9 (fun H3 locs hP hD hS => ?_)
  have hP : va_P D vwCl [(ot, .inl (cY 2, 1, .inr (.inl (vp_updL ov 0 (Int32.toInt64 (nI (nm (f k) (f j)))))))), (nx, .inr (6, [.ref fd, .ref tb, .ref pr, .ref ad, .ref rd, .ref wd, .ref h, .int (nI sk)])), (ad, .inr (4, [.ref ab, .int (nI (cnt + 1))])), (ab, .inl (cY 0, 8, .inl (m_nf (m_up f k (nm (f k) (f j)))))), (h, .inr (0, [.ref kp, .int (nI (min (z + 1) 4))])), (kp, .inl (cY 3, 4, .inr (.inr (.inr (.inr (m_k4 s0 s1 s2 s3)))))), (s0, .inr (4, [.ref b0, .int (nI cnt)])), (b0, .inl (cY 0, 8, .inl (m_nf f))), (s1, .inr (4, [.ref b1, .int (nI t0)])), (b1, .inl (cY 0, 8, .inl (m_nf g0))), (s2, .inr (4, [.ref b2, .int (nI t1)])), (b2, .inl (cY 0, 8, .inl (m_nf g1))), (s3, .inr (4, [.ref b3, .int (nI t2)])), (b3, .inl (cY 0, 8, .inl (m_nf g2))), (fd, .inr (2, [.ref fb])), (fb, .inl (cY 0, 256, .inl (m_nf bp)))] H3 := hP
  have hD : va_D A [(ot, .inl (cY 2, 1, .inr (.inl (vp_updL ov 0 (Int32.toInt64 (nI (nm (f k) (f j)))))))), (nx, .inr (6, [.ref fd, .ref tb, .ref pr, .ref ad, .ref rd, .ref wd, .ref h, .int (nI sk)])), (ad, .inr (4, [.ref ab, .int (nI (cnt + 1))])), (ab, .inl (cY 0, 8, .inl (m_nf (m_up f k (nm (f k) (f j)))))), (h, .inr (0, [.ref kp, .int (nI (min (z + 1) 4))])), (kp, .inl (cY 3, 4, .inr (.inr (.inr (.inr (m_k4 s0 s1 s2 s3)))))), (s0, .inr (4, [.ref b0, .int (nI cnt)])), (b0, .inl (cY 0, 8, .inl (m_nf f))), (s1, .inr (4, [.ref b1, .int (nI t0)])), (b1, .inl (cY 0, 8, .inl (m_nf g0))), (s2, .inr (4, [.ref b2, .int (nI t1)])), (b2, .inl (cY 0, 8, .inl (m_nf g1))), (s3, .inr (4, [.ref b3, .int (nI t2)])), (b3, .inl (cY 0, 8, .inl (m_nf g2))), (fd, .inr (2, [.ref fb])), (fb, .inl (cY 0, 256, .inl (m_nf bp)))] := hD
  refine lv_goto (tgt := 17) hx hb dL_multiply_10 (by decide) ?_
  refine lv_iconst (v := nI 0) hx hb dL_multiply_17 (by decide) ?_
  subst hQ
  exact m_iret C0 hS dL_multiply_18 (u := ()) hP (rfl)
set_option maxHeartbeats 4000000 in
set_option maxRecDepth 100000 in
theorem c_L_multiply_x1 (l : Launch) (hfl : l.stackTraces = false) (D : va_G) (cY : Nat → ClassId) (eS : Nat → Nat) (eO : Nat) (nx fd tb pr ad rd wd h sk : Nat) (x y : Int32) (ot : Nat) (ov : Nat → Int64) (hn : ¬ (m_isR x ∧ m_isR y)) : m_Me l yL_multiply wsL_multiply 8 139 1 6 D cY eS eO [.ref nx, .int x, .int y, .ref ot] [(ot, .inl (cY 2, 1, .inr (.inl ov))), (nx, .inr (6, [.ref fd, .ref tb, .ref pr, .ref ad, .ref rd, .ref wd, .ref h, .int (nI sk)]))] (fun (res : Int32) (u : Unit) => res = nI 1) (fun (u : Unit) => [(ot, .inl (cY 2, 1, .inr (.inl ov))), (nx, .inr (6, [.ref fd, .ref tb, .ref pr, .ref ad, .ref rd, .ref wd, .ref h, .int (nI sk)]))]) := by
  refine m_enterEW (cc := cL_multiply) (maxL := 5) (ret := (some .int)) (by decide +kernel) rfl (Nat.le_of_ble_eq_true rfl) ?_
  intro p e s m below meth c A ls C0 htb hE hP hD hl
  obtain ⟨hx, hb, hr, hml, hts, hown, hlocks, hK, hA⟩ := id C0
  obtain ⟨hz1, hz2, ⟨hcIO, hcIA, hcIS⟩, hdcl, ⟨hs0, hs1, hs2, hs3, hs4, hs5, hs6, hs7⟩, ⟨hn1, hn2⟩, ⟨hl0, hl1, hl2, hl3, hl4⟩, hzO, htO⟩ := id hE
  generalize hQ : MQ below _ _ s 1 6 A = Q
  have hS : va_S A s.heap s.heap [] := va_S.rf
  have hl : lv_has ls 5 [(0, .ref nx), (1, .int x), (2, .int y), (3, .ref ot)] := hl
  have hwd0 := hts (.classLink RL 13 e_IO) (by decide +kernel)
  refine lv_aload_n hx hb dL_multiply_0 rfl (lv_at hl 3 rfl) ?_
  refine lv_iconst (v := nI 0) hx hb dL_multiply_1 (by decide) ?_
  refine lv_aload_n hx hb dL_multiply_2 rfl (lv_at hl 0 rfl) ?_
  refine lv_iload_n hx hb dL_multiply_3 rfl (lv_at hl 1 rfl) ?_
  refine lv_iload_n hx hb dL_multiply_4 rfl (lv_at hl 2 rfl) ?_
  refine m_callVc (As := [.int x, .int y]) (rest := [.int (nI 0), .ref ot]) C0 htb hE hl hP hD hS (c_X6_multiply_x1 l hfl D cY eS eO nx fd tb pr ad rd wd h sk x y (by first | assumption | omega | exact nm_lt _ _ | exact np_lt _ _ | decide)) (cwV 2 hts gL_multiply_X6_multiply rfl rfl rfl (by decide +kernel) ⟨Nat.le_of_ble_eq_true rfl, Nat.le_of_ble_eq_true rfl⟩) dL_multiply_5 [1] rfl rfl 1 rfl rfl rfl rfl (Nat.le_of_ble_eq_true rfl) (Nat.le_of_ble_eq_true rfl) (Nat.le_of_ble_eq_true rfl) (fun _ => rfl) (tableOf []) ⟨0, 10, 13, 13⟩ (tableOf []) rfl (fun z hz => by cases hz) (by decide) (by decide) hwd0 hcIO (fun q9 u H1 locs hP hD hS => ?_)
  have hP : va_P D vwCl [(ot, .inl (cY 2, 1, .inr (.inl ov))), (nx, .inr (6, [.ref fd, .ref tb, .ref pr, .ref ad, .ref rd, .ref wd, .ref h, .int (nI sk)]))] H1 := hP
  have hD : va_D A [(ot, .inl (cY 2, 1, .inr (.inl ov))), (nx, .inr (6, [.ref fd, .ref tb, .ref pr, .ref ad, .ref rd, .ref wd, .ref h, .int (nI sk)]))] := hD
  refine lv_astore (lv' := [(4, .ref q9), (0, .ref nx), (1, .int x), (2, .int y), (3, .ref ot)]) hx hb dL_multiply_13 hl (by decide) rfl (fun ls hl => ?_)
  refine lv_iconst (v := nI 1) hx hb dL_multiply_15 (by decide) ?_
  subst hQ
  exact m_iretC C0 hS dL_multiply_16 (u := ()) hP (rfl)
set_option maxHeartbeats 4000000 in
set_option maxRecDepth 100000 in
theorem c_L_exchange_x1 (l : Launch) (hfl : l.stackTraces = false) (D : va_G) (cY : Nat → ClassId) (eS : Nat → Nat) (eO : Nat) (nx fd tb pr ad rd wd h sk : Nat) (x y : Int32) (ot : Nat) (ov : Nat → Int64) (hn : ¬ (m_isR x ∧ m_isR y)) : m_Me l yL_exchange wsL_exchange 8 140 1 6 D cY eS eO [.ref nx, .int x, .int y, .ref ot] [(ot, .inl (cY 2, 1, .inr (.inl ov))), (nx, .inr (6, [.ref fd, .ref tb, .ref pr, .ref ad, .ref rd, .ref wd, .ref h, .int (nI sk)]))] (fun (res : Int32) (u : Unit) => res = nI 1) (fun (u : Unit) => [(ot, .inl (cY 2, 1, .inr (.inl ov))), (nx, .inr (6, [.ref fd, .ref tb, .ref pr, .ref ad, .ref rd, .ref wd, .ref h, .int (nI sk)]))]) := by
  refine m_enterEW (cc := cL_exchange) (maxL := 5) (ret := (some .int)) (by decide +kernel) rfl (Nat.le_of_ble_eq_true rfl) ?_
  intro p e s m below meth c A ls C0 htb hE hP hD hl
  obtain ⟨hx, hb, hr, hml, hts, hown, hlocks, hK, hA⟩ := id C0
  obtain ⟨hz1, hz2, ⟨hcIO, hcIA, hcIS⟩, hdcl, ⟨hs0, hs1, hs2, hs3, hs4, hs5, hs6, hs7⟩, ⟨hn1, hn2⟩, ⟨hl0, hl1, hl2, hl3, hl4⟩, hzO, htO⟩ := id hE
  generalize hQ : MQ below _ _ s 1 6 A = Q
  have hS : va_S A s.heap s.heap [] := va_S.rf
  have hl : lv_has ls 5 [(0, .ref nx), (1, .int x), (2, .int y), (3, .ref ot)] := hl
  have hwd0 := hts (.classLink RL 13 e_IO) (by decide +kernel)
  refine lv_aload_n hx hb dL_exchange_0 rfl (lv_at hl 3 rfl) ?_
  refine lv_iconst (v := nI 0) hx hb dL_exchange_1 (by decide) ?_
  refine lv_aload_n hx hb dL_exchange_2 rfl (lv_at hl 0 rfl) ?_
  refine lv_iload_n hx hb dL_exchange_3 rfl (lv_at hl 1 rfl) ?_
  refine lv_iload_n hx hb dL_exchange_4 rfl (lv_at hl 2 rfl) ?_
  refine m_callVc (As := [.int x, .int y]) (rest := [.int (nI 0), .ref ot]) C0 htb hE hl hP hD hS (c_X6_exchange_x1 l hfl D cY eS eO nx fd tb pr ad rd wd h sk x y (by first | assumption | omega | exact nm_lt _ _ | exact np_lt _ _ | decide)) (cwV 2 hts gL_exchange_X6_exchange rfl rfl rfl (by decide +kernel) ⟨Nat.le_of_ble_eq_true rfl, Nat.le_of_ble_eq_true rfl⟩) dL_exchange_5 [1] rfl rfl 1 rfl rfl rfl rfl (Nat.le_of_ble_eq_true rfl) (Nat.le_of_ble_eq_true rfl) (Nat.le_of_ble_eq_true rfl) (fun _ => rfl) (tableOf []) ⟨0, 10, 13, 13⟩ (tableOf []) rfl (fun z hz => by cases hz) (by decide) (by decide) hwd0 hcIO (fun q9 u H1 locs hP hD hS => ?_)
  have hP : va_P D vwCl [(ot, .inl (cY 2, 1, .inr (.inl ov))), (nx, .inr (6, [.ref fd, .ref tb, .ref pr, .ref ad, .ref rd, .ref wd, .ref h, .int (nI sk)]))] H1 := hP
  have hD : va_D A [(ot, .inl (cY 2, 1, .inr (.inl ov))), (nx, .inr (6, [.ref fd, .ref tb, .ref pr, .ref ad, .ref rd, .ref wd, .ref h, .int (nI sk)]))] := hD
  refine lv_astore (lv' := [(4, .ref q9), (0, .ref nx), (1, .int x), (2, .int y), (3, .ref ot)]) hx hb dL_exchange_13 hl (by decide) rfl (fun ls hl => ?_)
  refine lv_iconst (v := nI 1) hx hb dL_exchange_15 (by decide) ?_
  subst hQ
  exact m_iretC C0 hS dL_exchange_16 (u := ()) hP (rfl)
set_option maxHeartbeats 4000000 in
set_option maxRecDepth 100000 in
theorem c_L_exchange_ok (l : Launch) (D : va_G) (cY : Nat → ClassId) (nx fd tb pr ad rd wd h sk : Nat) (ab cnt : Nat) (f : Nat → Nat) (kp z s0 s1 s2 s3 b0 b1 b2 b3 t0 t1 t2 t3 : Nat) (g0 g1 g2 g3 : Nat → Nat) (k j : Nat) (ot : Nat) (ov : Nat → Int64) (hf8 : m_z 8 f) (hf16 : ∀ j, f j < 65536) (hg0 : m_z 8 g0) (hg1 : m_z 8 g1) (hg2 : m_z 8 g2) (hg3 : m_z 8 g3) (hz4 : z ≤ 4) (hk : k < 8) (hj : j < 8) : m_Mi l yL_exchange wsL_exchange 4 89 D cY [.ref nx, .int (nI k), .int (nI j), .ref ot] [(ot, .inl (cY 2, 1, .inr (.inl ov))), (nx, .inr (6, [.ref fd, .ref tb, .ref pr, .ref ad, .ref rd, .ref wd, .ref h, .int (nI sk)])), (ad, .inr (4, [.ref ab, .int (nI cnt)])), (ab, .inl (cY 0, 8, .inl (m_nf f))), (h, .inr (0, [.ref kp, .int (nI z)])), (kp, .inl (cY 3, 4, .inr (.inr (.inr (.inr (m_k4 s0 s1 s2 s3)))))), (s0, .inr (4, [.ref b0, .int (nI t0)])), (b0, .inl (cY 0, 8, .inl (m_nf g0))), (s1, .inr (4, [.ref b1, .int (nI t1)])), (b1, .inl (cY 0, 8, .inl (m_nf g1))), (s2, .inr (4, [.ref b2, .int (nI t2)])), (b2, .inl (cY 0, 8, .inl (m_nf g2))), (s3, .inr (4, [.ref b3, .int (nI t3)])), (b3, .inl (cY 0, 8, .inl (m_nf g3)))] (fun (res : Int32) (u : Unit) => res = nI 0) (fun (u : Unit) => [(ot, .inl (cY 2, 1, .inr (.inl (vp_updL ov 0 (Int32.toInt64 (nI (f j))))))), (nx, .inr (6, [.ref fd, .ref tb, .ref pr, .ref ad, .ref rd, .ref wd, .ref h, .int (nI sk)])), (ad, .inr (4, [.ref ab, .int (nI cnt)])), (ab, .inl (cY 0, 8, .inl (m_nf (m_up (m_up f k (f j)) j (f k))))), (h, .inr (0, [.ref kp, .int (nI (min (z + 1) 4))])), (kp, .inl (cY 3, 4, .inr (.inr (.inr (.inr (m_k4 s0 s1 s2 s3)))))), (s0, .inr (4, [.ref b0, .int (nI cnt)])), (b0, .inl (cY 0, 8, .inl (m_nf f))), (s1, .inr (4, [.ref b1, .int (nI t0)])), (b1, .inl (cY 0, 8, .inl (m_nf g0))), (s2, .inr (4, [.ref b2, .int (nI t1)])), (b2, .inl (cY 0, 8, .inl (m_nf g1))), (s3, .inr (4, [.ref b3, .int (nI t2)])), (b3, .inl (cY 0, 8, .inl (m_nf g2)))]) := by
  refine m_enterIW (cc := cL_exchange) (maxL := 5) (ret := (some .int)) (by decide +kernel) rfl (Nat.le_of_ble_eq_true rfl) ?_
  intro p e s m below meth c A ls C0 hP hD hl
  obtain ⟨hx, hb, hr, hml, hts, hown, hlocks, hK, hA⟩ := id C0
  generalize hQ : MQ below _ _ s 0 0 A = Q
  have hS : va_S A s.heap s.heap [] := va_S.rf
  have hl : lv_has ls 5 [(0, .ref nx), (1, .int (nI k)), (2, .int (nI j)), (3, .ref ot)] := hl
  refine lv_aload_n hx hb dL_exchange_0 rfl (lv_at hl 3 rfl) ?_
  refine lv_iconst (v := nI 0) hx hb dL_exchange_1 (by decide) ?_
  refine lv_aload_n hx hb dL_exchange_2 rfl (lv_at hl 0 rfl) ?_
  refine lv_iload_n hx hb dL_exchange_3 rfl (lv_at hl 1 rfl) ?_
  refine lv_iload_n hx hb dL_exchange_4 rfl (lv_at hl 2 rfl) ?_
  refine m_callVi (As := [.int (nI k), .int (nI j)]) (rest := [.int (nI 0), .ref ot]) C0 hl hP hD hS (c_X6_exchange l D cY nx fd tb pr ad rd wd h sk ab cnt f kp z s0 s1 s2 s3 b0 b1 b2 b3 t0 t1 t2 t3 g0 g1 g2 g3 k j (by first | assumption | omega | exact nm_lt _ _ | exact np_lt _ _ | decide) (by first | assumption | omega | exact nm_lt _ _ | exact np_lt _ _ | decide) (by first | assumption | omega | exact nm_lt _ _ | exact np_lt _ _ | decide) (by first | assumption | omega | exact nm_lt _ _ | exact np_lt _ _ | decide) (by first | assumption | omega | exact nm_lt _ _ | exact np_lt _ _ | decide) (by first | assumption | omega | exact nm_lt _ _ | exact np_lt _ _ | decide) (by first | assumption | omega | exact nm_lt _ _ | exact np_lt _ _ | decide) (by first | assumption | omega | exact nm_lt _ _ | exact np_lt _ _ | decide) (by first | assumption | omega | exact nm_lt _ _ | exact np_lt _ _ | decide)) (cwV 2 hts gL_exchange_X6_exchange rfl rfl rfl (by decide +kernel) ⟨Nat.le_of_ble_eq_true rfl, Nat.le_of_ble_eq_true rfl⟩) dL_exchange_5 [1, 2, 3, 4, 5, 6, 7, 8, 9, 10, 11, 12, 13] rfl rfl 1 rfl rfl rfl rfl (Nat.le_of_ble_eq_true rfl) (Nat.zero_le _) (Nat.zero_le _) (fun _ => rfl) (fun r2 u H1 locs hw hP hD hS => ?_)
  try dsimp only at hw
  obtain rfl := hw
  have hP : va_P D vwCl [(ot, .inl (cY 2, 1, .inr (.inl ov))), (nx, .inr (6, [.ref fd, .ref tb, .ref pr, .ref ad, .ref rd, .ref wd, .ref h, .int (nI sk)])), (ad, .inr (4, [.ref ab, .int (nI cnt)])), (ab, .inl (cY 0, 8, .inl (m_nf (m_up (m_up f k (f j)) j (f k))))), (h, .inr (0, [.ref kp, .int (nI (min (z + 1) 4))])), (kp, .inl (cY 3, 4, .inr (.inr (.inr (.inr (m_k4 s0 s1 s2 s3)))))), (s0, .inr (4, [.ref b0, .int (nI cnt)])), (b0, .inl (cY 0, 8, .inl (m_nf f))), (s1, .inr (4, [.ref b1, .int (nI t0)])), (b1, .inl (cY 0, 8, .inl (m_nf g0))), (s2, .inr (4, [.ref b2, .int (nI t1)])), (b2, .inl (cY 0, 8, .inl (m_nf g1))), (s3, .inr (4, [.ref b3, .int (nI t2)])), (b3, .inl (cY 0, 8, .inl (m_nf g2)))] H1 := hP
  have hD : va_D A [(ot, .inl (cY 2, 1, .inr (.inl ov))), (nx, .inr (6, [.ref fd, .ref tb, .ref pr, .ref ad, .ref rd, .ref wd, .ref h, .int (nI sk)])), (ad, .inr (4, [.ref ab, .int (nI cnt)])), (ab, .inl (cY 0, 8, .inl (m_nf (m_up (m_up f k (f j)) j (f k))))), (h, .inr (0, [.ref kp, .int (nI (min (z + 1) 4))])), (kp, .inl (cY 3, 4, .inr (.inr (.inr (.inr (m_k4 s0 s1 s2 s3)))))), (s0, .inr (4, [.ref b0, .int (nI cnt)])), (b0, .inl (cY 0, 8, .inl (m_nf f))), (s1, .inr (4, [.ref b1, .int (nI t0)])), (b1, .inl (cY 0, 8, .inl (m_nf g0))), (s2, .inr (4, [.ref b2, .int (nI t1)])), (b2, .inl (cY 0, 8, .inl (m_nf g1))), (s3, .inr (4, [.ref b3, .int (nI t2)])), (b3, .inl (cY 0, 8, .inl (m_nf g2)))] := hD
  refine lv_i2l (v := Int32.toInt64 (nI (f j))) hx hb dL_exchange_8 rfl ?_
  refine va_last hx hb hK hP hD hS 0 2 rfl rfl (m_in (n := 0) (by first | assumption | omega) (by decide)) dL_exchange_9 (fun H3 locs hP hD hS => ?_)
  have hP : va_P D vwCl [(ot, .inl (cY 2, 1, .inr (.inl (vp_updL ov 0 (Int32.toInt64 (nI (f j))))))), (nx, .inr (6, [.ref fd, .ref tb, .ref pr, .ref ad, .ref rd, .ref wd, .ref h, .int (nI sk)])), (ad, .inr (4, [.ref ab, .int (nI cnt)])), (ab, .inl (cY 0, 8, .inl (m_nf (m_up (m_up f k (f j)) j (f k))))), (h, .inr (0, [.ref kp, .int (nI (min (z + 1) 4))])), (kp, .inl (cY 3, 4, .inr (.inr (.inr (.inr (m_k4 s0 s1 s2 s3)))))), (s0, .inr (4, [.ref b0, .int (nI cnt)])), (b0, .inl (cY 0, 8, .inl (m_nf f))), (s1, .inr (4, [.ref b1, .int (nI t0)])), (b1, .inl (cY 0, 8, .inl (m_nf g0))), (s2, .inr (4, [.ref b2, .int (nI t1)])), (b2, .inl (cY 0, 8, .inl (m_nf g1))), (s3, .inr (4, [.ref b3, .int (nI t2)])), (b3, .inl (cY 0, 8, .inl (m_nf g2)))] H3 := hP
  have hD : va_D A [(ot, .inl (cY 2, 1, .inr (.inl (vp_updL ov 0 (Int32.toInt64 (nI (f j))))))), (nx, .inr (6, [.ref fd, .ref tb, .ref pr, .ref ad, .ref rd, .ref wd, .ref h, .int (nI sk)])), (ad, .inr (4, [.ref ab, .int (nI cnt)])), (ab, .inl (cY 0, 8, .inl (m_nf (m_up (m_up f k (f j)) j (f k))))), (h, .inr (0, [.ref kp, .int (nI (min (z + 1) 4))])), (kp, .inl (cY 3, 4, .inr (.inr (.inr (.inr (m_k4 s0 s1 s2 s3)))))), (s0, .inr (4, [.ref b0, .int (nI cnt)])), (b0, .inl (cY 0, 8, .inl (m_nf f))), (s1, .inr (4, [.ref b1, .int (nI t0)])), (b1, .inl (cY 0, 8, .inl (m_nf g0))), (s2, .inr (4, [.ref b2, .int (nI t1)])), (b2, .inl (cY 0, 8, .inl (m_nf g1))), (s3, .inr (4, [.ref b3, .int (nI t2)])), (b3, .inl (cY 0, 8, .inl (m_nf g2)))] := hD
  refine lv_goto (tgt := 17) hx hb dL_exchange_10 (by decide) ?_
  refine lv_iconst (v := nI 0) hx hb dL_exchange_17 (by decide) ?_
  subst hQ
  exact m_iret C0 hS dL_exchange_18 (u := ()) hP (rfl)
set_option maxHeartbeats 4000000 in
set_option maxRecDepth 100000 in
theorem c_L_type_ok (l : Launch) (D : va_G) (cY : Nat → ClassId) (nx fd tb pr ad rd wd h sk : Nat) (tp sp len sc cur : Nat) (tx : Nat → Nat) (ch : Nat) (ot : Nat) (ov : Nat → Int64) (hlen : len ≤ 60) (htx : ∀ j, tx j < 65536) (hch : ch < 65536) (hl : len < 60) : m_Mi l yL_type wsL_type 2 42 D cY [.ref nx, .int (nI ch), .ref ot] [(ot, .inl (cY 2, 1, .inr (.inl ov))), (nx, .inr (6, [.ref fd, .ref tb, .ref pr, .ref ad, .ref rd, .ref wd, .ref h, .int (nI sk)])), (pr, .inr (3, [.ref tp, .ref sp, .int (nI len), .int (nI sc), .int (nI cur)])), (tp, .inl (cY 1, 60, .inl (m_nf tx)))] (fun (res : Int32) (u : Unit) => res = nI 0) (fun (u : Unit) => [(ot, .inl (cY 2, 1, .inr (.inl (vp_updL ov 0 (Int32.toInt64 (nI (len + 1))))))), (nx, .inr (6, [.ref fd, .ref tb, .ref pr, .ref ad, .ref rd, .ref wd, .ref h, .int (nI sk)])), (pr, .inr (3, [.ref tp, .ref sp, .int (nI (len + 1)), .int (nI sc), .int (nI cur)])), (tp, .inl (cY 1, 60, .inl (m_nf (m_up tx len ch))))]) := by
  refine m_enterIW (cc := cL_type) (maxL := 4) (ret := (some .int)) (by decide +kernel) rfl (Nat.le_of_ble_eq_true rfl) ?_
  intro p e s m below meth c A ls C0 hP hD hl
  obtain ⟨hx, hb, hr, hml, hts, hown, hlocks, hK, hA⟩ := id C0
  generalize hQ : MQ below _ _ s 0 0 A = Q
  have hS : va_S A s.heap s.heap [] := va_S.rf
  have hl : lv_has ls 4 [(0, .ref nx), (1, .int (nI ch)), (2, .ref ot)] := hl
  refine lv_aload_n hx hb dL_type_0 rfl (lv_at hl 2 rfl) ?_
  refine lv_iconst (v := nI 0) hx hb dL_type_1 (by decide) ?_
  refine lv_aload_n hx hb dL_type_2 rfl (lv_at hl 0 rfl) ?_
  refine lv_iload_n hx hb dL_type_3 rfl (lv_at hl 1 rfl) ?_
  refine m_callVi (As := [.int (nI ch)]) (rest := [.int (nI 0), .ref ot]) C0 hl hP hD hS (c_X6_type l D cY nx fd tb pr ad rd wd h sk tp sp len sc cur tx ch (by first | assumption | omega | exact nm_lt _ _ | exact np_lt _ _ | decide) (by first | assumption | omega | exact nm_lt _ _ | exact np_lt _ _ | decide) (by first | assumption | omega | exact nm_lt _ _ | exact np_lt _ _ | decide) (by first | assumption | omega | exact nm_lt _ _ | exact np_lt _ _ | decide)) (cwV 1 hts gL_type_X6_type rfl rfl rfl (by decide +kernel) ⟨Nat.le_of_ble_eq_true rfl, Nat.le_of_ble_eq_true rfl⟩) dL_type_4 [1, 2, 3] rfl rfl 1 rfl rfl rfl rfl (Nat.le_of_ble_eq_true rfl) (Nat.zero_le _) (Nat.zero_le _) (fun _ => rfl) (fun r2 u H1 locs hw hP hD hS => ?_)
  try dsimp only at hw
  obtain rfl := hw
  have hP : va_P D vwCl [(ot, .inl (cY 2, 1, .inr (.inl ov))), (nx, .inr (6, [.ref fd, .ref tb, .ref pr, .ref ad, .ref rd, .ref wd, .ref h, .int (nI sk)])), (pr, .inr (3, [.ref tp, .ref sp, .int (nI (len + 1)), .int (nI sc), .int (nI cur)])), (tp, .inl (cY 1, 60, .inl (m_nf (m_up tx len ch))))] H1 := hP
  have hD : va_D A [(ot, .inl (cY 2, 1, .inr (.inl ov))), (nx, .inr (6, [.ref fd, .ref tb, .ref pr, .ref ad, .ref rd, .ref wd, .ref h, .int (nI sk)])), (pr, .inr (3, [.ref tp, .ref sp, .int (nI (len + 1)), .int (nI sc), .int (nI cur)])), (tp, .inl (cY 1, 60, .inl (m_nf (m_up tx len ch))))] := hD
  refine lv_i2l (v := Int32.toInt64 (nI (len + 1))) hx hb dL_type_7 rfl ?_
  refine va_last hx hb hK hP hD hS 0 2 rfl rfl (m_in (n := 0) (by first | assumption | omega) (by decide)) dL_type_8 (fun H3 locs hP hD hS => ?_)
  have hP : va_P D vwCl [(ot, .inl (cY 2, 1, .inr (.inl (vp_updL ov 0 (Int32.toInt64 (nI (len + 1))))))), (nx, .inr (6, [.ref fd, .ref tb, .ref pr, .ref ad, .ref rd, .ref wd, .ref h, .int (nI sk)])), (pr, .inr (3, [.ref tp, .ref sp, .int (nI (len + 1)), .int (nI sc), .int (nI cur)])), (tp, .inl (cY 1, 60, .inl (m_nf (m_up tx len ch))))] H3 := hP
  have hD : va_D A [(ot, .inl (cY 2, 1, .inr (.inl (vp_updL ov 0 (Int32.toInt64 (nI (len + 1))))))), (nx, .inr (6, [.ref fd, .ref tb, .ref pr, .ref ad, .ref rd, .ref wd, .ref h, .int (nI sk)])), (pr, .inr (3, [.ref tp, .ref sp, .int (nI (len + 1)), .int (nI sc), .int (nI cur)])), (tp, .inl (cY 1, 60, .inl (m_nf (m_up tx len ch))))] := hD
  refine lv_goto (tgt := 15) hx hb dL_type_9 (by decide) ?_
  refine lv_iconst (v := nI 0) hx hb dL_type_15 (by decide) ?_
  subst hQ
  exact m_iret C0 hS dL_type_16 (u := ()) hP (rfl)
set_option maxHeartbeats 4000000 in
set_option maxRecDepth 100000 in
theorem c_L_type_x1 (l : Launch) (hfl : l.stackTraces = false) (D : va_G) (cY : Nat → ClassId) (eS : Nat → Nat) (eO : Nat) (nx fd tb pr ad rd wd h sk : Nat) (tp sp len sc cur : Nat) (tx : Nat → Nat) (ch : Nat) (ot : Nat) (ov : Nat → Int64) (hlen : len ≤ 60) (htx : ∀ j, tx j < 65536) (hch : ch < 65536) (hl : len = 60) : m_Me l yL_type wsL_type 7 117 1 6 D cY eS eO [.ref nx, .int (nI ch), .ref ot] [(ot, .inl (cY 2, 1, .inr (.inl ov))), (nx, .inr (6, [.ref fd, .ref tb, .ref pr, .ref ad, .ref rd, .ref wd, .ref h, .int (nI sk)])), (pr, .inr (3, [.ref tp, .ref sp, .int (nI len), .int (nI sc), .int (nI cur)])), (tp, .inl (cY 1, 60, .inl (m_nf tx)))] (fun (res : Int32) (u : Unit) => res = nI 1) (fun (u : Unit) => [(ot, .inl (cY 2, 1, .inr (.inl ov))), (nx, .inr (6, [.ref fd, .ref tb, .ref pr, .ref ad, .ref rd, .ref wd, .ref h, .int (nI sk)])), (pr, .inr (3, [.ref tp, .ref sp, .int (nI len), .int (nI sc), .int (nI cur)])), (tp, .inl (cY 1, 60, .inl (m_nf tx)))]) := by
  refine m_enterEW (cc := cL_type) (maxL := 4) (ret := (some .int)) (by decide +kernel) rfl (Nat.le_of_ble_eq_true rfl) ?_
  intro p e s m below meth c A ls C0 htb hE hP hD hl
  obtain ⟨hx, hb, hr, hml, hts, hown, hlocks, hK, hA⟩ := id C0
  obtain ⟨hz1, hz2, ⟨hcIO, hcIA, hcIS⟩, hdcl, ⟨hs0, hs1, hs2, hs3, hs4, hs5, hs6, hs7⟩, ⟨hn1, hn2⟩, ⟨hl0, hl1, hl2, hl3, hl4⟩, hzO, htO⟩ := id hE
  generalize hQ : MQ below _ _ s 1 6 A = Q
  have hS : va_S A s.heap s.heap [] := va_S.rf
  have hl : lv_has ls 4 [(0, .ref nx), (1, .int (nI ch)), (2, .ref ot)] := hl
  have hwd0 := hts (.classLink RL 21 e_IS) (by decide +kernel)
  refine lv_aload_n hx hb dL_type_0 rfl (lv_at hl 2 rfl) ?_
  refine lv_iconst (v := nI 0) hx hb dL_type_1 (by decide) ?_
  refine lv_aload_n hx hb dL_type_2 rfl (lv_at hl 0 rfl) ?_
  refine lv_iload_n hx hb dL_type_3 rfl (lv_at hl 1 rfl) ?_
  refine m_callVc (As := [.int (nI ch)]) (rest := [.int (nI 0), .ref ot]) C0 htb hE hl hP hD hS (c_X6_type_x1 l hfl D cY eS eO nx fd tb pr ad rd wd h sk tp sp len sc cur tx ch (by first | assumption | omega | exact nm_lt _ _ | exact np_lt _ _ | decide) (by first | assumption | omega | exact nm_lt _ _ | exact np_lt _ _ | decide) (by first | assumption | omega | exact nm_lt _ _ | exact np_lt _ _ | decide) (by first | assumption | omega | exact nm_lt _ _ | exact np_lt _ _ | decide)) (cwV 1 hts gL_type_X6_type rfl rfl rfl (by decide +kernel) ⟨Nat.le_of_ble_eq_true rfl, Nat.le_of_ble_eq_true rfl⟩) dL_type_4 [1, 2, 3] rfl rfl 1 rfl rfl rfl rfl (Nat.le_of_ble_eq_true rfl) (Nat.le_of_ble_eq_true rfl) (Nat.le_of_ble_eq_true rfl) (fun _ => rfl) (tableOf []) ⟨0, 9, 12, 21⟩ (tableOf []) rfl (fun z hz => by cases hz) (by decide) (by decide) hwd0 hcIS (fun q9 u H1 locs hP hD hS => ?_)
  have hP : va_P D vwCl [(ot, .inl (cY 2, 1, .inr (.inl ov))), (nx, .inr (6, [.ref fd, .ref tb, .ref pr, .ref ad, .ref rd, .ref wd, .ref h, .int (nI sk)])), (pr, .inr (3, [.ref tp, .ref sp, .int (nI len), .int (nI sc), .int (nI cur)])), (tp, .inl (cY 1, 60, .inl (m_nf tx)))] H1 := hP
  have hD : va_D A [(ot, .inl (cY 2, 1, .inr (.inl ov))), (nx, .inr (6, [.ref fd, .ref tb, .ref pr, .ref ad, .ref rd, .ref wd, .ref h, .int (nI sk)])), (pr, .inr (3, [.ref tp, .ref sp, .int (nI len), .int (nI sc), .int (nI cur)])), (tp, .inl (cY 1, 60, .inl (m_nf tx)))] := hD
  refine lv_astore_n (lv' := [(3, .ref q9), (0, .ref nx), (1, .int (nI ch)), (2, .ref ot)]) hx hb dL_type_12 rfl hl (by decide) rfl (fun ls hl => ?_)
  refine lv_iconst (v := nI 1) hx hb dL_type_13 (by decide) ?_
  subst hQ
  exact m_iretC C0 hS dL_type_14 (u := ()) hP (rfl)
set_option maxHeartbeats 4000000 in
set_option maxRecDepth 100000 in
theorem c_L_trappedStep_x1 (l : Launch) (hfl : l.stackTraces = false) (D : va_G) (cY : Nat → ClassId) (eS : Nat → Nat) (eO : Nat) (nx fd tb pr ad rd wd h sk : Nat) (tp sp len sc cur : Nat) (tx : Nat → Nat) (sa : Nat → Nat) (pt pg pf pe : Nat → Int32) (w : Nat) (ot : Nat) (ov : Nat → Int64) (hlen : len ≤ 60) (htx : ∀ j, tx j < 65536) (hv : p_prog tx len 15 0 = .inl w) : m_Me l yL_trappedStep wsL_trappedStep 8 147 1 6 D cY eS eO [.ref nx, .ref ot] ([(ot, .inl (cY 2, 1, .inr (.inl ov))), (nx, .inr (6, [.ref fd, .ref tb, .ref pr, .ref ad, .ref rd, .ref wd, .ref h, .int (nI sk)])), (pr, .inr (3, [.ref tp, .ref sp, .int (nI len), .int (nI sc), .int (nI cur)])), (tp, .inl (cY 1, 60, .inl (m_nf tx))), (sp, .inl (cY 4, 15, .inr (.inr (.inr (.inr (m_sa sa))))))] ++ m_pool sa pt pg pf pe) (fun (res : Int32) (u : Nat × Nat × (Nat → Int32) × (Nat → Int32) × (Nat → Int32) × (Nat → Int32)) => res = nI 1) (fun (u : Nat × Nat × (Nat → Int32) × (Nat → Int32) × (Nat → Int32) × (Nat → Int32)) => ([(ot, .inl (cY 2, 1, .inr (.inl ov))), (nx, .inr (6, [.ref fd, .ref tb, .ref pr, .ref ad, .ref rd, .ref wd, .ref h, .int (nI sk)])), (pr, .inr (3, [.ref tp, .ref sp, .int (nI len), .int (nI u.1), .int (nI u.2.1)])), (tp, .inl (cY 1, 60, .inl (m_nf tx))), (sp, .inl (cY 4, 15, .inr (.inr (.inr (.inr (m_sa sa))))))] ++ m_pool sa u.2.2.1 u.2.2.2.1 u.2.2.2.2.1 u.2.2.2.2.2)) := by
  refine m_enterEW (cc := cL_trappedStep) (maxL := 3) (ret := (some .int)) (by decide +kernel) rfl (Nat.le_of_ble_eq_true rfl) ?_
  intro p e s m below meth c A ls C0 htb hE hP hD hl
  obtain ⟨hx, hb, hr, hml, hts, hown, hlocks, hK, hA⟩ := id C0
  obtain ⟨hz1, hz2, ⟨hcIO, hcIA, hcIS⟩, hdcl, ⟨hs0, hs1, hs2, hs3, hs4, hs5, hs6, hs7⟩, ⟨hn1, hn2⟩, ⟨hl0, hl1, hl2, hl3, hl4⟩, hzO, htO⟩ := id hE
  generalize hQ : MQ below _ _ s 1 6 A = Q
  have hS : va_S A s.heap s.heap [] := va_S.rf
  have hl : lv_has ls 3 [(0, .ref nx), (1, .ref ot)] := hl
  have hwd0 := hts (.classLink RL 21 e_IS) (by decide +kernel)
  refine lv_aload_n hx hb dL_trappedStep_0 rfl (lv_at hl 1 rfl) ?_
  refine lv_iconst (v := nI 0) hx hb dL_trappedStep_1 (by decide) ?_
  refine lv_aload_n hx hb dL_trappedStep_2 rfl (lv_at hl 0 rfl) ?_
  refine m_callPc (As := []) (rest := [.int (nI 0), .ref ot]) C0 htb hE hl hP hD hS (c_X6_trappedStep_x1 l hfl D cY eS eO nx fd tb pr ad rd wd h sk tp sp len sc cur tx sa pt pg pf pe w (by first | assumption | omega | exact nm_lt _ _ | exact np_lt _ _ | decide) (by first | assumption | omega | exact nm_lt _ _ | exact np_lt _ _ | decide) (by first | assumption | omega | exact nm_lt _ _ | exact np_lt _ _ | decide)) (cwV 0 hts gL_trappedStep_X6_trappedStep rfl rfl rfl (by decide +kernel) ⟨Nat.le_of_ble_eq_true rfl, Nat.le_of_ble_eq_true rfl⟩) dL_trappedStep_3 [1, 2, 3, 4] rfl rfl 1 rfl rfl rfl rfl (Nat.le_of_ble_eq_true rfl) (Nat.le_of_ble_eq_true rfl) (Nat.le_of_ble_eq_true rfl) (fun _ => rfl) (fun _ => m_pool_fst) (tableOf []) ⟨0, 8, 11, 21⟩ (tableOf []) rfl (fun z hz => by cases hz) (by decide) (by decide) hwd0 hcIS (fun q9 u H1 locs hP hD hS => ?_)
  obtain ⟨sc9_2, cur9_3, pt9_4, pg9_5, pf9_6, pe9_7⟩ := u
  have hP : va_P D vwCl ([(ot, .inl (cY 2, 1, .inr (.inl ov))), (nx, .inr (6, [.ref fd, .ref tb, .ref pr, .ref ad, .ref rd, .ref wd, .ref h, .int (nI sk)])), (pr, .inr (3, [.ref tp, .ref sp, .int (nI len), .int (nI sc9_2), .int (nI cur9_3)])), (tp, .inl (cY 1, 60, .inl (m_nf tx))), (sp, .inl (cY 4, 15, .inr (.inr (.inr (.inr (m_sa sa))))))] ++ m_pool sa pt9_4 pg9_5 pf9_6 pe9_7) H1 := hP
  have hD : va_D A ([(ot, .inl (cY 2, 1, .inr (.inl ov))), (nx, .inr (6, [.ref fd, .ref tb, .ref pr, .ref ad, .ref rd, .ref wd, .ref h, .int (nI sk)])), (pr, .inr (3, [.ref tp, .ref sp, .int (nI len), .int (nI sc9_2), .int (nI cur9_3)])), (tp, .inl (cY 1, 60, .inl (m_nf tx))), (sp, .inl (cY 4, 15, .inr (.inr (.inr (.inr (m_sa sa))))))] ++ m_pool sa pt9_4 pg9_5 pf9_6 pe9_7) := hD
  refine lv_astore_n (lv' := [(2, .ref q9), (0, .ref nx), (1, .ref ot)]) hx hb dL_trappedStep_11 rfl hl (by decide) rfl (fun ls hl => ?_)
  refine lv_iconst (v := nI 1) hx hb dL_trappedStep_12 (by decide) ?_
  subst hQ
  exact m_iretC C0 hS dL_trappedStep_13 (u := (sc9_2, cur9_3, pt9_4, pg9_5, pf9_6, pe9_7)) hP (rfl)
set_option maxHeartbeats 4000000 in
set_option maxRecDepth 100000 in
theorem c_L_trappedStep_ok (l : Launch) (D : va_G) (cY : Nat → ClassId) (nx fd tb pr ad rd wd h sk : Nat) (tp sp len sc cur : Nat) (tx : Nat → Nat) (sa : Nat → Nat) (pt pg pf pe : Nat → Int32) (ab cnt : Nat) (f : Nat → Nat) (rb rc : Nat) (rf : Nat → Nat) (fb : Nat) (bp : Nat → Nat) (ps : List p_St) (ot : Nat) (ov : Nat → Int64) (hlen : len ≤ 60) (htx : ∀ j, tx j < 65536) (hv : p_prog tx len 15 0 = .inr ps) (hf8 : m_z 8 f) (hf16 : ∀ j, f j < 65536) (hrf8 : m_z 8 rf) (hB : n_bp bp) : m_Mi l yL_trappedStep wsL_trappedStep 7 159 D cY [.ref nx, .ref ot] ([(ot, .inl (cY 2, 1, .inr (.inl ov))), (nx, .inr (6, [.ref fd, .ref tb, .ref pr, .ref ad, .ref rd, .ref wd, .ref h, .int (nI sk)])), (pr, .inr (3, [.ref tp, .ref sp, .int (nI len), .int (nI sc), .int (nI cur)])), (tp, .inl (cY 1, 60, .inl (m_nf tx))), (sp, .inl (cY 4, 15, .inr (.inr (.inr (.inr (m_sa sa)))))), (ad, .inr (4, [.ref ab, .int (nI cnt)])), (ab, .inl (cY 0, 8, .inl (m_nf f))), (rd, .inr (4, [.ref rb, .int (nI rc)])), (rb, .inl (cY 0, 8, .inl (m_nf rf))), (fd, .inr (2, [.ref fb])), (fb, .inl (cY 0, 256, .inl (m_nf bp)))] ++ m_pool sa pt pg pf pe) (fun (res : Int32) (u : Nat × Nat × (Nat → Int32) × (Nat → Int32) × (Nat → Int32) × (Nat → Int32) × (Nat → Nat) × Nat) => (res = nI 0) ∧ (m_z 8 u.2.2.2.2.2.2.1)) (fun (u : Nat × Nat × (Nat → Int32) × (Nat → Int32) × (Nat → Int32) × (Nat → Int32) × (Nat → Nat) × Nat) => ([(ot, .inl (cY 2, 1, .inr (.inl (vp_updL ov 0 (Int32.toInt64 ((p_run ps 0 f cnt).1)))))), (nx, .inr (6, [.ref fd, .ref tb, .ref pr, .ref ad, .ref rd, .ref wd, .ref h, .int (nI sk)])), (pr, .inr (3, [.ref tp, .ref sp, .int (nI len), .int (nI u.1), .int (nI u.2.1)])), (tp, .inl (cY 1, 60, .inl (m_nf tx))), (sp, .inl (cY 4, 15, .inr (.inr (.inr (.inr (m_sa sa)))))), (ad, .inr (4, [.ref ab, .int (nI cnt)])), (ab, .inl (cY 0, 8, .inl (m_nf f))), (rd, .inr (4, [.ref rb, .int (nI u.2.2.2.2.2.2.2)])), (rb, .inl (cY 0, 8, .inl (m_nf u.2.2.2.2.2.2.1))), (fd, .inr (2, [.ref fb])), (fb, .inl (cY 0, 256, .inl (m_nf bp)))] ++ m_pool sa u.2.2.1 u.2.2.2.1 u.2.2.2.2.1 u.2.2.2.2.2.1)) := by
  refine m_enterIW (cc := cL_trappedStep) (maxL := 3) (ret := (some .int)) (by decide +kernel) rfl (Nat.le_of_ble_eq_true rfl) ?_
  intro p e s m below meth c A ls C0 hP hD hl
  obtain ⟨hx, hb, hr, hml, hts, hown, hlocks, hK, hA⟩ := id C0
  generalize hQ : MQ below _ _ s 0 0 A = Q
  have hS : va_S A s.heap s.heap [] := va_S.rf
  have hl : lv_has ls 3 [(0, .ref nx), (1, .ref ot)] := hl
  refine lv_aload_n hx hb dL_trappedStep_0 rfl (lv_at hl 1 rfl) ?_
  refine lv_iconst (v := nI 0) hx hb dL_trappedStep_1 (by decide) ?_
  refine lv_aload_n hx hb dL_trappedStep_2 rfl (lv_at hl 0 rfl) ?_
  refine m_callPi (As := []) (rest := [.int (nI 0), .ref ot]) C0 hl hP hD hS (c_X6_trappedStep l D cY nx fd tb pr ad rd wd h sk tp sp len sc cur tx sa pt pg pf pe ab cnt f rb rc rf fb bp ps (by first | assumption | omega | exact nm_lt _ _ | exact np_lt _ _ | decide) (by first | assumption | omega | exact nm_lt _ _ | exact np_lt _ _ | decide) (by first | assumption | omega | exact nm_lt _ _ | exact np_lt _ _ | decide) (by first | assumption | omega | exact nm_lt _ _ | exact np_lt _ _ | decide) (by first | assumption | omega | exact nm_lt _ _ | exact np_lt _ _ | decide) (by first | assumption | omega | exact nm_lt _ _ | exact np_lt _ _ | decide) (by first | assumption | omega | exact nm_lt _ _ | exact np_lt _ _ | decide)) (cwV 0 hts gL_trappedStep_X6_trappedStep rfl rfl rfl (by decide +kernel) ⟨Nat.le_of_ble_eq_true rfl, Nat.le_of_ble_eq_true rfl⟩) dL_trappedStep_3 [1, 2, 3, 4, 5, 6, 7, 8, 9, 10] rfl rfl 1 rfl rfl rfl rfl (Nat.le_of_ble_eq_true rfl) (Nat.zero_le _) (Nat.zero_le _) (fun _ => rfl) (fun _ => m_pool_fst) (fun r10 u H1 locs hw hP hD hS => ?_)
  obtain ⟨sc9_2, cur9_3, pt9_4, pg9_5, pf9_6, pe9_7, rf9_8, rc9_9⟩ := u
  try dsimp only at hw
  obtain ⟨rfl, hq11⟩ := hw
  have hP : va_P D vwCl ([(ot, .inl (cY 2, 1, .inr (.inl ov))), (nx, .inr (6, [.ref fd, .ref tb, .ref pr, .ref ad, .ref rd, .ref wd, .ref h, .int (nI sk)])), (pr, .inr (3, [.ref tp, .ref sp, .int (nI len), .int (nI sc9_2), .int (nI cur9_3)])), (tp, .inl (cY 1, 60, .inl (m_nf tx))), (sp, .inl (cY 4, 15, .inr (.inr (.inr (.inr (m_sa sa)))))), (ad, .inr (4, [.ref ab, .int (nI cnt)])), (ab, .inl (cY 0, 8, .inl (m_nf f))), (rd, .inr (4, [.ref rb, .int (nI rc9_9)])), (rb, .inl (cY 0, 8, .inl (m_nf rf9_8))), (fd, .inr (2, [.ref fb])), (fb, .inl (cY 0, 256, .inl (m_nf bp)))] ++ m_pool sa pt9_4 pg9_5 pf9_6 pe9_7) H1 := hP
  have hD : va_D A ([(ot, .inl (cY 2, 1, .inr (.inl ov))), (nx, .inr (6, [.ref fd, .ref tb, .ref pr, .ref ad, .ref rd, .ref wd, .ref h, .int (nI sk)])), (pr, .inr (3, [.ref tp, .ref sp, .int (nI len), .int (nI sc9_2), .int (nI cur9_3)])), (tp, .inl (cY 1, 60, .inl (m_nf tx))), (sp, .inl (cY 4, 15, .inr (.inr (.inr (.inr (m_sa sa)))))), (ad, .inr (4, [.ref ab, .int (nI cnt)])), (ab, .inl (cY 0, 8, .inl (m_nf f))), (rd, .inr (4, [.ref rb, .int (nI rc9_9)])), (rb, .inl (cY 0, 8, .inl (m_nf rf9_8))), (fd, .inr (2, [.ref fb])), (fb, .inl (cY 0, 256, .inl (m_nf bp)))] ++ m_pool sa pt9_4 pg9_5 pf9_6 pe9_7) := hD
  refine lv_i2l (v := Int32.toInt64 ((p_run ps 0 f cnt).1)) hx hb dL_trappedStep_6 rfl ?_
  refine va_last hx hb hK hP hD hS 0 2 rfl rfl (m_in (n := 0) (by first | assumption | omega) (by decide)) dL_trappedStep_7 (fun H12 locs hP hD hS => ?_)
  have hP : va_P D vwCl ([(ot, .inl (cY 2, 1, .inr (.inl (vp_updL ov 0 (Int32.toInt64 ((p_run ps 0 f cnt).1)))))), (nx, .inr (6, [.ref fd, .ref tb, .ref pr, .ref ad, .ref rd, .ref wd, .ref h, .int (nI sk)])), (pr, .inr (3, [.ref tp, .ref sp, .int (nI len), .int (nI sc9_2), .int (nI cur9_3)])), (tp, .inl (cY 1, 60, .inl (m_nf tx))), (sp, .inl (cY 4, 15, .inr (.inr (.inr (.inr (m_sa sa)))))), (ad, .inr (4, [.ref ab, .int (nI cnt)])), (ab, .inl (cY 0, 8, .inl (m_nf f))), (rd, .inr (4, [.ref rb, .int (nI rc9_9)])), (rb, .inl (cY 0, 8, .inl (m_nf rf9_8))), (fd, .inr (2, [.ref fb])), (fb, .inl (cY 0, 256, .inl (m_nf bp)))] ++ m_pool sa pt9_4 pg9_5 pf9_6 pe9_7) H12 := hP
  have hD : va_D A ([(ot, .inl (cY 2, 1, .inr (.inl (vp_updL ov 0 (Int32.toInt64 ((p_run ps 0 f cnt).1)))))), (nx, .inr (6, [.ref fd, .ref tb, .ref pr, .ref ad, .ref rd, .ref wd, .ref h, .int (nI sk)])), (pr, .inr (3, [.ref tp, .ref sp, .int (nI len), .int (nI sc9_2), .int (nI cur9_3)])), (tp, .inl (cY 1, 60, .inl (m_nf tx))), (sp, .inl (cY 4, 15, .inr (.inr (.inr (.inr (m_sa sa)))))), (ad, .inr (4, [.ref ab, .int (nI cnt)])), (ab, .inl (cY 0, 8, .inl (m_nf f))), (rd, .inr (4, [.ref rb, .int (nI rc9_9)])), (rb, .inl (cY 0, 8, .inl (m_nf rf9_8))), (fd, .inr (2, [.ref fb])), (fb, .inl (cY 0, 256, .inl (m_nf bp)))] ++ m_pool sa pt9_4 pg9_5 pf9_6 pe9_7) := hD
  refine lv_goto (tgt := 14) hx hb dL_trappedStep_8 (by decide) ?_
  refine lv_iconst (v := nI 0) hx hb dL_trappedStep_14 (by decide) ?_
  subst hQ
  exact m_iret C0 hS dL_trappedStep_15 (u := (sc9_2, cur9_3, pt9_4, pg9_5, pf9_6, pe9_7, rf9_8, rc9_9)) hP (⟨rfl, hq11⟩)
set_option maxHeartbeats 4000000 in
set_option maxRecDepth 100000 in
theorem c_L_carryOut_x1 (l : Launch) (hfl : l.stackTraces = false) (D : va_G) (cY : Nat → ClassId) (eS : Nat → Nat) (eO : Nat) (nx fd tb pr ad rd wd h sk : Nat) (tp sp len sc cur : Nat) (tx : Nat → Nat) (sa : Nat → Nat) (pt pg pf pe : Nat → Int32) (w : Nat) (ot : Nat) (ov : Nat → Int64) (hlen : len ≤ 60) (htx : ∀ j, tx j < 65536) (hv : p_prog tx len 15 0 = .inl w) : m_Me l yL_carryOut wsL_carryOut 8 147 1 6 D cY eS eO [.ref nx, .ref ot] ([(ot, .inl (cY 2, 1, .inr (.inl ov))), (nx, .inr (6, [.ref fd, .ref tb, .ref pr, .ref ad, .ref rd, .ref wd, .ref h, .int (nI sk)])), (pr, .inr (3, [.ref tp, .ref sp, .int (nI len), .int (nI sc), .int (nI cur)])), (tp, .inl (cY 1, 60, .inl (m_nf tx))), (sp, .inl (cY 4, 15, .inr (.inr (.inr (.inr (m_sa sa))))))] ++ m_pool sa pt pg pf pe) (fun (res : Int32) (u : Nat × Nat × (Nat → Int32) × (Nat → Int32) × (Nat → Int32) × (Nat → Int32)) => res = nI 1) (fun (u : Nat × Nat × (Nat → Int32) × (Nat → Int32) × (Nat → Int32) × (Nat → Int32)) => ([(ot, .inl (cY 2, 1, .inr (.inl ov))), (nx, .inr (6, [.ref fd, .ref tb, .ref pr, .ref ad, .ref rd, .ref wd, .ref h, .int (nI sk)])), (pr, .inr (3, [.ref tp, .ref sp, .int (nI len), .int (nI u.1), .int (nI u.2.1)])), (tp, .inl (cY 1, 60, .inl (m_nf tx))), (sp, .inl (cY 4, 15, .inr (.inr (.inr (.inr (m_sa sa))))))] ++ m_pool sa u.2.2.1 u.2.2.2.1 u.2.2.2.2.1 u.2.2.2.2.2)) := by
  refine m_enterEW (cc := cL_carryOut) (maxL := 3) (ret := (some .int)) (by decide +kernel) rfl (Nat.le_of_ble_eq_true rfl) ?_
  intro p e s m below meth c A ls C0 htb hE hP hD hl
  obtain ⟨hx, hb, hr, hml, hts, hown, hlocks, hK, hA⟩ := id C0
  obtain ⟨hz1, hz2, ⟨hcIO, hcIA, hcIS⟩, hdcl, ⟨hs0, hs1, hs2, hs3, hs4, hs5, hs6, hs7⟩, ⟨hn1, hn2⟩, ⟨hl0, hl1, hl2, hl3, hl4⟩, hzO, htO⟩ := id hE
  generalize hQ : MQ below _ _ s 1 6 A = Q
  have hS : va_S A s.heap s.heap [] := va_S.rf
  have hl : lv_has ls 3 [(0, .ref nx), (1, .ref ot)] := hl
  have hwd0 := hts (.classLink RL 21 e_IS) (by decide +kernel)
  refine lv_aload_n hx hb dL_carryOut_0 rfl (lv_at hl 1 rfl) ?_
  refine lv_iconst (v := nI 0) hx hb dL_carryOut_1 (by decide) ?_
  refine lv_aload_n hx hb dL_carryOut_2 rfl (lv_at hl 0 rfl) ?_
  refine m_callPc (As := []) (rest := [.int (nI 0), .ref ot]) C0 htb hE hl hP hD hS (c_X6_carryOut_x1 l hfl D cY eS eO nx fd tb pr ad rd wd h sk tp sp len sc cur tx sa pt pg pf pe w (by first | assumption | omega | exact nm_lt _ _ | exact np_lt _ _ | decide) (by first | assumption | omega | exact nm_lt _ _ | exact np_lt _ _ | decide) (by first | assumption | omega | exact nm_lt _ _ | exact np_lt _ _ | decide)) (cwV 0 hts gL_carryOut_X6_carryOut rfl rfl rfl (by decide +kernel) ⟨Nat.le_of_ble_eq_true rfl, Nat.le_of_ble_eq_true rfl⟩) dL_carryOut_3 [1, 2, 3, 4] rfl rfl 1 rfl rfl rfl rfl (Nat.le_of_ble_eq_true rfl) (Nat.le_of_ble_eq_true rfl) (Nat.le_of_ble_eq_true rfl) (fun _ => rfl) (fun _ => m_pool_fst) (tableOf []) ⟨0, 8, 11, 21⟩ (tableOf []) rfl (fun z hz => by cases hz) (by decide) (by decide) hwd0 hcIS (fun q9 u H1 locs hP hD hS => ?_)
  obtain ⟨sc9_2, cur9_3, pt9_4, pg9_5, pf9_6, pe9_7⟩ := u
  have hP : va_P D vwCl ([(ot, .inl (cY 2, 1, .inr (.inl ov))), (nx, .inr (6, [.ref fd, .ref tb, .ref pr, .ref ad, .ref rd, .ref wd, .ref h, .int (nI sk)])), (pr, .inr (3, [.ref tp, .ref sp, .int (nI len), .int (nI sc9_2), .int (nI cur9_3)])), (tp, .inl (cY 1, 60, .inl (m_nf tx))), (sp, .inl (cY 4, 15, .inr (.inr (.inr (.inr (m_sa sa))))))] ++ m_pool sa pt9_4 pg9_5 pf9_6 pe9_7) H1 := hP
  have hD : va_D A ([(ot, .inl (cY 2, 1, .inr (.inl ov))), (nx, .inr (6, [.ref fd, .ref tb, .ref pr, .ref ad, .ref rd, .ref wd, .ref h, .int (nI sk)])), (pr, .inr (3, [.ref tp, .ref sp, .int (nI len), .int (nI sc9_2), .int (nI cur9_3)])), (tp, .inl (cY 1, 60, .inl (m_nf tx))), (sp, .inl (cY 4, 15, .inr (.inr (.inr (.inr (m_sa sa))))))] ++ m_pool sa pt9_4 pg9_5 pf9_6 pe9_7) := hD
  refine lv_astore_n (lv' := [(2, .ref q9), (0, .ref nx), (1, .ref ot)]) hx hb dL_carryOut_11 rfl hl (by decide) rfl (fun ls hl => ?_)
  refine lv_iconst (v := nI 1) hx hb dL_carryOut_12 (by decide) ?_
  subst hQ
  exact m_iretC C0 hS dL_carryOut_13 (u := (sc9_2, cur9_3, pt9_4, pg9_5, pf9_6, pe9_7)) hP (rfl)
set_option maxHeartbeats 4000000 in
set_option maxRecDepth 100000 in
theorem c_L_carryOut_x2 (l : Launch) (hfl : l.stackTraces = false) (D : va_G) (cY : Nat → ClassId) (eS : Nat → Nat) (eO : Nat) (nx fd tb pr ad rd wd h sk : Nat) (tp sp len sc cur : Nat) (tx : Nat → Nat) (sa : Nat → Nat) (pt pg pf pe : Nat → Int32) (ab cnt : Nat) (f : Nat → Nat) (rb rc : Nat) (rf : Nat → Nat) (fb : Nat) (bp : Nat → Nat) (ps : List p_St) (ot : Nat) (ov : Nat → Int64) (hlen : len ≤ 60) (htx : ∀ j, tx j < 65536) (hv : p_prog tx len 15 0 = .inr ps) (hf8 : m_z 8 f) (hf16 : ∀ j, f j < 65536) (hrf8 : m_z 8 rf) (hB : n_bp bp) (htr : ¬ (p_run ps 0 f cnt).1 = -1) : m_Me l yL_carryOut wsL_carryOut 7 159 1 6 D cY eS eO [.ref nx, .ref ot] ([(ot, .inl (cY 2, 1, .inr (.inl ov))), (nx, .inr (6, [.ref fd, .ref tb, .ref pr, .ref ad, .ref rd, .ref wd, .ref h, .int (nI sk)])), (pr, .inr (3, [.ref tp, .ref sp, .int (nI len), .int (nI sc), .int (nI cur)])), (tp, .inl (cY 1, 60, .inl (m_nf tx))), (sp, .inl (cY 4, 15, .inr (.inr (.inr (.inr (m_sa sa)))))), (ad, .inr (4, [.ref ab, .int (nI cnt)])), (ab, .inl (cY 0, 8, .inl (m_nf f))), (rd, .inr (4, [.ref rb, .int (nI rc)])), (rb, .inl (cY 0, 8, .inl (m_nf rf))), (fd, .inr (2, [.ref fb])), (fb, .inl (cY 0, 256, .inl (m_nf bp)))] ++ m_pool sa pt pg pf pe) (fun (res : Int32) (u : Nat × Nat × (Nat → Int32) × (Nat → Int32) × (Nat → Int32) × (Nat → Int32) × (Nat → Nat) × Nat) => res = nI 1) (fun (u : Nat × Nat × (Nat → Int32) × (Nat → Int32) × (Nat → Int32) × (Nat → Int32) × (Nat → Nat) × Nat) => ([(ot, .inl (cY 2, 1, .inr (.inl ov))), (nx, .inr (6, [.ref fd, .ref tb, .ref pr, .ref ad, .ref rd, .ref wd, .ref h, .int (nI sk)])), (pr, .inr (3, [.ref tp, .ref sp, .int (nI len), .int (nI u.1), .int (nI u.2.1)])), (tp, .inl (cY 1, 60, .inl (m_nf tx))), (sp, .inl (cY 4, 15, .inr (.inr (.inr (.inr (m_sa sa)))))), (ad, .inr (4, [.ref ab, .int (nI cnt)])), (ab, .inl (cY 0, 8, .inl (m_nf f))), (rd, .inr (4, [.ref rb, .int (nI u.2.2.2.2.2.2.2)])), (rb, .inl (cY 0, 8, .inl (m_nf u.2.2.2.2.2.2.1))), (fd, .inr (2, [.ref fb])), (fb, .inl (cY 0, 256, .inl (m_nf bp)))] ++ m_pool sa u.2.2.1 u.2.2.2.1 u.2.2.2.2.1 u.2.2.2.2.2.1)) := by
  refine m_enterEW (cc := cL_carryOut) (maxL := 3) (ret := (some .int)) (by decide +kernel) rfl (Nat.le_of_ble_eq_true rfl) ?_
  intro p e s m below meth c A ls C0 htb hE hP hD hl
  obtain ⟨hx, hb, hr, hml, hts, hown, hlocks, hK, hA⟩ := id C0
  obtain ⟨hz1, hz2, ⟨hcIO, hcIA, hcIS⟩, hdcl, ⟨hs0, hs1, hs2, hs3, hs4, hs5, hs6, hs7⟩, ⟨hn1, hn2⟩, ⟨hl0, hl1, hl2, hl3, hl4⟩, hzO, htO⟩ := id hE
  generalize hQ : MQ below _ _ s 1 6 A = Q
  have hS : va_S A s.heap s.heap [] := va_S.rf
  have hl : lv_has ls 3 [(0, .ref nx), (1, .ref ot)] := hl
  have hwd0 := hts (.classLink RL 21 e_IS) (by decide +kernel)
  refine lv_aload_n hx hb dL_carryOut_0 rfl (lv_at hl 1 rfl) ?_
  refine lv_iconst (v := nI 0) hx hb dL_carryOut_1 (by decide) ?_
  refine lv_aload_n hx hb dL_carryOut_2 rfl (lv_at hl 0 rfl) ?_
  refine m_callPc (As := []) (rest := [.int (nI 0), .ref ot]) C0 htb hE hl hP hD hS (c_X6_carryOut_x2 l hfl D cY eS eO nx fd tb pr ad rd wd h sk tp sp len sc cur tx sa pt pg pf pe ab cnt f rb rc rf fb bp ps (by first | assumption | omega | exact nm_lt _ _ | exact np_lt _ _ | decide) (by first | assumption | omega | exact nm_lt _ _ | exact np_lt _ _ | decide) (by first | assumption | omega | exact nm_lt _ _ | exact np_lt _ _ | decide) (by first | assumption | omega | exact nm_lt _ _ | exact np_lt _ _ | decide) (by first | assumption | omega | exact nm_lt _ _ | exact np_lt _ _ | decide) (by first | assumption | omega | exact nm_lt _ _ | exact np_lt _ _ | decide) (by first | assumption | omega | exact nm_lt _ _ | exact np_lt _ _ | decide) (by first | assumption | omega | exact nm_lt _ _ | exact np_lt _ _ | decide)) (cwV 0 hts gL_carryOut_X6_carryOut rfl rfl rfl (by decide +kernel) ⟨Nat.le_of_ble_eq_true rfl, Nat.le_of_ble_eq_true rfl⟩) dL_carryOut_3 [1, 2, 3, 4, 5, 6, 7, 8, 9, 10] rfl rfl 1 rfl rfl rfl rfl (Nat.le_of_ble_eq_true rfl) (Nat.le_of_ble_eq_true rfl) (Nat.le_of_ble_eq_true rfl) (fun _ => rfl) (fun _ => m_pool_fst) (tableOf []) ⟨0, 8, 11, 21⟩ (tableOf []) rfl (fun z hz => by cases hz) (by decide) (by decide) hwd0 hcIS (fun q9 u H1 locs hP hD hS => ?_)
  obtain ⟨sc9_2, cur9_3, pt9_4, pg9_5, pf9_6, pe9_7, rf9_8, rc9_9⟩ := u
  have hP : va_P D vwCl ([(ot, .inl (cY 2, 1, .inr (.inl ov))), (nx, .inr (6, [.ref fd, .ref tb, .ref pr, .ref ad, .ref rd, .ref wd, .ref h, .int (nI sk)])), (pr, .inr (3, [.ref tp, .ref sp, .int (nI len), .int (nI sc9_2), .int (nI cur9_3)])), (tp, .inl (cY 1, 60, .inl (m_nf tx))), (sp, .inl (cY 4, 15, .inr (.inr (.inr (.inr (m_sa sa)))))), (ad, .inr (4, [.ref ab, .int (nI cnt)])), (ab, .inl (cY 0, 8, .inl (m_nf f))), (rd, .inr (4, [.ref rb, .int (nI rc9_9)])), (rb, .inl (cY 0, 8, .inl (m_nf rf9_8))), (fd, .inr (2, [.ref fb])), (fb, .inl (cY 0, 256, .inl (m_nf bp)))] ++ m_pool sa pt9_4 pg9_5 pf9_6 pe9_7) H1 := hP
  have hD : va_D A ([(ot, .inl (cY 2, 1, .inr (.inl ov))), (nx, .inr (6, [.ref fd, .ref tb, .ref pr, .ref ad, .ref rd, .ref wd, .ref h, .int (nI sk)])), (pr, .inr (3, [.ref tp, .ref sp, .int (nI len), .int (nI sc9_2), .int (nI cur9_3)])), (tp, .inl (cY 1, 60, .inl (m_nf tx))), (sp, .inl (cY 4, 15, .inr (.inr (.inr (.inr (m_sa sa)))))), (ad, .inr (4, [.ref ab, .int (nI cnt)])), (ab, .inl (cY 0, 8, .inl (m_nf f))), (rd, .inr (4, [.ref rb, .int (nI rc9_9)])), (rb, .inl (cY 0, 8, .inl (m_nf rf9_8))), (fd, .inr (2, [.ref fb])), (fb, .inl (cY 0, 256, .inl (m_nf bp)))] ++ m_pool sa pt9_4 pg9_5 pf9_6 pe9_7) := hD
  refine lv_astore_n (lv' := [(2, .ref q9), (0, .ref nx), (1, .ref ot)]) hx hb dL_carryOut_11 rfl hl (by decide) rfl (fun ls hl => ?_)
  refine lv_iconst (v := nI 1) hx hb dL_carryOut_12 (by decide) ?_
  subst hQ
  exact m_iretC C0 hS dL_carryOut_13 (u := (sc9_2, cur9_3, pt9_4, pg9_5, pf9_6, pe9_7, rf9_8, rc9_9)) hP (rfl)
set_option maxHeartbeats 4000000 in
set_option maxRecDepth 100000 in
theorem c_L_undo_x1 (l : Launch) (hfl : l.stackTraces = false) (D : va_G) (cY : Nat → ClassId) (eS : Nat → Nat) (eO : Nat) (nx fd tb pr ad rd wd h sk : Nat) (kp z s0 s1 s2 s3 b0 b1 b2 b3 t0 t1 t2 t3 : Nat) (g0 g1 g2 g3 : Nat → Nat) (ot : Nat) (ov : Nat → Int64) (hz : z = 0) : m_Me l yL_undo wsL_undo 7 116 1 6 D cY eS eO [.ref nx, .ref ot] [(ot, .inl (cY 2, 1, .inr (.inl ov))), (nx, .inr (6, [.ref fd, .ref tb, .ref pr, .ref ad, .ref rd, .ref wd, .ref h, .int (nI sk)])), (h, .inr (0, [.ref kp, .int (nI z)])), (kp, .inl (cY 3, 4, .inr (.inr (.inr (.inr (m_k4 s0 s1 s2 s3)))))), (s0, .inr (4, [.ref b0, .int (nI t0)])), (b0, .inl (cY 0, 8, .inl (m_nf g0))), (s1, .inr (4, [.ref b1, .int (nI t1)])), (b1, .inl (cY 0, 8, .inl (m_nf g1))), (s2, .inr (4, [.ref b2, .int (nI t2)])), (b2, .inl (cY 0, 8, .inl (m_nf g2))), (s3, .inr (4, [.ref b3, .int (nI t3)])), (b3, .inl (cY 0, 8, .inl (m_nf g3)))] (fun (res : Int32) (u : Unit) => res = nI 1) (fun (u : Unit) => [(ot, .inl (cY 2, 1, .inr (.inl ov))), (nx, .inr (6, [.ref fd, .ref tb, .ref pr, .ref ad, .ref rd, .ref wd, .ref h, .int (nI sk)])), (h, .inr (0, [.ref kp, .int (nI z)])), (kp, .inl (cY 3, 4, .inr (.inr (.inr (.inr (m_k4 s0 s1 s2 s3)))))), (s0, .inr (4, [.ref b0, .int (nI t0)])), (b0, .inl (cY 0, 8, .inl (m_nf g0))), (s1, .inr (4, [.ref b1, .int (nI t1)])), (b1, .inl (cY 0, 8, .inl (m_nf g1))), (s2, .inr (4, [.ref b2, .int (nI t2)])), (b2, .inl (cY 0, 8, .inl (m_nf g2))), (s3, .inr (4, [.ref b3, .int (nI t3)])), (b3, .inl (cY 0, 8, .inl (m_nf g3)))]) := by
  refine m_enterEW (cc := cL_undo) (maxL := 3) (ret := (some .int)) (by decide +kernel) rfl (Nat.le_of_ble_eq_true rfl) ?_
  intro p e s m below meth c A ls C0 htb hE hP hD hl
  obtain ⟨hx, hb, hr, hml, hts, hown, hlocks, hK, hA⟩ := id C0
  obtain ⟨hz1, hz2, ⟨hcIO, hcIA, hcIS⟩, hdcl, ⟨hs0, hs1, hs2, hs3, hs4, hs5, hs6, hs7⟩, ⟨hn1, hn2⟩, ⟨hl0, hl1, hl2, hl3, hl4⟩, hzO, htO⟩ := id hE
  generalize hQ : MQ below _ _ s 1 6 A = Q
  have hS : va_S A s.heap s.heap [] := va_S.rf
  have hl : lv_has ls 3 [(0, .ref nx), (1, .ref ot)] := hl
  have hwd0 := hts (.classLink RL 21 e_IS) (by decide +kernel)
  refine lv_aload_n hx hb dL_undo_0 rfl (lv_at hl 1 rfl) ?_
  refine lv_iconst (v := nI 0) hx hb dL_undo_1 (by decide) ?_
  refine lv_aload_n hx hb dL_undo_2 rfl (lv_at hl 0 rfl) ?_
  refine m_callVc (As := []) (rest := [.int (nI 0), .ref ot]) C0 htb hE hl hP hD hS (c_X6_undo_x1 l hfl D cY eS eO nx fd tb pr ad rd wd h sk kp z s0 s1 s2 s3 b0 b1 b2 b3 t0 t1 t2 t3 g0 g1 g2 g3 (by first | assumption | omega | exact nm_lt _ _ | exact np_lt _ _ | decide)) (cwV 0 hts gL_undo_X6_undo rfl rfl rfl (by decide +kernel) ⟨Nat.le_of_ble_eq_true rfl, Nat.le_of_ble_eq_true rfl⟩) dL_undo_3 [1, 2, 3, 4, 5, 6, 7, 8, 9, 10, 11] rfl rfl 1 rfl rfl rfl rfl (Nat.le_of_ble_eq_true rfl) (Nat.le_of_ble_eq_true rfl) (Nat.le_of_ble_eq_true rfl) (fun _ => rfl) (tableOf []) ⟨0, 8, 11, 21⟩ (tableOf []) rfl (fun z hz => by cases hz) (by decide) (by decide) hwd0 hcIS (fun q9 u H1 locs hP hD hS => ?_)
  have hP : va_P D vwCl [(ot, .inl (cY 2, 1, .inr (.inl ov))), (nx, .inr (6, [.ref fd, .ref tb, .ref pr, .ref ad, .ref rd, .ref wd, .ref h, .int (nI sk)])), (h, .inr (0, [.ref kp, .int (nI z)])), (kp, .inl (cY 3, 4, .inr (.inr (.inr (.inr (m_k4 s0 s1 s2 s3)))))), (s0, .inr (4, [.ref b0, .int (nI t0)])), (b0, .inl (cY 0, 8, .inl (m_nf g0))), (s1, .inr (4, [.ref b1, .int (nI t1)])), (b1, .inl (cY 0, 8, .inl (m_nf g1))), (s2, .inr (4, [.ref b2, .int (nI t2)])), (b2, .inl (cY 0, 8, .inl (m_nf g2))), (s3, .inr (4, [.ref b3, .int (nI t3)])), (b3, .inl (cY 0, 8, .inl (m_nf g3)))] H1 := hP
  have hD : va_D A [(ot, .inl (cY 2, 1, .inr (.inl ov))), (nx, .inr (6, [.ref fd, .ref tb, .ref pr, .ref ad, .ref rd, .ref wd, .ref h, .int (nI sk)])), (h, .inr (0, [.ref kp, .int (nI z)])), (kp, .inl (cY 3, 4, .inr (.inr (.inr (.inr (m_k4 s0 s1 s2 s3)))))), (s0, .inr (4, [.ref b0, .int (nI t0)])), (b0, .inl (cY 0, 8, .inl (m_nf g0))), (s1, .inr (4, [.ref b1, .int (nI t1)])), (b1, .inl (cY 0, 8, .inl (m_nf g1))), (s2, .inr (4, [.ref b2, .int (nI t2)])), (b2, .inl (cY 0, 8, .inl (m_nf g2))), (s3, .inr (4, [.ref b3, .int (nI t3)])), (b3, .inl (cY 0, 8, .inl (m_nf g3)))] := hD
  refine lv_astore_n (lv' := [(2, .ref q9), (0, .ref nx), (1, .ref ot)]) hx hb dL_undo_11 rfl hl (by decide) rfl (fun ls hl => ?_)
  refine lv_iconst (v := nI 1) hx hb dL_undo_12 (by decide) ?_
  subst hQ
  exact m_iretC C0 hS dL_undo_13 (u := ()) hP (rfl)
set_option maxHeartbeats 4000000 in
set_option maxRecDepth 100000 in
theorem c_L_undo_ok (l : Launch) (D : va_G) (cY : Nat → ClassId) (nx fd tb pr ad rd wd h sk : Nat) (ab cnt : Nat) (f : Nat → Nat) (kp z s0 s1 s2 s3 b0 b1 b2 b3 t0 t1 t2 t3 : Nat) (g0 g1 g2 g3 : Nat → Nat) (ot : Nat) (ov : Nat → Int64) (hf8 : m_z 8 f) (hf16 : ∀ j, f j < 65536) (hg0 : m_z 8 g0) (hg1 : m_z 8 g1) (hg2 : m_z 8 g2) (hg3 : m_z 8 g3) (hz4 : z ≤ 4) (hz : 0 < z) : m_Mi l yL_undo wsL_undo 4 85 D cY [.ref nx, .ref ot] [(ot, .inl (cY 2, 1, .inr (.inl ov))), (nx, .inr (6, [.ref fd, .ref tb, .ref pr, .ref ad, .ref rd, .ref wd, .ref h, .int (nI sk)])), (ad, .inr (4, [.ref ab, .int (nI cnt)])), (ab, .inl (cY 0, 8, .inl (m_nf f))), (h, .inr (0, [.ref kp, .int (nI z)])), (kp, .inl (cY 3, 4, .inr (.inr (.inr (.inr (m_k4 s0 s1 s2 s3)))))), (s0, .inr (4, [.ref b0, .int (nI t0)])), (b0, .inl (cY 0, 8, .inl (m_nf g0))), (s1, .inr (4, [.ref b1, .int (nI t1)])), (b1, .inl (cY 0, 8, .inl (m_nf g1))), (s2, .inr (4, [.ref b2, .int (nI t2)])), (b2, .inl (cY 0, 8, .inl (m_nf g2))), (s3, .inr (4, [.ref b3, .int (nI t3)])), (b3, .inl (cY 0, 8, .inl (m_nf g3)))] (fun (res : Int32) (u : Unit) => res = nI 0) (fun (u : Unit) => [(ot, .inl (cY 2, 1, .inr (.inl (vp_updL ov 0 (Int32.toInt64 (nI (z - 1))))))), (nx, .inr (6, [.ref fd, .ref tb, .ref pr, .ref ad, .ref rd, .ref wd, .ref h, .int (nI sk)])), (ad, .inr (4, [.ref ab, .int (nI t0)])), (ab, .inl (cY 0, 8, .inl (m_nf g0))), (h, .inr (0, [.ref kp, .int (nI (z - 1))])), (kp, .inl (cY 3, 4, .inr (.inr (.inr (.inr (m_k4 s0 s1 s2 s3)))))), (s0, .inr (4, [.ref b0, .int (nI t1)])), (b0, .inl (cY 0, 8, .inl (m_nf g1))), (s1, .inr (4, [.ref b1, .int (nI t2)])), (b1, .inl (cY 0, 8, .inl (m_nf g2))), (s2, .inr (4, [.ref b2, .int (nI t3)])), (b2, .inl (cY 0, 8, .inl (m_nf g3))), (s3, .inr (4, [.ref b3, .int (nI t3)])), (b3, .inl (cY 0, 8, .inl (m_nf g3)))]) := by
  refine m_enterIW (cc := cL_undo) (maxL := 3) (ret := (some .int)) (by decide +kernel) rfl (Nat.le_of_ble_eq_true rfl) ?_
  intro p e s m below meth c A ls C0 hP hD hl
  obtain ⟨hx, hb, hr, hml, hts, hown, hlocks, hK, hA⟩ := id C0
  generalize hQ : MQ below _ _ s 0 0 A = Q
  have hS : va_S A s.heap s.heap [] := va_S.rf
  have hl : lv_has ls 3 [(0, .ref nx), (1, .ref ot)] := hl
  refine lv_aload_n hx hb dL_undo_0 rfl (lv_at hl 1 rfl) ?_
  refine lv_iconst (v := nI 0) hx hb dL_undo_1 (by decide) ?_
  refine lv_aload_n hx hb dL_undo_2 rfl (lv_at hl 0 rfl) ?_
  refine m_callVi (As := []) (rest := [.int (nI 0), .ref ot]) C0 hl hP hD hS (c_X6_undo l D cY nx fd tb pr ad rd wd h sk ab cnt f kp z s0 s1 s2 s3 b0 b1 b2 b3 t0 t1 t2 t3 g0 g1 g2 g3 (by first | assumption | omega | exact nm_lt _ _ | exact np_lt _ _ | decide) (by first | assumption | omega | exact nm_lt _ _ | exact np_lt _ _ | decide) (by first | assumption | omega | exact nm_lt _ _ | exact np_lt _ _ | decide) (by first | assumption | omega | exact nm_lt _ _ | exact np_lt _ _ | decide) (by first | assumption | omega | exact nm_lt _ _ | exact np_lt _ _ | decide) (by first | assumption | omega | exact nm_lt _ _ | exact np_lt _ _ | decide) (by first | assumption | omega | exact nm_lt _ _ | exact np_lt _ _ | decide) (by first | assumption | omega | exact nm_lt _ _ | exact np_lt _ _ | decide)) (cwV 0 hts gL_undo_X6_undo rfl rfl rfl (by decide +kernel) ⟨Nat.le_of_ble_eq_true rfl, Nat.le_of_ble_eq_true rfl⟩) dL_undo_3 [1, 2, 3, 4, 5, 6, 7, 8, 9, 10, 11, 12, 13] rfl rfl 1 rfl rfl rfl rfl (Nat.le_of_ble_eq_true rfl) (Nat.zero_le _) (Nat.zero_le _) (fun _ => rfl) (fun r2 u H1 locs hw hP hD hS => ?_)
  try dsimp only at hw
  obtain rfl := hw
  have hP : va_P D vwCl [(ot, .inl (cY 2, 1, .inr (.inl ov))), (nx, .inr (6, [.ref fd, .ref tb, .ref pr, .ref ad, .ref rd, .ref wd, .ref h, .int (nI sk)])), (ad, .inr (4, [.ref ab, .int (nI t0)])), (ab, .inl (cY 0, 8, .inl (m_nf g0))), (h, .inr (0, [.ref kp, .int (nI (z - 1))])), (kp, .inl (cY 3, 4, .inr (.inr (.inr (.inr (m_k4 s0 s1 s2 s3)))))), (s0, .inr (4, [.ref b0, .int (nI t1)])), (b0, .inl (cY 0, 8, .inl (m_nf g1))), (s1, .inr (4, [.ref b1, .int (nI t2)])), (b1, .inl (cY 0, 8, .inl (m_nf g2))), (s2, .inr (4, [.ref b2, .int (nI t3)])), (b2, .inl (cY 0, 8, .inl (m_nf g3))), (s3, .inr (4, [.ref b3, .int (nI t3)])), (b3, .inl (cY 0, 8, .inl (m_nf g3)))] H1 := hP
  have hD : va_D A [(ot, .inl (cY 2, 1, .inr (.inl ov))), (nx, .inr (6, [.ref fd, .ref tb, .ref pr, .ref ad, .ref rd, .ref wd, .ref h, .int (nI sk)])), (ad, .inr (4, [.ref ab, .int (nI t0)])), (ab, .inl (cY 0, 8, .inl (m_nf g0))), (h, .inr (0, [.ref kp, .int (nI (z - 1))])), (kp, .inl (cY 3, 4, .inr (.inr (.inr (.inr (m_k4 s0 s1 s2 s3)))))), (s0, .inr (4, [.ref b0, .int (nI t1)])), (b0, .inl (cY 0, 8, .inl (m_nf g1))), (s1, .inr (4, [.ref b1, .int (nI t2)])), (b1, .inl (cY 0, 8, .inl (m_nf g2))), (s2, .inr (4, [.ref b2, .int (nI t3)])), (b2, .inl (cY 0, 8, .inl (m_nf g3))), (s3, .inr (4, [.ref b3, .int (nI t3)])), (b3, .inl (cY 0, 8, .inl (m_nf g3)))] := hD
  refine lv_i2l (v := Int32.toInt64 (nI (z - 1))) hx hb dL_undo_6 rfl ?_
  refine va_last hx hb hK hP hD hS 0 2 rfl rfl (m_in (n := 0) (by first | assumption | omega) (by decide)) dL_undo_7 (fun H3 locs hP hD hS => ?_)
  have hP : va_P D vwCl [(ot, .inl (cY 2, 1, .inr (.inl (vp_updL ov 0 (Int32.toInt64 (nI (z - 1))))))), (nx, .inr (6, [.ref fd, .ref tb, .ref pr, .ref ad, .ref rd, .ref wd, .ref h, .int (nI sk)])), (ad, .inr (4, [.ref ab, .int (nI t0)])), (ab, .inl (cY 0, 8, .inl (m_nf g0))), (h, .inr (0, [.ref kp, .int (nI (z - 1))])), (kp, .inl (cY 3, 4, .inr (.inr (.inr (.inr (m_k4 s0 s1 s2 s3)))))), (s0, .inr (4, [.ref b0, .int (nI t1)])), (b0, .inl (cY 0, 8, .inl (m_nf g1))), (s1, .inr (4, [.ref b1, .int (nI t2)])), (b1, .inl (cY 0, 8, .inl (m_nf g2))), (s2, .inr (4, [.ref b2, .int (nI t3)])), (b2, .inl (cY 0, 8, .inl (m_nf g3))), (s3, .inr (4, [.ref b3, .int (nI t3)])), (b3, .inl (cY 0, 8, .inl (m_nf g3)))] H3 := hP
  have hD : va_D A [(ot, .inl (cY 2, 1, .inr (.inl (vp_updL ov 0 (Int32.toInt64 (nI (z - 1))))))), (nx, .inr (6, [.ref fd, .ref tb, .ref pr, .ref ad, .ref rd, .ref wd, .ref h, .int (nI sk)])), (ad, .inr (4, [.ref ab, .int (nI t0)])), (ab, .inl (cY 0, 8, .inl (m_nf g0))), (h, .inr (0, [.ref kp, .int (nI (z - 1))])), (kp, .inl (cY 3, 4, .inr (.inr (.inr (.inr (m_k4 s0 s1 s2 s3)))))), (s0, .inr (4, [.ref b0, .int (nI t1)])), (b0, .inl (cY 0, 8, .inl (m_nf g1))), (s1, .inr (4, [.ref b1, .int (nI t2)])), (b1, .inl (cY 0, 8, .inl (m_nf g2))), (s2, .inr (4, [.ref b2, .int (nI t3)])), (b2, .inl (cY 0, 8, .inl (m_nf g3))), (s3, .inr (4, [.ref b3, .int (nI t3)])), (b3, .inl (cY 0, 8, .inl (m_nf g3)))] := hD
  refine lv_goto (tgt := 14) hx hb dL_undo_8 (by decide) ?_
  refine lv_iconst (v := nI 0) hx hb dL_undo_14 (by decide) ?_
  subst hQ
  exact m_iret C0 hS dL_undo_15 (u := ()) hP (rfl)
set_option maxHeartbeats 4000000 in
set_option maxRecDepth 100000 in
theorem c_L_restoreSnapshot_x1 (l : Launch) (hfl : l.stackTraces = false) (D : va_G) (cY : Nat → ClassId) (eS : Nat → Nat) (eO : Nat) (nx fd tb pr ad rd wd h sk : Nat) (ot : Nat) (ov : Nat → Int64) (hz : sk = 0) : m_Me l yL_restoreSnapshot wsL_restoreSnapshot 7 116 1 6 D cY eS eO [.ref nx, .ref ot] [(ot, .inl (cY 2, 1, .inr (.inl ov))), (nx, .inr (6, [.ref fd, .ref tb, .ref pr, .ref ad, .ref rd, .ref wd, .ref h, .int (nI sk)]))] (fun (res : Int32) (u : Unit) => res = nI 1) (fun (u : Unit) => [(ot, .inl (cY 2, 1, .inr (.inl ov))), (nx, .inr (6, [.ref fd, .ref tb, .ref pr, .ref ad, .ref rd, .ref wd, .ref h, .int (nI sk)]))]) := by
  refine m_enterEW (cc := cL_restoreSnapshot) (maxL := 3) (ret := (some .int)) (by decide +kernel) rfl (Nat.le_of_ble_eq_true rfl) ?_
  intro p e s m below meth c A ls C0 htb hE hP hD hl
  obtain ⟨hx, hb, hr, hml, hts, hown, hlocks, hK, hA⟩ := id C0
  obtain ⟨hz1, hz2, ⟨hcIO, hcIA, hcIS⟩, hdcl, ⟨hs0, hs1, hs2, hs3, hs4, hs5, hs6, hs7⟩, ⟨hn1, hn2⟩, ⟨hl0, hl1, hl2, hl3, hl4⟩, hzO, htO⟩ := id hE
  generalize hQ : MQ below _ _ s 1 6 A = Q
  have hS : va_S A s.heap s.heap [] := va_S.rf
  have hl : lv_has ls 3 [(0, .ref nx), (1, .ref ot)] := hl
  have hwd0 := hts (.classLink RL 21 e_IS) (by decide +kernel)
  refine lv_aload_n hx hb dL_restoreSnapshot_0 rfl (lv_at hl 1 rfl) ?_
  refine lv_iconst (v := nI 0) hx hb dL_restoreSnapshot_1 (by decide) ?_
  refine lv_aload_n hx hb dL_restoreSnapshot_2 rfl (lv_at hl 0 rfl) ?_
  refine m_callVc (As := []) (rest := [.int (nI 0), .ref ot]) C0 htb hE hl hP hD hS (c_X6_restoreSnapshot_x1 l hfl D cY eS eO nx fd tb pr ad rd wd h sk (by first | assumption | omega | exact nm_lt _ _ | exact np_lt _ _ | decide)) (cwV 0 hts gL_restoreSnapshot_X6_restoreSnapshot rfl rfl rfl (by decide +kernel) ⟨Nat.le_of_ble_eq_true rfl, Nat.le_of_ble_eq_true rfl⟩) dL_restoreSnapshot_3 [1] rfl rfl 1 rfl rfl rfl rfl (Nat.le_of_ble_eq_true rfl) (Nat.le_of_ble_eq_true rfl) (Nat.le_of_ble_eq_true rfl) (fun _ => rfl) (tableOf []) ⟨0, 8, 11, 21⟩ (tableOf []) rfl (fun z hz => by cases hz) (by decide) (by decide) hwd0 hcIS (fun q9 u H1 locs hP hD hS => ?_)
  have hP : va_P D vwCl [(ot, .inl (cY 2, 1, .inr (.inl ov))), (nx, .inr (6, [.ref fd, .ref tb, .ref pr, .ref ad, .ref rd, .ref wd, .ref h, .int (nI sk)]))] H1 := hP
  have hD : va_D A [(ot, .inl (cY 2, 1, .inr (.inl ov))), (nx, .inr (6, [.ref fd, .ref tb, .ref pr, .ref ad, .ref rd, .ref wd, .ref h, .int (nI sk)]))] := hD
  refine lv_astore_n (lv' := [(2, .ref q9), (0, .ref nx), (1, .ref ot)]) hx hb dL_restoreSnapshot_11 rfl hl (by decide) rfl (fun ls hl => ?_)
  refine lv_iconst (v := nI 1) hx hb dL_restoreSnapshot_12 (by decide) ?_
  subst hQ
  exact m_iretC C0 hS dL_restoreSnapshot_13 (u := ()) hP (rfl)
set_option maxHeartbeats 4000000 in
set_option maxRecDepth 100000 in
theorem c_L_restoreSnapshot_ok (l : Launch) (D : va_G) (cY : Nat → ClassId) (nx fd tb pr ad rd wd h sk : Nat) (ab cnt : Nat) (f : Nat → Nat) (wb sn : Nat) (sf : Nat → Nat) (kp z s0 s1 s2 s3 b0 b1 b2 b3 t0 t1 t2 t3 : Nat) (g0 g1 g2 g3 : Nat → Nat) (ot : Nat) (ov : Nat → Int64) (hf8 : m_z 8 f) (hf16 : ∀ j, f j < 65536) (hsf8 : m_z 8 sf) (hg0 : m_z 8 g0) (hg1 : m_z 8 g1) (hg2 : m_z 8 g2) (hg3 : m_z 8 g3) (hz4 : z ≤ 4) (hz : sk = 1) : m_Mi l yL_restoreSnapshot wsL_restoreSnapshot 4 85 D cY [.ref nx, .ref ot] [(ot, .inl (cY 2, 1, .inr (.inl ov))), (nx, .inr (6, [.ref fd, .ref tb, .ref pr, .ref ad, .ref rd, .ref wd, .ref h, .int (nI sk)])), (ad, .inr (4, [.ref ab, .int (nI cnt)])), (ab, .inl (cY 0, 8, .inl (m_nf f))), (wd, .inr (4, [.ref wb, .int (nI sn)])), (wb, .inl (cY 0, 8, .inl (m_nf sf))), (h, .inr (0, [.ref kp, .int (nI z)])), (kp, .inl (cY 3, 4, .inr (.inr (.inr (.inr (m_k4 s0 s1 s2 s3)))))), (s0, .inr (4, [.ref b0, .int (nI t0)])), (b0, .inl (cY 0, 8, .inl (m_nf g0))), (s1, .inr (4, [.ref b1, .int (nI t1)])), (b1, .inl (cY 0, 8, .inl (m_nf g1))), (s2, .inr (4, [.ref b2, .int (nI t2)])), (b2, .inl (cY 0, 8, .inl (m_nf g2))), (s3, .inr (4, [.ref b3, .int (nI t3)])), (b3, .inl (cY 0, 8, .inl (m_nf g3)))] (fun (res : Int32) (u : Unit) => res = nI 0) (fun (u : Unit) => [(ot, .inl (cY 2, 1, .inr (.inl (vp_updL ov 0 (Int32.toInt64 (nI (m_xr sf 8))))))), (nx, .inr (6, [.ref fd, .ref tb, .ref pr, .ref ad, .ref rd, .ref wd, .ref h, .int (nI sk)])), (ad, .inr (4, [.ref ab, .int (nI sn)])), (ab, .inl (cY 0, 8, .inl (m_nf sf))), (wd, .inr (4, [.ref wb, .int (nI sn)])), (wb, .inl (cY 0, 8, .inl (m_nf sf))), (h, .inr (0, [.ref kp, .int (nI (min (z + 1) 4))])), (kp, .inl (cY 3, 4, .inr (.inr (.inr (.inr (m_k4 s0 s1 s2 s3)))))), (s0, .inr (4, [.ref b0, .int (nI cnt)])), (b0, .inl (cY 0, 8, .inl (m_nf f))), (s1, .inr (4, [.ref b1, .int (nI t0)])), (b1, .inl (cY 0, 8, .inl (m_nf g0))), (s2, .inr (4, [.ref b2, .int (nI t1)])), (b2, .inl (cY 0, 8, .inl (m_nf g1))), (s3, .inr (4, [.ref b3, .int (nI t2)])), (b3, .inl (cY 0, 8, .inl (m_nf g2)))]) := by
  refine m_enterIW (cc := cL_restoreSnapshot) (maxL := 3) (ret := (some .int)) (by decide +kernel) rfl (Nat.le_of_ble_eq_true rfl) ?_
  intro p e s m below meth c A ls C0 hP hD hl
  obtain ⟨hx, hb, hr, hml, hts, hown, hlocks, hK, hA⟩ := id C0
  generalize hQ : MQ below _ _ s 0 0 A = Q
  have hS : va_S A s.heap s.heap [] := va_S.rf
  have hl : lv_has ls 3 [(0, .ref nx), (1, .ref ot)] := hl
  refine lv_aload_n hx hb dL_restoreSnapshot_0 rfl (lv_at hl 1 rfl) ?_
  refine lv_iconst (v := nI 0) hx hb dL_restoreSnapshot_1 (by decide) ?_
  refine lv_aload_n hx hb dL_restoreSnapshot_2 rfl (lv_at hl 0 rfl) ?_
  refine m_callVi (As := []) (rest := [.int (nI 0), .ref ot]) C0 hl hP hD hS (c_X6_restoreSnapshot l D cY nx fd tb pr ad rd wd h sk ab cnt f wb sn sf kp z s0 s1 s2 s3 b0 b1 b2 b3 t0 t1 t2 t3 g0 g1 g2 g3 (by first | assumption | omega | exact nm_lt _ _ | exact np_lt _ _ | decide) (by first | assumption | omega | exact nm_lt _ _ | exact np_lt _ _ | decide) (by first | assumption | omega | exact nm_lt _ _ | exact np_lt _ _ | decide) (by first | assumption | omega | exact nm_lt _ _ | exact np_lt _ _ | decide) (by first | assumption | omega | exact nm_lt _ _ | exact np_lt _ _ | decide) (by first | assumption | omega | exact nm_lt _ _ | exact np_lt _ _ | decide) (by first | assumption | omega | exact nm_lt _ _ | exact np_lt _ _ | decide) (by first | assumption | omega | exact nm_lt _ _ | exact np_lt _ _ | decide) (by first | assumption | omega | exact nm_lt _ _ | exact np_lt _ _ | decide)) (cwV 0 hts gL_restoreSnapshot_X6_restoreSnapshot rfl rfl rfl (by decide +kernel) ⟨Nat.le_of_ble_eq_true rfl, Nat.le_of_ble_eq_true rfl⟩) dL_restoreSnapshot_3 [1, 2, 3, 4, 5, 6, 7, 8, 9, 10, 11, 12, 13, 14, 15] rfl rfl 1 rfl rfl rfl rfl (Nat.le_of_ble_eq_true rfl) (Nat.zero_le _) (Nat.zero_le _) (fun _ => rfl) (fun r2 u H1 locs hw hP hD hS => ?_)
  try dsimp only at hw
  obtain rfl := hw
  have hP : va_P D vwCl [(ot, .inl (cY 2, 1, .inr (.inl ov))), (nx, .inr (6, [.ref fd, .ref tb, .ref pr, .ref ad, .ref rd, .ref wd, .ref h, .int (nI sk)])), (ad, .inr (4, [.ref ab, .int (nI sn)])), (ab, .inl (cY 0, 8, .inl (m_nf sf))), (wd, .inr (4, [.ref wb, .int (nI sn)])), (wb, .inl (cY 0, 8, .inl (m_nf sf))), (h, .inr (0, [.ref kp, .int (nI (min (z + 1) 4))])), (kp, .inl (cY 3, 4, .inr (.inr (.inr (.inr (m_k4 s0 s1 s2 s3)))))), (s0, .inr (4, [.ref b0, .int (nI cnt)])), (b0, .inl (cY 0, 8, .inl (m_nf f))), (s1, .inr (4, [.ref b1, .int (nI t0)])), (b1, .inl (cY 0, 8, .inl (m_nf g0))), (s2, .inr (4, [.ref b2, .int (nI t1)])), (b2, .inl (cY 0, 8, .inl (m_nf g1))), (s3, .inr (4, [.ref b3, .int (nI t2)])), (b3, .inl (cY 0, 8, .inl (m_nf g2)))] H1 := hP
  have hD : va_D A [(ot, .inl (cY 2, 1, .inr (.inl ov))), (nx, .inr (6, [.ref fd, .ref tb, .ref pr, .ref ad, .ref rd, .ref wd, .ref h, .int (nI sk)])), (ad, .inr (4, [.ref ab, .int (nI sn)])), (ab, .inl (cY 0, 8, .inl (m_nf sf))), (wd, .inr (4, [.ref wb, .int (nI sn)])), (wb, .inl (cY 0, 8, .inl (m_nf sf))), (h, .inr (0, [.ref kp, .int (nI (min (z + 1) 4))])), (kp, .inl (cY 3, 4, .inr (.inr (.inr (.inr (m_k4 s0 s1 s2 s3)))))), (s0, .inr (4, [.ref b0, .int (nI cnt)])), (b0, .inl (cY 0, 8, .inl (m_nf f))), (s1, .inr (4, [.ref b1, .int (nI t0)])), (b1, .inl (cY 0, 8, .inl (m_nf g0))), (s2, .inr (4, [.ref b2, .int (nI t1)])), (b2, .inl (cY 0, 8, .inl (m_nf g1))), (s3, .inr (4, [.ref b3, .int (nI t2)])), (b3, .inl (cY 0, 8, .inl (m_nf g2)))] := hD
  refine lv_i2l (v := Int32.toInt64 (nI (m_xr sf 8))) hx hb dL_restoreSnapshot_6 rfl ?_
  refine va_last hx hb hK hP hD hS 0 2 rfl rfl (m_in (n := 0) (by first | assumption | omega) (by decide)) dL_restoreSnapshot_7 (fun H3 locs hP hD hS => ?_)
  have hP : va_P D vwCl [(ot, .inl (cY 2, 1, .inr (.inl (vp_updL ov 0 (Int32.toInt64 (nI (m_xr sf 8))))))), (nx, .inr (6, [.ref fd, .ref tb, .ref pr, .ref ad, .ref rd, .ref wd, .ref h, .int (nI sk)])), (ad, .inr (4, [.ref ab, .int (nI sn)])), (ab, .inl (cY 0, 8, .inl (m_nf sf))), (wd, .inr (4, [.ref wb, .int (nI sn)])), (wb, .inl (cY 0, 8, .inl (m_nf sf))), (h, .inr (0, [.ref kp, .int (nI (min (z + 1) 4))])), (kp, .inl (cY 3, 4, .inr (.inr (.inr (.inr (m_k4 s0 s1 s2 s3)))))), (s0, .inr (4, [.ref b0, .int (nI cnt)])), (b0, .inl (cY 0, 8, .inl (m_nf f))), (s1, .inr (4, [.ref b1, .int (nI t0)])), (b1, .inl (cY 0, 8, .inl (m_nf g0))), (s2, .inr (4, [.ref b2, .int (nI t1)])), (b2, .inl (cY 0, 8, .inl (m_nf g1))), (s3, .inr (4, [.ref b3, .int (nI t2)])), (b3, .inl (cY 0, 8, .inl (m_nf g2)))] H3 := hP
  have hD : va_D A [(ot, .inl (cY 2, 1, .inr (.inl (vp_updL ov 0 (Int32.toInt64 (nI (m_xr sf 8))))))), (nx, .inr (6, [.ref fd, .ref tb, .ref pr, .ref ad, .ref rd, .ref wd, .ref h, .int (nI sk)])), (ad, .inr (4, [.ref ab, .int (nI sn)])), (ab, .inl (cY 0, 8, .inl (m_nf sf))), (wd, .inr (4, [.ref wb, .int (nI sn)])), (wb, .inl (cY 0, 8, .inl (m_nf sf))), (h, .inr (0, [.ref kp, .int (nI (min (z + 1) 4))])), (kp, .inl (cY 3, 4, .inr (.inr (.inr (.inr (m_k4 s0 s1 s2 s3)))))), (s0, .inr (4, [.ref b0, .int (nI cnt)])), (b0, .inl (cY 0, 8, .inl (m_nf f))), (s1, .inr (4, [.ref b1, .int (nI t0)])), (b1, .inl (cY 0, 8, .inl (m_nf g0))), (s2, .inr (4, [.ref b2, .int (nI t1)])), (b2, .inl (cY 0, 8, .inl (m_nf g1))), (s3, .inr (4, [.ref b3, .int (nI t2)])), (b3, .inl (cY 0, 8, .inl (m_nf g2)))] := hD
  refine lv_goto (tgt := 14) hx hb dL_restoreSnapshot_8 (by decide) ?_
  refine lv_iconst (v := nI 0) hx hb dL_restoreSnapshot_14 (by decide) ?_
  subst hQ
  exact m_iret C0 hS dL_restoreSnapshot_15 (u := ()) hP (rfl)
set_option maxHeartbeats 4000000 in
set_option maxRecDepth 100000 in
theorem c_L_nimberOf_x1 (l : Launch) (hfl : l.stackTraces = false) (D : va_G) (cY : Nat → ClassId) (eS : Nat → Nat) (eO : Nat) (nx fd tb pr ad rd wd h sk : Nat) (x : Int32) (ot : Nat) (ov : Nat → Int64) (hn : ¬ m_isR x) : m_Me l yL_nimberOf wsL_nimberOf 8 137 1 6 D cY eS eO [.ref nx, .int x, .ref ot] [(ot, .inl (cY 2, 1, .inr (.inl ov))), (nx, .inr (6, [.ref fd, .ref tb, .ref pr, .ref ad, .ref rd, .ref wd, .ref h, .int (nI sk)]))] (fun (res : Int32) (u : Unit) => res = nI 1) (fun (u : Unit) => [(ot, .inl (cY 2, 1, .inr (.inl ov))), (nx, .inr (6, [.ref fd, .ref tb, .ref pr, .ref ad, .ref rd, .ref wd, .ref h, .int (nI sk)]))]) := by
  refine m_enterEW (cc := cL_nimberOf) (maxL := 4) (ret := (some .int)) (by decide +kernel) rfl (Nat.le_of_ble_eq_true rfl) ?_
  intro p e s m below meth c A ls C0 htb hE hP hD hl
  obtain ⟨hx, hb, hr, hml, hts, hown, hlocks, hK, hA⟩ := id C0
  obtain ⟨hz1, hz2, ⟨hcIO, hcIA, hcIS⟩, hdcl, ⟨hs0, hs1, hs2, hs3, hs4, hs5, hs6, hs7⟩, ⟨hn1, hn2⟩, ⟨hl0, hl1, hl2, hl3, hl4⟩, hzO, htO⟩ := id hE
  generalize hQ : MQ below _ _ s 1 6 A = Q
  have hS : va_S A s.heap s.heap [] := va_S.rf
  have hl : lv_has ls 4 [(0, .ref nx), (1, .int x), (2, .ref ot)] := hl
  have hwd0 := hts (.classLink RL 13 e_IO) (by decide +kernel)
  refine lv_aload_n hx hb dL_nimberOf_0 rfl (lv_at hl 2 rfl) ?_
  refine lv_iconst (v := nI 0) hx hb dL_nimberOf_1 (by decide) ?_
  refine lv_aload_n hx hb dL_nimberOf_2 rfl (lv_at hl 0 rfl) ?_
  refine lv_iload_n hx hb dL_nimberOf_3 rfl (lv_at hl 1 rfl) ?_
  refine m_callVc (As := [.int x]) (rest := [.int (nI 0), .ref ot]) C0 htb hE hl hP hD hS (c_X6_nimberOf_x1 l hfl D cY eS eO nx fd tb pr ad rd wd h sk x (by first | assumption | omega | exact nm_lt _ _ | exact np_lt _ _ | decide)) (cwV 1 hts gL_nimberOf_X6_nimberOf rfl rfl rfl (by decide +kernel) ⟨Nat.le_of_ble_eq_true rfl, Nat.le_of_ble_eq_true rfl⟩) dL_nimberOf_4 [1] rfl rfl 1 rfl rfl rfl rfl (Nat.le_of_ble_eq_true rfl) (Nat.le_of_ble_eq_true rfl) (Nat.le_of_ble_eq_true rfl) (fun _ => rfl) (tableOf []) ⟨0, 9, 12, 13⟩ (tableOf []) rfl (fun z hz => by cases hz) (by decide) (by decide) hwd0 hcIO (fun q9 u H1 locs hP hD hS => ?_)
  have hP : va_P D vwCl [(ot, .inl (cY 2, 1, .inr (.inl ov))), (nx, .inr (6, [.ref fd, .ref tb, .ref pr, .ref ad, .ref rd, .ref wd, .ref h, .int (nI sk)]))] H1 := hP
  have hD : va_D A [(ot, .inl (cY 2, 1, .inr (.inl ov))), (nx, .inr (6, [.ref fd, .ref tb, .ref pr, .ref ad, .ref rd, .ref wd, .ref h, .int (nI sk)]))] := hD
  refine lv_astore_n (lv' := [(3, .ref q9), (0, .ref nx), (1, .int x), (2, .ref ot)]) hx hb dL_nimberOf_12 rfl hl (by decide) rfl (fun ls hl => ?_)
  refine lv_iconst (v := nI 1) hx hb dL_nimberOf_13 (by decide) ?_
  subst hQ
  exact m_iretC C0 hS dL_nimberOf_14 (u := ()) hP (rfl)
set_option maxHeartbeats 4000000 in
set_option maxRecDepth 100000 in
theorem c_L_nimberOf_ok (l : Launch) (D : va_G) (cY : Nat → ClassId) (nx fd tb pr ad rd wd h sk : Nat) (ab cnt : Nat) (f : Nat → Nat) (k : Nat) (ot : Nat) (ov : Nat → Int64) (hf8 : m_z 8 f) (hf16 : ∀ j, f j < 65536) (hk : k < 8) : m_Mi l yL_nimberOf wsL_nimberOf 2 42 D cY [.ref nx, .int (nI k), .ref ot] [(ot, .inl (cY 2, 1, .inr (.inl ov))), (nx, .inr (6, [.ref fd, .ref tb, .ref pr, .ref ad, .ref rd, .ref wd, .ref h, .int (nI sk)])), (ad, .inr (4, [.ref ab, .int (nI cnt)])), (ab, .inl (cY 0, 8, .inl (m_nf f)))] (fun (res : Int32) (u : Unit) => res = nI 0) (fun (u : Unit) => [(ot, .inl (cY 2, 1, .inr (.inl (vp_updL ov 0 (Int32.toInt64 (nI (f k))))))), (nx, .inr (6, [.ref fd, .ref tb, .ref pr, .ref ad, .ref rd, .ref wd, .ref h, .int (nI sk)])), (ad, .inr (4, [.ref ab, .int (nI cnt)])), (ab, .inl (cY 0, 8, .inl (m_nf f)))]) := by
  refine m_enterIW (cc := cL_nimberOf) (maxL := 4) (ret := (some .int)) (by decide +kernel) rfl (Nat.le_of_ble_eq_true rfl) ?_
  intro p e s m below meth c A ls C0 hP hD hl
  obtain ⟨hx, hb, hr, hml, hts, hown, hlocks, hK, hA⟩ := id C0
  generalize hQ : MQ below _ _ s 0 0 A = Q
  have hS : va_S A s.heap s.heap [] := va_S.rf
  have hl : lv_has ls 4 [(0, .ref nx), (1, .int (nI k)), (2, .ref ot)] := hl
  refine lv_aload_n hx hb dL_nimberOf_0 rfl (lv_at hl 2 rfl) ?_
  refine lv_iconst (v := nI 0) hx hb dL_nimberOf_1 (by decide) ?_
  refine lv_aload_n hx hb dL_nimberOf_2 rfl (lv_at hl 0 rfl) ?_
  refine lv_iload_n hx hb dL_nimberOf_3 rfl (lv_at hl 1 rfl) ?_
  refine m_callVi (As := [.int (nI k)]) (rest := [.int (nI 0), .ref ot]) C0 hl hP hD hS (c_X6_nimberOf l D cY nx fd tb pr ad rd wd h sk ab cnt f k (by first | assumption | omega | exact nm_lt _ _ | exact np_lt _ _ | decide) (by first | assumption | omega | exact nm_lt _ _ | exact np_lt _ _ | decide) (by first | assumption | omega | exact nm_lt _ _ | exact np_lt _ _ | decide)) (cwV 1 hts gL_nimberOf_X6_nimberOf rfl rfl rfl (by decide +kernel) ⟨Nat.le_of_ble_eq_true rfl, Nat.le_of_ble_eq_true rfl⟩) dL_nimberOf_4 [1, 2, 3] rfl rfl 1 rfl rfl rfl rfl (Nat.le_of_ble_eq_true rfl) (Nat.zero_le _) (Nat.zero_le _) (fun _ => rfl) (fun r2 u H1 locs hw hP hD hS => ?_)
  try dsimp only at hw
  obtain rfl := hw
  have hP : va_P D vwCl [(ot, .inl (cY 2, 1, .inr (.inl ov))), (nx, .inr (6, [.ref fd, .ref tb, .ref pr, .ref ad, .ref rd, .ref wd, .ref h, .int (nI sk)])), (ad, .inr (4, [.ref ab, .int (nI cnt)])), (ab, .inl (cY 0, 8, .inl (m_nf f)))] H1 := hP
  have hD : va_D A [(ot, .inl (cY 2, 1, .inr (.inl ov))), (nx, .inr (6, [.ref fd, .ref tb, .ref pr, .ref ad, .ref rd, .ref wd, .ref h, .int (nI sk)])), (ad, .inr (4, [.ref ab, .int (nI cnt)])), (ab, .inl (cY 0, 8, .inl (m_nf f)))] := hD
  refine lv_i2l (v := Int32.toInt64 (nI (f k))) hx hb dL_nimberOf_7 rfl ?_
  refine va_last hx hb hK hP hD hS 0 2 rfl rfl (m_in (n := 0) (by first | assumption | omega) (by decide)) dL_nimberOf_8 (fun H3 locs hP hD hS => ?_)
  have hP : va_P D vwCl [(ot, .inl (cY 2, 1, .inr (.inl (vp_updL ov 0 (Int32.toInt64 (nI (f k))))))), (nx, .inr (6, [.ref fd, .ref tb, .ref pr, .ref ad, .ref rd, .ref wd, .ref h, .int (nI sk)])), (ad, .inr (4, [.ref ab, .int (nI cnt)])), (ab, .inl (cY 0, 8, .inl (m_nf f)))] H3 := hP
  have hD : va_D A [(ot, .inl (cY 2, 1, .inr (.inl (vp_updL ov 0 (Int32.toInt64 (nI (f k))))))), (nx, .inr (6, [.ref fd, .ref tb, .ref pr, .ref ad, .ref rd, .ref wd, .ref h, .int (nI sk)])), (ad, .inr (4, [.ref ab, .int (nI cnt)])), (ab, .inl (cY 0, 8, .inl (m_nf f)))] := hD
  refine lv_goto (tgt := 15) hx hb dL_nimberOf_9 (by decide) ?_
  refine lv_iconst (v := nI 0) hx hb dL_nimberOf_15 (by decide) ?_
  subst hQ
  exact m_iret C0 hS dL_nimberOf_16 (u := ()) hP (rfl)
set_option maxHeartbeats 4000000 in
set_option maxRecDepth 100000 in
theorem c_L_productByHalves_ok (l : Launch) (hfl : l.stackTraces = false) (D : va_G) (cY : Nat → ClassId) (eS : Nat → Nat) (eO : Nat) (nx fd tb pr ad rd wd h sk : Nat) (x y : Nat) (ot : Nat) (ov : Nat → Int64) (hxx : x < 65536) (hyy : y < 65536) : m_Me l yL_productByHalves wsL_productByHalves 6 177 0 0 D cY eS eO [.ref nx, .int (nI x), .int (nI y), .ref ot] [(ot, .inl (cY 2, 1, .inr (.inl ov))), (nx, .inr (6, [.ref fd, .ref tb, .ref pr, .ref ad, .ref rd, .ref wd, .ref h, .int (nI sk)]))] (fun (res : Int32) (u : Unit) => res = nI 0) (fun (u : Unit) => [(ot, .inl (cY 2, 1, .inr (.inl (vp_updL ov 0 (Int32.toInt64 (nI (nm x y))))))), (nx, .inr (6, [.ref fd, .ref tb, .ref pr, .ref ad, .ref rd, .ref wd, .ref h, .int (nI sk)]))]) := by
  refine m_enterEW (cc := cL_productByHalves) (maxL := 5) (ret := (some .int)) (by decide +kernel) rfl (Nat.le_of_ble_eq_true rfl) ?_
  intro p e s m below meth c A ls C0 htb hE hP hD hl
  obtain ⟨hx, hb, hr, hml, hts, hown, hlocks, hK, hA⟩ := id C0
  obtain ⟨hz1, hz2, ⟨hcIO, hcIA, hcIS⟩, hdcl, ⟨hs0, hs1, hs2, hs3, hs4, hs5, hs6, hs7⟩, ⟨hn1, hn2⟩, ⟨hl0, hl1, hl2, hl3, hl4⟩, hzO, htO⟩ := id hE
  generalize hQ : MQ below _ _ s 0 0 A = Q
  have hS : va_S A s.heap s.heap [] := va_S.rf
  have hl : lv_has ls 5 [(0, .ref nx), (1, .int (nI x)), (2, .int (nI y)), (3, .ref ot)] := hl
  refine lv_aload_n hx hb dL_productByHalves_0 rfl (lv_at hl 3 rfl) ?_
  refine lv_iconst (v := nI 0) hx hb dL_productByHalves_1 (by decide) ?_
  refine lv_aload_n hx hb dL_productByHalves_2 rfl (lv_at hl 0 rfl) ?_
  refine lv_iload_n hx hb dL_productByHalves_3 rfl (lv_at hl 1 rfl) ?_
  refine lv_iload_n hx hb dL_productByHalves_4 rfl (lv_at hl 2 rfl) ?_
  refine m_callVe (As := [.int (nI x), .int (nI y)]) (rest := [.int (nI 0), .ref ot]) C0 hE hl hP hD hS (c_X6_productByHalves l hfl D cY eS eO nx fd tb pr ad rd wd h sk x y (by first | assumption | omega | exact nm_lt _ _ | exact np_lt _ _ | decide) (by first | assumption | omega | exact nm_lt _ _ | exact np_lt _ _ | decide)) (cwV 2 hts gL_productByHalves_X6_productByHalves rfl rfl rfl (by decide +kernel) ⟨Nat.le_of_ble_eq_true rfl, Nat.le_of_ble_eq_true rfl⟩) dL_productByHalves_5 [1] rfl rfl 1 rfl rfl rfl rfl (Nat.le_of_ble_eq_true rfl) (Nat.zero_le _) (Nat.zero_le _) (fun _ => rfl) (fun r2 u H1 locs hw hP hD hS => ?_)
  try dsimp only at hw
  obtain rfl := hw
  have hP : va_P D vwCl [(ot, .inl (cY 2, 1, .inr (.inl ov))), (nx, .inr (6, [.ref fd, .ref tb, .ref pr, .ref ad, .ref rd, .ref wd, .ref h, .int (nI sk)]))] H1 := hP
  have hD : va_D A [(ot, .inl (cY 2, 1, .inr (.inl ov))), (nx, .inr (6, [.ref fd, .ref tb, .ref pr, .ref ad, .ref rd, .ref wd, .ref h, .int (nI sk)]))] := hD
  refine lv_i2l (v := Int32.toInt64 (nI (nm x y))) hx hb dL_productByHalves_8 rfl ?_
  refine va_last hx hb hK hP hD hS 0 2 rfl rfl (m_in (n := 0) (by first | assumption | omega) (by decide)) dL_productByHalves_9 (fun H3 locs hP hD hS => ?_)
  have hP : va_P D vwCl [(ot, .inl (cY 2, 1, .inr (.inl (vp_updL ov 0 (Int32.toInt64 (nI (nm x y))))))), (nx, .inr (6, [.ref fd, .ref tb, .ref pr, .ref ad, .ref rd, .ref wd, .ref h, .int (nI sk)]))] H3 := hP
  have hD : va_D A [(ot, .inl (cY 2, 1, .inr (.inl (vp_updL ov 0 (Int32.toInt64 (nI (nm x y))))))), (nx, .inr (6, [.ref fd, .ref tb, .ref pr, .ref ad, .ref rd, .ref wd, .ref h, .int (nI sk)]))] := hD
  refine lv_goto (tgt := 17) hx hb dL_productByHalves_10 (by decide) ?_
  refine lv_iconst (v := nI 0) hx hb dL_productByHalves_17 (by decide) ?_
  subst hQ
  exact m_iret C0 hS dL_productByHalves_18 (u := ()) hP (rfl)
set_option maxHeartbeats 4000000 in
set_option maxRecDepth 100000 in
theorem c_L_productByHalves_x1 (l : Launch) (hfl : l.stackTraces = false) (D : va_G) (cY : Nat → ClassId) (eS : Nat → Nat) (eO : Nat) (nx fd tb pr ad rd wd h sk : Nat) (x y : Int32) (ot : Nat) (ov : Nat → Int64) (hn : ¬ (m_isN x ∧ m_isN y)) : m_Me l yL_productByHalves wsL_productByHalves 8 139 1 6 D cY eS eO [.ref nx, .int x, .int y, .ref ot] [(ot, .inl (cY 2, 1, .inr (.inl ov))), (nx, .inr (6, [.ref fd, .ref tb, .ref pr, .ref ad, .ref rd, .ref wd, .ref h, .int (nI sk)]))] (fun (res : Int32) (u : Unit) => res = nI 1) (fun (u : Unit) => [(ot, .inl (cY 2, 1, .inr (.inl ov))), (nx, .inr (6, [.ref fd, .ref tb, .ref pr, .ref ad, .ref rd, .ref wd, .ref h, .int (nI sk)]))]) := by
  refine m_enterEW (cc := cL_productByHalves) (maxL := 5) (ret := (some .int)) (by decide +kernel) rfl (Nat.le_of_ble_eq_true rfl) ?_
  intro p e s m below meth c A ls C0 htb hE hP hD hl
  obtain ⟨hx, hb, hr, hml, hts, hown, hlocks, hK, hA⟩ := id C0
  obtain ⟨hz1, hz2, ⟨hcIO, hcIA, hcIS⟩, hdcl, ⟨hs0, hs1, hs2, hs3, hs4, hs5, hs6, hs7⟩, ⟨hn1, hn2⟩, ⟨hl0, hl1, hl2, hl3, hl4⟩, hzO, htO⟩ := id hE
  generalize hQ : MQ below _ _ s 1 6 A = Q
  have hS : va_S A s.heap s.heap [] := va_S.rf
  have hl : lv_has ls 5 [(0, .ref nx), (1, .int x), (2, .int y), (3, .ref ot)] := hl
  have hwd0 := hts (.classLink RL 15 e_IA) (by decide +kernel)
  refine lv_aload_n hx hb dL_productByHalves_0 rfl (lv_at hl 3 rfl) ?_
  refine lv_iconst (v := nI 0) hx hb dL_productByHalves_1 (by decide) ?_
  refine lv_aload_n hx hb dL_productByHalves_2 rfl (lv_at hl 0 rfl) ?_
  refine lv_iload_n hx hb dL_productByHalves_3 rfl (lv_at hl 1 rfl) ?_
  refine lv_iload_n hx hb dL_productByHalves_4 rfl (lv_at hl 2 rfl) ?_
  refine m_callVc (As := [.int x, .int y]) (rest := [.int (nI 0), .ref ot]) C0 htb hE hl hP hD hS (c_X6_productByHalves_x1 l hfl D cY eS eO nx fd tb pr ad rd wd h sk x y (by first | assumption | omega | exact nm_lt _ _ | exact np_lt _ _ | decide)) (cwV 2 hts gL_productByHalves_X6_productByHalves rfl rfl rfl (by decide +kernel) ⟨Nat.le_of_ble_eq_true rfl, Nat.le_of_ble_eq_true rfl⟩) dL_productByHalves_5 [1] rfl rfl 1 rfl rfl rfl rfl (Nat.le_of_ble_eq_true rfl) (Nat.le_of_ble_eq_true rfl) (Nat.le_of_ble_eq_true rfl) (fun _ => rfl) (tableOf []) ⟨0, 10, 13, 15⟩ (tableOf []) rfl (fun z hz => by cases hz) (by decide) (by decide) hwd0 hcIA (fun q9 u H1 locs hP hD hS => ?_)
  have hP : va_P D vwCl [(ot, .inl (cY 2, 1, .inr (.inl ov))), (nx, .inr (6, [.ref fd, .ref tb, .ref pr, .ref ad, .ref rd, .ref wd, .ref h, .int (nI sk)]))] H1 := hP
  have hD : va_D A [(ot, .inl (cY 2, 1, .inr (.inl ov))), (nx, .inr (6, [.ref fd, .ref tb, .ref pr, .ref ad, .ref rd, .ref wd, .ref h, .int (nI sk)]))] := hD
  refine lv_astore (lv' := [(4, .ref q9), (0, .ref nx), (1, .int x), (2, .int y), (3, .ref ot)]) hx hb dL_productByHalves_13 hl (by decide) rfl (fun ls hl => ?_)
  refine lv_iconst (v := nI 1) hx hb dL_productByHalves_15 (by decide) ?_
  subst hQ
  exact m_iretC C0 hS dL_productByHalves_16 (u := ()) hP (rfl)
set_option maxHeartbeats 4000000 in
set_option maxRecDepth 100000 in
theorem c_L_productByBits_ok (l : Launch) (D : va_G) (cY : Nat → ClassId) (nx fd tb pr ad rd wd h sk : Nat) (fb : Nat) (bp : Nat → Nat) (x y : Nat) (ot : Nat) (ov : Nat → Int64) (hB : n_bp bp) (hxx : x < 65536) (hyy : y < 65536) : m_Mi l yL_productByBits wsL_productByBits 2 47 D cY [.ref nx, .int (nI x), .int (nI y), .ref ot] [(ot, .inl (cY 2, 1, .inr (.inl ov))), (nx, .inr (6, [.ref fd, .ref tb, .ref pr, .ref ad, .ref rd, .ref wd, .ref h, .int (nI sk)])), (fd, .inr (2, [.ref fb])), (fb, .inl (cY 0, 256, .inl (m_nf bp)))] (fun (res : Int32) (u : Unit) => res = nI 0) (fun (u : Unit) => [(ot, .inl (cY 2, 1, .inr (.inl (vp_updL ov 0 (Int32.toInt64 (nI (nm x y))))))), (nx, .inr (6, [.ref fd, .ref tb, .ref pr, .ref ad, .ref rd, .ref wd, .ref h, .int (nI sk)])), (fd, .inr (2, [.ref fb])), (fb, .inl (cY 0, 256, .inl (m_nf bp)))]) := by
  refine m_enterIW (cc := cL_productByBits) (maxL := 5) (ret := (some .int)) (by decide +kernel) rfl (Nat.le_of_ble_eq_true rfl) ?_
  intro p e s m below meth c A ls C0 hP hD hl
  obtain ⟨hx, hb, hr, hml, hts, hown, hlocks, hK, hA⟩ := id C0
  generalize hQ : MQ below _ _ s 0 0 A = Q
  have hS : va_S A s.heap s.heap [] := va_S.rf
  have hl : lv_has ls 5 [(0, .ref nx), (1, .int (nI x)), (2, .int (nI y)), (3, .ref ot)] := hl
  refine lv_aload_n hx hb dL_productByBits_0 rfl (lv_at hl 3 rfl) ?_
  refine lv_iconst (v := nI 0) hx hb dL_productByBits_1 (by decide) ?_
  refine lv_aload_n hx hb dL_productByBits_2 rfl (lv_at hl 0 rfl) ?_
  refine lv_iload_n hx hb dL_productByBits_3 rfl (lv_at hl 1 rfl) ?_
  refine lv_iload_n hx hb dL_productByBits_4 rfl (lv_at hl 2 rfl) ?_
  refine m_callVi (As := [.int (nI x), .int (nI y)]) (rest := [.int (nI 0), .ref ot]) C0 hl hP hD hS (c_X6_productByBits l D cY nx fd tb pr ad rd wd h sk fb bp x y (by first | assumption | omega | exact nm_lt _ _ | exact np_lt _ _ | decide) (by first | assumption | omega | exact nm_lt _ _ | exact np_lt _ _ | decide) (by first | assumption | omega | exact nm_lt _ _ | exact np_lt _ _ | decide)) (cwV 2 hts gL_productByBits_X6_productByBits rfl rfl rfl (by decide +kernel) ⟨Nat.le_of_ble_eq_true rfl, Nat.le_of_ble_eq_true rfl⟩) dL_productByBits_5 [1, 2, 3] rfl rfl 1 rfl rfl rfl rfl (Nat.le_of_ble_eq_true rfl) (Nat.zero_le _) (Nat.zero_le _) (fun _ => rfl) (fun r2 u H1 locs hw hP hD hS => ?_)
  try dsimp only at hw
  obtain rfl := hw
  have hP : va_P D vwCl [(ot, .inl (cY 2, 1, .inr (.inl ov))), (nx, .inr (6, [.ref fd, .ref tb, .ref pr, .ref ad, .ref rd, .ref wd, .ref h, .int (nI sk)])), (fd, .inr (2, [.ref fb])), (fb, .inl (cY 0, 256, .inl (m_nf bp)))] H1 := hP
  have hD : va_D A [(ot, .inl (cY 2, 1, .inr (.inl ov))), (nx, .inr (6, [.ref fd, .ref tb, .ref pr, .ref ad, .ref rd, .ref wd, .ref h, .int (nI sk)])), (fd, .inr (2, [.ref fb])), (fb, .inl (cY 0, 256, .inl (m_nf bp)))] := hD
  refine lv_i2l (v := Int32.toInt64 (nI (nm x y))) hx hb dL_productByBits_8 rfl ?_
  refine va_last hx hb hK hP hD hS 0 2 rfl rfl (m_in (n := 0) (by first | assumption | omega) (by decide)) dL_productByBits_9 (fun H3 locs hP hD hS => ?_)
  have hP : va_P D vwCl [(ot, .inl (cY 2, 1, .inr (.inl (vp_updL ov 0 (Int32.toInt64 (nI (nm x y))))))), (nx, .inr (6, [.ref fd, .ref tb, .ref pr, .ref ad, .ref rd, .ref wd, .ref h, .int (nI sk)])), (fd, .inr (2, [.ref fb])), (fb, .inl (cY 0, 256, .inl (m_nf bp)))] H3 := hP
  have hD : va_D A [(ot, .inl (cY 2, 1, .inr (.inl (vp_updL ov 0 (Int32.toInt64 (nI (nm x y))))))), (nx, .inr (6, [.ref fd, .ref tb, .ref pr, .ref ad, .ref rd, .ref wd, .ref h, .int (nI sk)])), (fd, .inr (2, [.ref fb])), (fb, .inl (cY 0, 256, .inl (m_nf bp)))] := hD
  refine lv_goto (tgt := 17) hx hb dL_productByBits_10 (by decide) ?_
  refine lv_iconst (v := nI 0) hx hb dL_productByBits_17 (by decide) ?_
  subst hQ
  exact m_iret C0 hS dL_productByBits_18 (u := ()) hP (rfl)
set_option maxHeartbeats 4000000 in
set_option maxRecDepth 100000 in
theorem c_L_productByBits_x1 (l : Launch) (hfl : l.stackTraces = false) (D : va_G) (cY : Nat → ClassId) (eS : Nat → Nat) (eO : Nat) (nx fd tb pr ad rd wd h sk : Nat) (x y : Int32) (ot : Nat) (ov : Nat → Int64) (hn : ¬ (m_isN x ∧ m_isN y)) : m_Me l yL_productByBits wsL_productByBits 8 139 1 6 D cY eS eO [.ref nx, .int x, .int y, .ref ot] [(ot, .inl (cY 2, 1, .inr (.inl ov))), (nx, .inr (6, [.ref fd, .ref tb, .ref pr, .ref ad, .ref rd, .ref wd, .ref h, .int (nI sk)]))] (fun (res : Int32) (u : Unit) => res = nI 1) (fun (u : Unit) => [(ot, .inl (cY 2, 1, .inr (.inl ov))), (nx, .inr (6, [.ref fd, .ref tb, .ref pr, .ref ad, .ref rd, .ref wd, .ref h, .int (nI sk)]))]) := by
  refine m_enterEW (cc := cL_productByBits) (maxL := 5) (ret := (some .int)) (by decide +kernel) rfl (Nat.le_of_ble_eq_true rfl) ?_
  intro p e s m below meth c A ls C0 htb hE hP hD hl
  obtain ⟨hx, hb, hr, hml, hts, hown, hlocks, hK, hA⟩ := id C0
  obtain ⟨hz1, hz2, ⟨hcIO, hcIA, hcIS⟩, hdcl, ⟨hs0, hs1, hs2, hs3, hs4, hs5, hs6, hs7⟩, ⟨hn1, hn2⟩, ⟨hl0, hl1, hl2, hl3, hl4⟩, hzO, htO⟩ := id hE
  generalize hQ : MQ below _ _ s 1 6 A = Q
  have hS : va_S A s.heap s.heap [] := va_S.rf
  have hl : lv_has ls 5 [(0, .ref nx), (1, .int x), (2, .int y), (3, .ref ot)] := hl
  have hwd0 := hts (.classLink RL 15 e_IA) (by decide +kernel)
  refine lv_aload_n hx hb dL_productByBits_0 rfl (lv_at hl 3 rfl) ?_
  refine lv_iconst (v := nI 0) hx hb dL_productByBits_1 (by decide) ?_
  refine lv_aload_n hx hb dL_productByBits_2 rfl (lv_at hl 0 rfl) ?_
  refine lv_iload_n hx hb dL_productByBits_3 rfl (lv_at hl 1 rfl) ?_
  refine lv_iload_n hx hb dL_productByBits_4 rfl (lv_at hl 2 rfl) ?_
  refine m_callVc (As := [.int x, .int y]) (rest := [.int (nI 0), .ref ot]) C0 htb hE hl hP hD hS (c_X6_productByBits_x1 l hfl D cY eS eO nx fd tb pr ad rd wd h sk x y (by first | assumption | omega | exact nm_lt _ _ | exact np_lt _ _ | decide)) (cwV 2 hts gL_productByBits_X6_productByBits rfl rfl rfl (by decide +kernel) ⟨Nat.le_of_ble_eq_true rfl, Nat.le_of_ble_eq_true rfl⟩) dL_productByBits_5 [1] rfl rfl 1 rfl rfl rfl rfl (Nat.le_of_ble_eq_true rfl) (Nat.le_of_ble_eq_true rfl) (Nat.le_of_ble_eq_true rfl) (fun _ => rfl) (tableOf []) ⟨0, 10, 13, 15⟩ (tableOf []) rfl (fun z hz => by cases hz) (by decide) (by decide) hwd0 hcIA (fun q9 u H1 locs hP hD hS => ?_)
  have hP : va_P D vwCl [(ot, .inl (cY 2, 1, .inr (.inl ov))), (nx, .inr (6, [.ref fd, .ref tb, .ref pr, .ref ad, .ref rd, .ref wd, .ref h, .int (nI sk)]))] H1 := hP
  have hD : va_D A [(ot, .inl (cY 2, 1, .inr (.inl ov))), (nx, .inr (6, [.ref fd, .ref tb, .ref pr, .ref ad, .ref rd, .ref wd, .ref h, .int (nI sk)]))] := hD
  refine lv_astore (lv' := [(4, .ref q9), (0, .ref nx), (1, .int x), (2, .int y), (3, .ref ot)]) hx hb dL_productByBits_13 hl (by decide) rfl (fun ls hl => ?_)
  refine lv_iconst (v := nI 1) hx hb dL_productByBits_15 (by decide) ?_
  subst hQ
  exact m_iretC C0 hS dL_productByBits_16 (u := ()) hP (rfl)
set_option maxHeartbeats 4000000 in
set_option maxRecDepth 100000 in
theorem c_L_productByTable_ok (l : Launch) (D : va_G) (cY : Nat → ClassId) (nx fd tb pr ad rd wd h sk : Nat) (tc fr : Nat) (tf : Nat → Nat) (x y : Nat) (ot : Nat) (ov : Nat → Int64) (hxx : x < 16) (hyy : y < 16) (hfr : fr ≤ 16) (htf : n_tf fr tf) : m_Mi l yL_productByTable wsL_productByTable 4 95 D cY [.ref nx, .int (nI x), .int (nI y), .ref ot] [(ot, .inl (cY 2, 1, .inr (.inl ov))), (nx, .inr (6, [.ref fd, .ref tb, .ref pr, .ref ad, .ref rd, .ref wd, .ref h, .int (nI sk)])), (tb, .inr (1, [.ref tc, .int (nI fr)])), (tc, .inl (cY 0, 256, .inl (m_nf tf)))] (fun (res : Int32) (u : Nat × (Nat → Nat)) => (res = nI 0) ∧ (u.1 ≤ 16) ∧ (n_tf u.1 u.2)) (fun (u : Nat × (Nat → Nat)) => [(ot, .inl (cY 2, 1, .inr (.inl (vp_updL ov 0 (Int32.toInt64 (nI (nm x y))))))), (nx, .inr (6, [.ref fd, .ref tb, .ref pr, .ref ad, .ref rd, .ref wd, .ref h, .int (nI sk)])), (tb, .inr (1, [.ref tc, .int (nI u.1)])), (tc, .inl (cY 0, 256, .inl (m_nf u.2)))]) := by
  refine m_enterIW (cc := cL_productByTable) (maxL := 5) (ret := (some .int)) (by decide +kernel) rfl (Nat.le_of_ble_eq_true rfl) ?_
  intro p e s m below meth c A ls C0 hP hD hl
  obtain ⟨hx, hb, hr, hml, hts, hown, hlocks, hK, hA⟩ := id C0
  generalize hQ : MQ below _ _ s 0 0 A = Q
  have hS : va_S A s.heap s.heap [] := va_S.rf
  have hl : lv_has ls 5 [(0, .ref nx), (1, .int (nI x)), (2, .int (nI y)), (3, .ref ot)] := hl
  refine lv_aload_n hx hb dL_productByTable_0 rfl (lv_at hl 3 rfl) ?_
  refine lv_iconst (v := nI 0) hx hb dL_productByTable_1 (by decide) ?_
  refine lv_aload_n hx hb dL_productByTable_2 rfl (lv_at hl 0 rfl) ?_
  refine lv_iload_n hx hb dL_productByTable_3 rfl (lv_at hl 1 rfl) ?_
  refine lv_iload_n hx hb dL_productByTable_4 rfl (lv_at hl 2 rfl) ?_
  refine m_callVi (As := [.int (nI x), .int (nI y)]) (rest := [.int (nI 0), .ref ot]) C0 hl hP hD hS (c_X6_productByTable l D cY nx fd tb pr ad rd wd h sk tc fr tf x y (by first | assumption | omega | exact nm_lt _ _ | exact np_lt _ _ | decide) (by first | assumption | omega | exact nm_lt _ _ | exact np_lt _ _ | decide) (by first | assumption | omega | exact nm_lt _ _ | exact np_lt _ _ | decide) (by first | assumption | omega | exact nm_lt _ _ | exact np_lt _ _ | decide)) (cwV 2 hts gL_productByTable_X6_productByTable rfl rfl rfl (by decide +kernel) ⟨Nat.le_of_ble_eq_true rfl, Nat.le_of_ble_eq_true rfl⟩) dL_productByTable_5 [1, 2, 3] rfl rfl 1 rfl rfl rfl rfl (Nat.le_of_ble_eq_true rfl) (Nat.zero_le _) (Nat.zero_le _) (fun _ => rfl) (fun r4 u H1 locs hw hP hD hS => ?_)
  obtain ⟨fr9_2, tf9_3⟩ := u
  try dsimp only at hw
  obtain ⟨rfl, hq5, hq6⟩ := hw
  have hP : va_P D vwCl [(ot, .inl (cY 2, 1, .inr (.inl ov))), (nx, .inr (6, [.ref fd, .ref tb, .ref pr, .ref ad, .ref rd, .ref wd, .ref h, .int (nI sk)])), (tb, .inr (1, [.ref tc, .int (nI fr9_2)])), (tc, .inl (cY 0, 256, .inl (m_nf tf9_3)))] H1 := hP
  have hD : va_D A [(ot, .inl (cY 2, 1, .inr (.inl ov))), (nx, .inr (6, [.ref fd, .ref tb, .ref pr, .ref ad, .ref rd, .ref wd, .ref h, .int (nI sk)])), (tb, .inr (1, [.ref tc, .int (nI fr9_2)])), (tc, .inl (cY 0, 256, .inl (m_nf tf9_3)))] := hD
  refine lv_i2l (v := Int32.toInt64 (nI (nm x y))) hx hb dL_productByTable_8 rfl ?_
  refine va_last hx hb hK hP hD hS 0 2 rfl rfl (m_in (n := 0) (by first | assumption | omega) (by decide)) dL_productByTable_9 (fun H7 locs hP hD hS => ?_)
  have hP : va_P D vwCl [(ot, .inl (cY 2, 1, .inr (.inl (vp_updL ov 0 (Int32.toInt64 (nI (nm x y))))))), (nx, .inr (6, [.ref fd, .ref tb, .ref pr, .ref ad, .ref rd, .ref wd, .ref h, .int (nI sk)])), (tb, .inr (1, [.ref tc, .int (nI fr9_2)])), (tc, .inl (cY 0, 256, .inl (m_nf tf9_3)))] H7 := hP
  have hD : va_D A [(ot, .inl (cY 2, 1, .inr (.inl (vp_updL ov 0 (Int32.toInt64 (nI (nm x y))))))), (nx, .inr (6, [.ref fd, .ref tb, .ref pr, .ref ad, .ref rd, .ref wd, .ref h, .int (nI sk)])), (tb, .inr (1, [.ref tc, .int (nI fr9_2)])), (tc, .inl (cY 0, 256, .inl (m_nf tf9_3)))] := hD
  refine lv_goto (tgt := 17) hx hb dL_productByTable_10 (by decide) ?_
  refine lv_iconst (v := nI 0) hx hb dL_productByTable_17 (by decide) ?_
  subst hQ
  exact m_iret C0 hS dL_productByTable_18 (u := (fr9_2, tf9_3)) hP (⟨rfl, hq5, hq6⟩)
set_option maxHeartbeats 4000000 in
set_option maxRecDepth 100000 in
theorem c_L_productByTable_x1 (l : Launch) (hfl : l.stackTraces = false) (D : va_G) (cY : Nat → ClassId) (eS : Nat → Nat) (eO : Nat) (nx fd tb pr ad rd wd h sk : Nat) (x y : Int32) (ot : Nat) (ov : Nat → Int64) (hn : ¬ (m_inI x 0 15 ∧ m_inI y 0 15)) : m_Me l yL_productByTable wsL_productByTable 8 139 1 6 D cY eS eO [.ref nx, .int x, .int y, .ref ot] [(ot, .inl (cY 2, 1, .inr (.inl ov))), (nx, .inr (6, [.ref fd, .ref tb, .ref pr, .ref ad, .ref rd, .ref wd, .ref h, .int (nI sk)]))] (fun (res : Int32) (u : Unit) => res = nI 1) (fun (u : Unit) => [(ot, .inl (cY 2, 1, .inr (.inl ov))), (nx, .inr (6, [.ref fd, .ref tb, .ref pr, .ref ad, .ref rd, .ref wd, .ref h, .int (nI sk)]))]) := by
  refine m_enterEW (cc := cL_productByTable) (maxL := 5) (ret := (some .int)) (by decide +kernel) rfl (Nat.le_of_ble_eq_true rfl) ?_
  intro p e s m below meth c A ls C0 htb hE hP hD hl
  obtain ⟨hx, hb, hr, hml, hts, hown, hlocks, hK, hA⟩ := id C0
  obtain ⟨hz1, hz2, ⟨hcIO, hcIA, hcIS⟩, hdcl, ⟨hs0, hs1, hs2, hs3, hs4, hs5, hs6, hs7⟩, ⟨hn1, hn2⟩, ⟨hl0, hl1, hl2, hl3, hl4⟩, hzO, htO⟩ := id hE
  generalize hQ : MQ below _ _ s 1 6 A = Q
  have hS : va_S A s.heap s.heap [] := va_S.rf
  have hl : lv_has ls 5 [(0, .ref nx), (1, .int x), (2, .int y), (3, .ref ot)] := hl
  have hwd0 := hts (.classLink RL 15 e_IA) (by decide +kernel)
  refine lv_aload_n hx hb dL_productByTable_0 rfl (lv_at hl 3 rfl) ?_
  refine lv_iconst (v := nI 0) hx hb dL_productByTable_1 (by decide) ?_
  refine lv_aload_n hx hb dL_productByTable_2 rfl (lv_at hl 0 rfl) ?_
  refine lv_iload_n hx hb dL_productByTable_3 rfl (lv_at hl 1 rfl) ?_
  refine lv_iload_n hx hb dL_productByTable_4 rfl (lv_at hl 2 rfl) ?_
  refine m_callVc (As := [.int x, .int y]) (rest := [.int (nI 0), .ref ot]) C0 htb hE hl hP hD hS (c_X6_productByTable_x1 l hfl D cY eS eO nx fd tb pr ad rd wd h sk x y (by first | assumption | omega | exact nm_lt _ _ | exact np_lt _ _ | decide)) (cwV 2 hts gL_productByTable_X6_productByTable rfl rfl rfl (by decide +kernel) ⟨Nat.le_of_ble_eq_true rfl, Nat.le_of_ble_eq_true rfl⟩) dL_productByTable_5 [1] rfl rfl 1 rfl rfl rfl rfl (Nat.le_of_ble_eq_true rfl) (Nat.le_of_ble_eq_true rfl) (Nat.le_of_ble_eq_true rfl) (fun _ => rfl) (tableOf []) ⟨0, 10, 13, 15⟩ (tableOf []) rfl (fun z hz => by cases hz) (by decide) (by decide) hwd0 hcIA (fun q9 u H1 locs hP hD hS => ?_)
  have hP : va_P D vwCl [(ot, .inl (cY 2, 1, .inr (.inl ov))), (nx, .inr (6, [.ref fd, .ref tb, .ref pr, .ref ad, .ref rd, .ref wd, .ref h, .int (nI sk)]))] H1 := hP
  have hD : va_D A [(ot, .inl (cY 2, 1, .inr (.inl ov))), (nx, .inr (6, [.ref fd, .ref tb, .ref pr, .ref ad, .ref rd, .ref wd, .ref h, .int (nI sk)]))] := hD
  refine lv_astore (lv' := [(4, .ref q9), (0, .ref nx), (1, .int x), (2, .int y), (3, .ref ot)]) hx hb dL_productByTable_13 hl (by decide) rfl (fun ls hl => ?_)
  refine lv_iconst (v := nI 1) hx hb dL_productByTable_15 (by decide) ?_
  subst hQ
  exact m_iretC C0 hS dL_productByTable_16 (u := ()) hP (rfl)
set_option maxHeartbeats 4000000 in
set_option maxRecDepth 100000 in
theorem c_L_quotient_ok (l : Launch) (D : va_G) (cY : Nat → ClassId) (nx fd tb pr ad rd wd h sk : Nat) (fb : Nat) (bp : Nat → Nat) (x y : Nat) (ot : Nat) (ov : Nat → Int64) (hB : n_bp bp) (hxx : x < 65536) (hyy : y < 65536) : m_Mi l yL_quotient wsL_quotient 3 72 D cY [.ref nx, .int (nI x), .int (nI y), .ref ot] [(ot, .inl (cY 2, 1, .inr (.inl ov))), (nx, .inr (6, [.ref fd, .ref tb, .ref pr, .ref ad, .ref rd, .ref wd, .ref h, .int (nI sk)])), (fd, .inr (2, [.ref fb])), (fb, .inl (cY 0, 256, .inl (m_nf bp)))] (fun (res : Int32) (u : Unit) => res = nI 0) (fun (u : Unit) => [(ot, .inl (cY 2, 1, .inr (.inl (vp_updL ov 0 (Int32.toInt64 (n_div x y)))))), (nx, .inr (6, [.ref fd, .ref tb, .ref pr, .ref ad, .ref rd, .ref wd, .ref h, .int (nI sk)])), (fd, .inr (2, [.ref fb])), (fb, .inl (cY 0, 256, .inl (m_nf bp)))]) := by
  refine m_enterIW (cc := cL_quotient) (maxL := 5) (ret := (some .int)) (by decide +kernel) rfl (Nat.le_of_ble_eq_true rfl) ?_
  intro p e s m below meth c A ls C0 hP hD hl
  obtain ⟨hx, hb, hr, hml, hts, hown, hlocks, hK, hA⟩ := id C0
  generalize hQ : MQ below _ _ s 0 0 A = Q
  have hS : va_S A s.heap s.heap [] := va_S.rf
  have hl : lv_has ls 5 [(0, .ref nx), (1, .int (nI x)), (2, .int (nI y)), (3, .ref ot)] := hl
  refine lv_aload_n hx hb dL_quotient_0 rfl (lv_at hl 3 rfl) ?_
  refine lv_iconst (v := nI 0) hx hb dL_quotient_1 (by decide) ?_
  refine lv_aload_n hx hb dL_quotient_2 rfl (lv_at hl 0 rfl) ?_
  refine lv_iload_n hx hb dL_quotient_3 rfl (lv_at hl 1 rfl) ?_
  refine lv_iload_n hx hb dL_quotient_4 rfl (lv_at hl 2 rfl) ?_
  refine m_callVi (As := [.int (nI x), .int (nI y)]) (rest := [.int (nI 0), .ref ot]) C0 hl hP hD hS (c_X6_quotient l D cY nx fd tb pr ad rd wd h sk fb bp x y (by first | assumption | omega | exact nm_lt _ _ | exact np_lt _ _ | decide) (by first | assumption | omega | exact nm_lt _ _ | exact np_lt _ _ | decide) (by first | assumption | omega | exact nm_lt _ _ | exact np_lt _ _ | decide)) (cwV 2 hts gL_quotient_X6_quotient rfl rfl rfl (by decide +kernel) ⟨Nat.le_of_ble_eq_true rfl, Nat.le_of_ble_eq_true rfl⟩) dL_quotient_5 [1, 2, 3] rfl rfl 1 rfl rfl rfl rfl (Nat.le_of_ble_eq_true rfl) (Nat.zero_le _) (Nat.zero_le _) (fun _ => rfl) (fun r2 u H1 locs hw hP hD hS => ?_)
  try dsimp only at hw
  obtain rfl := hw
  have hP : va_P D vwCl [(ot, .inl (cY 2, 1, .inr (.inl ov))), (nx, .inr (6, [.ref fd, .ref tb, .ref pr, .ref ad, .ref rd, .ref wd, .ref h, .int (nI sk)])), (fd, .inr (2, [.ref fb])), (fb, .inl (cY 0, 256, .inl (m_nf bp)))] H1 := hP
  have hD : va_D A [(ot, .inl (cY 2, 1, .inr (.inl ov))), (nx, .inr (6, [.ref fd, .ref tb, .ref pr, .ref ad, .ref rd, .ref wd, .ref h, .int (nI sk)])), (fd, .inr (2, [.ref fb])), (fb, .inl (cY 0, 256, .inl (m_nf bp)))] := hD
  refine lv_i2l (v := Int32.toInt64 (n_div x y)) hx hb dL_quotient_8 rfl ?_
  refine va_last hx hb hK hP hD hS 0 2 rfl rfl (m_in (n := 0) (by first | assumption | omega) (by decide)) dL_quotient_9 (fun H3 locs hP hD hS => ?_)
  have hP : va_P D vwCl [(ot, .inl (cY 2, 1, .inr (.inl (vp_updL ov 0 (Int32.toInt64 (n_div x y)))))), (nx, .inr (6, [.ref fd, .ref tb, .ref pr, .ref ad, .ref rd, .ref wd, .ref h, .int (nI sk)])), (fd, .inr (2, [.ref fb])), (fb, .inl (cY 0, 256, .inl (m_nf bp)))] H3 := hP
  have hD : va_D A [(ot, .inl (cY 2, 1, .inr (.inl (vp_updL ov 0 (Int32.toInt64 (n_div x y)))))), (nx, .inr (6, [.ref fd, .ref tb, .ref pr, .ref ad, .ref rd, .ref wd, .ref h, .int (nI sk)])), (fd, .inr (2, [.ref fb])), (fb, .inl (cY 0, 256, .inl (m_nf bp)))] := hD
  refine lv_goto (tgt := 17) hx hb dL_quotient_10 (by decide) ?_
  refine lv_iconst (v := nI 0) hx hb dL_quotient_17 (by decide) ?_
  subst hQ
  exact m_iret C0 hS dL_quotient_18 (u := ()) hP (rfl)
set_option maxHeartbeats 4000000 in
set_option maxRecDepth 100000 in
theorem c_L_quotient_x1 (l : Launch) (hfl : l.stackTraces = false) (D : va_G) (cY : Nat → ClassId) (eS : Nat → Nat) (eO : Nat) (nx fd tb pr ad rd wd h sk : Nat) (x y : Int32) (ot : Nat) (ov : Nat → Int64) (hn : ¬ (m_isN x ∧ m_isN y)) : m_Me l yL_quotient wsL_quotient 8 139 1 6 D cY eS eO [.ref nx, .int x, .int y, .ref ot] [(ot, .inl (cY 2, 1, .inr (.inl ov))), (nx, .inr (6, [.ref fd, .ref tb, .ref pr, .ref ad, .ref rd, .ref wd, .ref h, .int (nI sk)]))] (fun (res : Int32) (u : Unit) => res = nI 1) (fun (u : Unit) => [(ot, .inl (cY 2, 1, .inr (.inl ov))), (nx, .inr (6, [.ref fd, .ref tb, .ref pr, .ref ad, .ref rd, .ref wd, .ref h, .int (nI sk)]))]) := by
  refine m_enterEW (cc := cL_quotient) (maxL := 5) (ret := (some .int)) (by decide +kernel) rfl (Nat.le_of_ble_eq_true rfl) ?_
  intro p e s m below meth c A ls C0 htb hE hP hD hl
  obtain ⟨hx, hb, hr, hml, hts, hown, hlocks, hK, hA⟩ := id C0
  obtain ⟨hz1, hz2, ⟨hcIO, hcIA, hcIS⟩, hdcl, ⟨hs0, hs1, hs2, hs3, hs4, hs5, hs6, hs7⟩, ⟨hn1, hn2⟩, ⟨hl0, hl1, hl2, hl3, hl4⟩, hzO, htO⟩ := id hE
  generalize hQ : MQ below _ _ s 1 6 A = Q
  have hS : va_S A s.heap s.heap [] := va_S.rf
  have hl : lv_has ls 5 [(0, .ref nx), (1, .int x), (2, .int y), (3, .ref ot)] := hl
  have hwd0 := hts (.classLink RL 15 e_IA) (by decide +kernel)
  refine lv_aload_n hx hb dL_quotient_0 rfl (lv_at hl 3 rfl) ?_
  refine lv_iconst (v := nI 0) hx hb dL_quotient_1 (by decide) ?_
  refine lv_aload_n hx hb dL_quotient_2 rfl (lv_at hl 0 rfl) ?_
  refine lv_iload_n hx hb dL_quotient_3 rfl (lv_at hl 1 rfl) ?_
  refine lv_iload_n hx hb dL_quotient_4 rfl (lv_at hl 2 rfl) ?_
  refine m_callVc (As := [.int x, .int y]) (rest := [.int (nI 0), .ref ot]) C0 htb hE hl hP hD hS (c_X6_quotient_x1 l hfl D cY eS eO nx fd tb pr ad rd wd h sk x y (by first | assumption | omega | exact nm_lt _ _ | exact np_lt _ _ | decide)) (cwV 2 hts gL_quotient_X6_quotient rfl rfl rfl (by decide +kernel) ⟨Nat.le_of_ble_eq_true rfl, Nat.le_of_ble_eq_true rfl⟩) dL_quotient_5 [1] rfl rfl 1 rfl rfl rfl rfl (Nat.le_of_ble_eq_true rfl) (Nat.le_of_ble_eq_true rfl) (Nat.le_of_ble_eq_true rfl) (fun _ => rfl) (tableOf []) ⟨0, 10, 13, 15⟩ (tableOf []) rfl (fun z hz => by cases hz) (by decide) (by decide) hwd0 hcIA (fun q9 u H1 locs hP hD hS => ?_)
  have hP : va_P D vwCl [(ot, .inl (cY 2, 1, .inr (.inl ov))), (nx, .inr (6, [.ref fd, .ref tb, .ref pr, .ref ad, .ref rd, .ref wd, .ref h, .int (nI sk)]))] H1 := hP
  have hD : va_D A [(ot, .inl (cY 2, 1, .inr (.inl ov))), (nx, .inr (6, [.ref fd, .ref tb, .ref pr, .ref ad, .ref rd, .ref wd, .ref h, .int (nI sk)]))] := hD
  refine lv_astore (lv' := [(4, .ref q9), (0, .ref nx), (1, .int x), (2, .int y), (3, .ref ot)]) hx hb dL_quotient_13 hl (by decide) rfl (fun ls hl => ?_)
  refine lv_iconst (v := nI 1) hx hb dL_quotient_15 (by decide) ?_
  subst hQ
  exact m_iretC C0 hS dL_quotient_16 (u := ()) hP (rfl)
set_option maxHeartbeats 4000000 in
set_option maxRecDepth 100000 in
theorem c_L_power_ok (l : Launch) (D : va_G) (cY : Nat → ClassId) (nx fd tb pr ad rd wd h sk : Nat) (fb : Nat) (bp : Nat → Nat) (x y : Nat) (ot : Nat) (ov : Nat → Int64) (hB : n_bp bp) (hxx : x < 65536) (hyy : y ≤ 1000000000) : m_Mi l yL_power wsL_power 3 72 D cY [.ref nx, .int (nI x), .int (nI y), .ref ot] [(ot, .inl (cY 2, 1, .inr (.inl ov))), (nx, .inr (6, [.ref fd, .ref tb, .ref pr, .ref ad, .ref rd, .ref wd, .ref h, .int (nI sk)])), (fd, .inr (2, [.ref fb])), (fb, .inl (cY 0, 256, .inl (m_nf bp)))] (fun (res : Int32) (u : Unit) => res = nI 0) (fun (u : Unit) => [(ot, .inl (cY 2, 1, .inr (.inl (vp_updL ov 0 (Int32.toInt64 (nI (np x y))))))), (nx, .inr (6, [.ref fd, .ref tb, .ref pr, .ref ad, .ref rd, .ref wd, .ref h, .int (nI sk)])), (fd, .inr (2, [.ref fb])), (fb, .inl (cY 0, 256, .inl (m_nf bp)))]) := by
  refine m_enterIW (cc := cL_power) (maxL := 5) (ret := (some .int)) (by decide +kernel) rfl (Nat.le_of_ble_eq_true rfl) ?_
  intro p e s m below meth c A ls C0 hP hD hl
  obtain ⟨hx, hb, hr, hml, hts, hown, hlocks, hK, hA⟩ := id C0
  generalize hQ : MQ below _ _ s 0 0 A = Q
  have hS : va_S A s.heap s.heap [] := va_S.rf
  have hl : lv_has ls 5 [(0, .ref nx), (1, .int (nI x)), (2, .int (nI y)), (3, .ref ot)] := hl
  refine lv_aload_n hx hb dL_power_0 rfl (lv_at hl 3 rfl) ?_
  refine lv_iconst (v := nI 0) hx hb dL_power_1 (by decide) ?_
  refine lv_aload_n hx hb dL_power_2 rfl (lv_at hl 0 rfl) ?_
  refine lv_iload_n hx hb dL_power_3 rfl (lv_at hl 1 rfl) ?_
  refine lv_iload_n hx hb dL_power_4 rfl (lv_at hl 2 rfl) ?_
  refine m_callVi (As := [.int (nI x), .int (nI y)]) (rest := [.int (nI 0), .ref ot]) C0 hl hP hD hS (c_X6_power l D cY nx fd tb pr ad rd wd h sk fb bp x y (by first | assumption | omega | exact nm_lt _ _ | exact np_lt _ _ | decide) (by first | assumption | omega | exact nm_lt _ _ | exact np_lt _ _ | decide) (by first | assumption | omega | exact nm_lt _ _ | exact np_lt _ _ | decide)) (cwV 2 hts gL_power_X6_power rfl rfl rfl (by decide +kernel) ⟨Nat.le_of_ble_eq_true rfl, Nat.le_of_ble_eq_true rfl⟩) dL_power_5 [1, 2, 3] rfl rfl 1 rfl rfl rfl rfl (Nat.le_of_ble_eq_true rfl) (Nat.zero_le _) (Nat.zero_le _) (fun _ => rfl) (fun r2 u H1 locs hw hP hD hS => ?_)
  try dsimp only at hw
  obtain rfl := hw
  have hP : va_P D vwCl [(ot, .inl (cY 2, 1, .inr (.inl ov))), (nx, .inr (6, [.ref fd, .ref tb, .ref pr, .ref ad, .ref rd, .ref wd, .ref h, .int (nI sk)])), (fd, .inr (2, [.ref fb])), (fb, .inl (cY 0, 256, .inl (m_nf bp)))] H1 := hP
  have hD : va_D A [(ot, .inl (cY 2, 1, .inr (.inl ov))), (nx, .inr (6, [.ref fd, .ref tb, .ref pr, .ref ad, .ref rd, .ref wd, .ref h, .int (nI sk)])), (fd, .inr (2, [.ref fb])), (fb, .inl (cY 0, 256, .inl (m_nf bp)))] := hD
  refine lv_i2l (v := Int32.toInt64 (nI (np x y))) hx hb dL_power_8 rfl ?_
  refine va_last hx hb hK hP hD hS 0 2 rfl rfl (m_in (n := 0) (by first | assumption | omega) (by decide)) dL_power_9 (fun H3 locs hP hD hS => ?_)
  have hP : va_P D vwCl [(ot, .inl (cY 2, 1, .inr (.inl (vp_updL ov 0 (Int32.toInt64 (nI (np x y))))))), (nx, .inr (6, [.ref fd, .ref tb, .ref pr, .ref ad, .ref rd, .ref wd, .ref h, .int (nI sk)])), (fd, .inr (2, [.ref fb])), (fb, .inl (cY 0, 256, .inl (m_nf bp)))] H3 := hP
  have hD : va_D A [(ot, .inl (cY 2, 1, .inr (.inl (vp_updL ov 0 (Int32.toInt64 (nI (np x y))))))), (nx, .inr (6, [.ref fd, .ref tb, .ref pr, .ref ad, .ref rd, .ref wd, .ref h, .int (nI sk)])), (fd, .inr (2, [.ref fb])), (fb, .inl (cY 0, 256, .inl (m_nf bp)))] := hD
  refine lv_goto (tgt := 17) hx hb dL_power_10 (by decide) ?_
  refine lv_iconst (v := nI 0) hx hb dL_power_17 (by decide) ?_
  subst hQ
  exact m_iret C0 hS dL_power_18 (u := ()) hP (rfl)
set_option maxHeartbeats 4000000 in
set_option maxRecDepth 100000 in
theorem c_L_power_x1 (l : Launch) (hfl : l.stackTraces = false) (D : va_G) (cY : Nat → ClassId) (eS : Nat → Nat) (eO : Nat) (nx fd tb pr ad rd wd h sk : Nat) (x y : Int32) (ot : Nat) (ov : Nat → Int64) (hn : ¬ (m_isN x ∧ m_inI y 0 1000000000)) : m_Me l yL_power wsL_power 8 139 1 6 D cY eS eO [.ref nx, .int x, .int y, .ref ot] [(ot, .inl (cY 2, 1, .inr (.inl ov))), (nx, .inr (6, [.ref fd, .ref tb, .ref pr, .ref ad, .ref rd, .ref wd, .ref h, .int (nI sk)]))] (fun (res : Int32) (u : Unit) => res = nI 1) (fun (u : Unit) => [(ot, .inl (cY 2, 1, .inr (.inl ov))), (nx, .inr (6, [.ref fd, .ref tb, .ref pr, .ref ad, .ref rd, .ref wd, .ref h, .int (nI sk)]))]) := by
  refine m_enterEW (cc := cL_power) (maxL := 5) (ret := (some .int)) (by decide +kernel) rfl (Nat.le_of_ble_eq_true rfl) ?_
  intro p e s m below meth c A ls C0 htb hE hP hD hl
  obtain ⟨hx, hb, hr, hml, hts, hown, hlocks, hK, hA⟩ := id C0
  obtain ⟨hz1, hz2, ⟨hcIO, hcIA, hcIS⟩, hdcl, ⟨hs0, hs1, hs2, hs3, hs4, hs5, hs6, hs7⟩, ⟨hn1, hn2⟩, ⟨hl0, hl1, hl2, hl3, hl4⟩, hzO, htO⟩ := id hE
  generalize hQ : MQ below _ _ s 1 6 A = Q
  have hS : va_S A s.heap s.heap [] := va_S.rf
  have hl : lv_has ls 5 [(0, .ref nx), (1, .int x), (2, .int y), (3, .ref ot)] := hl
  have hwd0 := hts (.classLink RL 15 e_IA) (by decide +kernel)
  refine lv_aload_n hx hb dL_power_0 rfl (lv_at hl 3 rfl) ?_
  refine lv_iconst (v := nI 0) hx hb dL_power_1 (by decide) ?_
  refine lv_aload_n hx hb dL_power_2 rfl (lv_at hl 0 rfl) ?_
  refine lv_iload_n hx hb dL_power_3 rfl (lv_at hl 1 rfl) ?_
  refine lv_iload_n hx hb dL_power_4 rfl (lv_at hl 2 rfl) ?_
  refine m_callVc (As := [.int x, .int y]) (rest := [.int (nI 0), .ref ot]) C0 htb hE hl hP hD hS (c_X6_power_x1 l hfl D cY eS eO nx fd tb pr ad rd wd h sk x y (by first | assumption | omega | exact nm_lt _ _ | exact np_lt _ _ | decide)) (cwV 2 hts gL_power_X6_power rfl rfl rfl (by decide +kernel) ⟨Nat.le_of_ble_eq_true rfl, Nat.le_of_ble_eq_true rfl⟩) dL_power_5 [1] rfl rfl 1 rfl rfl rfl rfl (Nat.le_of_ble_eq_true rfl) (Nat.le_of_ble_eq_true rfl) (Nat.le_of_ble_eq_true rfl) (fun _ => rfl) (tableOf []) ⟨0, 10, 13, 15⟩ (tableOf []) rfl (fun z hz => by cases hz) (by decide) (by decide) hwd0 hcIA (fun q9 u H1 locs hP hD hS => ?_)
  have hP : va_P D vwCl [(ot, .inl (cY 2, 1, .inr (.inl ov))), (nx, .inr (6, [.ref fd, .ref tb, .ref pr, .ref ad, .ref rd, .ref wd, .ref h, .int (nI sk)]))] H1 := hP
  have hD : va_D A [(ot, .inl (cY 2, 1, .inr (.inl ov))), (nx, .inr (6, [.ref fd, .ref tb, .ref pr, .ref ad, .ref rd, .ref wd, .ref h, .int (nI sk)]))] := hD
  refine lv_astore (lv' := [(4, .ref q9), (0, .ref nx), (1, .int x), (2, .int y), (3, .ref ot)]) hx hb dL_power_13 hl (by decide) rfl (fun ls hl => ?_)
  refine lv_iconst (v := nI 1) hx hb dL_power_15 (by decide) ?_
  subst hQ
  exact m_iretC C0 hS dL_power_16 (u := ()) hP (rfl)
set_option maxHeartbeats 4000000 in
set_option maxRecDepth 100000 in
theorem c_L_rootOf_ok (l : Launch) (D : va_G) (cY : Nat → ClassId) (nx fd tb pr ad rd wd h sk : Nat) (fb : Nat) (bp : Nat → Nat) (x : Nat) (ot : Nat) (ov : Nat → Int64) (hB : n_bp bp) (hxx : x < 65536) : m_Mi l yL_rootOf wsL_rootOf 3 67 D cY [.ref nx, .int (nI x), .ref ot] [(ot, .inl (cY 2, 1, .inr (.inl ov))), (nx, .inr (6, [.ref fd, .ref tb, .ref pr, .ref ad, .ref rd, .ref wd, .ref h, .int (nI sk)])), (fd, .inr (2, [.ref fb])), (fb, .inl (cY 0, 256, .inl (m_nf bp)))] (fun (res : Int32) (u : Unit) => res = nI 0) (fun (u : Unit) => [(ot, .inl (cY 2, 1, .inr (.inl (vp_updL ov 0 (Int32.toInt64 (nI (np x 32768))))))), (nx, .inr (6, [.ref fd, .ref tb, .ref pr, .ref ad, .ref rd, .ref wd, .ref h, .int (nI sk)])), (fd, .inr (2, [.ref fb])), (fb, .inl (cY 0, 256, .inl (m_nf bp)))]) := by
  refine m_enterIW (cc := cL_rootOf) (maxL := 4) (ret := (some .int)) (by decide +kernel) rfl (Nat.le_of_ble_eq_true rfl) ?_
  intro p e s m below meth c A ls C0 hP hD hl
  obtain ⟨hx, hb, hr, hml, hts, hown, hlocks, hK, hA⟩ := id C0
  generalize hQ : MQ below _ _ s 0 0 A = Q
  have hS : va_S A s.heap s.heap [] := va_S.rf
  have hl : lv_has ls 4 [(0, .ref nx), (1, .int (nI x)), (2, .ref ot)] := hl
  refine lv_aload_n hx hb dL_rootOf_0 rfl (lv_at hl 2 rfl) ?_
  refine lv_iconst (v := nI 0) hx hb dL_rootOf_1 (by decide) ?_
  refine lv_aload_n hx hb dL_rootOf_2 rfl (lv_at hl 0 rfl) ?_
  refine lv_iload_n hx hb dL_rootOf_3 rfl (lv_at hl 1 rfl) ?_
  refine m_callVi (As := [.int (nI x)]) (rest := [.int (nI 0), .ref ot]) C0 hl hP hD hS (c_X6_rootOf l D cY nx fd tb pr ad rd wd h sk fb bp x (by first | assumption | omega | exact nm_lt _ _ | exact np_lt _ _ | decide) (by first | assumption | omega | exact nm_lt _ _ | exact np_lt _ _ | decide)) (cwV 1 hts gL_rootOf_X6_rootOf rfl rfl rfl (by decide +kernel) ⟨Nat.le_of_ble_eq_true rfl, Nat.le_of_ble_eq_true rfl⟩) dL_rootOf_4 [1, 2, 3] rfl rfl 1 rfl rfl rfl rfl (Nat.le_of_ble_eq_true rfl) (Nat.zero_le _) (Nat.zero_le _) (fun _ => rfl) (fun r2 u H1 locs hw hP hD hS => ?_)
  try dsimp only at hw
  obtain rfl := hw
  have hP : va_P D vwCl [(ot, .inl (cY 2, 1, .inr (.inl ov))), (nx, .inr (6, [.ref fd, .ref tb, .ref pr, .ref ad, .ref rd, .ref wd, .ref h, .int (nI sk)])), (fd, .inr (2, [.ref fb])), (fb, .inl (cY 0, 256, .inl (m_nf bp)))] H1 := hP
  have hD : va_D A [(ot, .inl (cY 2, 1, .inr (.inl ov))), (nx, .inr (6, [.ref fd, .ref tb, .ref pr, .ref ad, .ref rd, .ref wd, .ref h, .int (nI sk)])), (fd, .inr (2, [.ref fb])), (fb, .inl (cY 0, 256, .inl (m_nf bp)))] := hD
  refine lv_i2l (v := Int32.toInt64 (nI (np x 32768))) hx hb dL_rootOf_7 rfl ?_
  refine va_last hx hb hK hP hD hS 0 2 rfl rfl (m_in (n := 0) (by first | assumption | omega) (by decide)) dL_rootOf_8 (fun H3 locs hP hD hS => ?_)
  have hP : va_P D vwCl [(ot, .inl (cY 2, 1, .inr (.inl (vp_updL ov 0 (Int32.toInt64 (nI (np x 32768))))))), (nx, .inr (6, [.ref fd, .ref tb, .ref pr, .ref ad, .ref rd, .ref wd, .ref h, .int (nI sk)])), (fd, .inr (2, [.ref fb])), (fb, .inl (cY 0, 256, .inl (m_nf bp)))] H3 := hP
  have hD : va_D A [(ot, .inl (cY 2, 1, .inr (.inl (vp_updL ov 0 (Int32.toInt64 (nI (np x 32768))))))), (nx, .inr (6, [.ref fd, .ref tb, .ref pr, .ref ad, .ref rd, .ref wd, .ref h, .int (nI sk)])), (fd, .inr (2, [.ref fb])), (fb, .inl (cY 0, 256, .inl (m_nf bp)))] := hD
  refine lv_goto (tgt := 15) hx hb dL_rootOf_9 (by decide) ?_
  refine lv_iconst (v := nI 0) hx hb dL_rootOf_15 (by decide) ?_
  subst hQ
  exact m_iret C0 hS dL_rootOf_16 (u := ()) hP (rfl)
set_option maxHeartbeats 4000000 in
set_option maxRecDepth 100000 in
theorem c_L_rootOf_x1 (l : Launch) (hfl : l.stackTraces = false) (D : va_G) (cY : Nat → ClassId) (eS : Nat → Nat) (eO : Nat) (nx fd tb pr ad rd wd h sk : Nat) (x : Int32) (ot : Nat) (ov : Nat → Int64) (hn : ¬ m_isN x) : m_Me l yL_rootOf wsL_rootOf 8 138 1 6 D cY eS eO [.ref nx, .int x, .ref ot] [(ot, .inl (cY 2, 1, .inr (.inl ov))), (nx, .inr (6, [.ref fd, .ref tb, .ref pr, .ref ad, .ref rd, .ref wd, .ref h, .int (nI sk)]))] (fun (res : Int32) (u : Unit) => res = nI 1) (fun (u : Unit) => [(ot, .inl (cY 2, 1, .inr (.inl ov))), (nx, .inr (6, [.ref fd, .ref tb, .ref pr, .ref ad, .ref rd, .ref wd, .ref h, .int (nI sk)]))]) := by
  refine m_enterEW (cc := cL_rootOf) (maxL := 4) (ret := (some .int)) (by decide +kernel) rfl (Nat.le_of_ble_eq_true rfl) ?_
  intro p e s m below meth c A ls C0 htb hE hP hD hl
  obtain ⟨hx, hb, hr, hml, hts, hown, hlocks, hK, hA⟩ := id C0
  obtain ⟨hz1, hz2, ⟨hcIO, hcIA, hcIS⟩, hdcl, ⟨hs0, hs1, hs2, hs3, hs4, hs5, hs6, hs7⟩, ⟨hn1, hn2⟩, ⟨hl0, hl1, hl2, hl3, hl4⟩, hzO, htO⟩ := id hE
  generalize hQ : MQ below _ _ s 1 6 A = Q
  have hS : va_S A s.heap s.heap [] := va_S.rf
  have hl : lv_has ls 4 [(0, .ref nx), (1, .int x), (2, .ref ot)] := hl
  have hwd0 := hts (.classLink RL 15 e_IA) (by decide +kernel)
  refine lv_aload_n hx hb dL_rootOf_0 rfl (lv_at hl 2 rfl) ?_
  refine lv_iconst (v := nI 0) hx hb dL_rootOf_1 (by decide) ?_
  refine lv_aload_n hx hb dL_rootOf_2 rfl (lv_at hl 0 rfl) ?_
  refine lv_iload_n hx hb dL_rootOf_3 rfl (lv_at hl 1 rfl) ?_
  refine m_callVc (As := [.int x]) (rest := [.int (nI 0), .ref ot]) C0 htb hE hl hP hD hS (c_X6_rootOf_x1 l hfl D cY eS eO nx fd tb pr ad rd wd h sk x (by first | assumption | omega | exact nm_lt _ _ | exact np_lt _ _ | decide)) (cwV 1 hts gL_rootOf_X6_rootOf rfl rfl rfl (by decide +kernel) ⟨Nat.le_of_ble_eq_true rfl, Nat.le_of_ble_eq_true rfl⟩) dL_rootOf_4 [1] rfl rfl 1 rfl rfl rfl rfl (Nat.le_of_ble_eq_true rfl) (Nat.le_of_ble_eq_true rfl) (Nat.le_of_ble_eq_true rfl) (fun _ => rfl) (tableOf []) ⟨0, 9, 12, 15⟩ (tableOf []) rfl (fun z hz => by cases hz) (by decide) (by decide) hwd0 hcIA (fun q9 u H1 locs hP hD hS => ?_)
  have hP : va_P D vwCl [(ot, .inl (cY 2, 1, .inr (.inl ov))), (nx, .inr (6, [.ref fd, .ref tb, .ref pr, .ref ad, .ref rd, .ref wd, .ref h, .int (nI sk)]))] H1 := hP
  have hD : va_D A [(ot, .inl (cY 2, 1, .inr (.inl ov))), (nx, .inr (6, [.ref fd, .ref tb, .ref pr, .ref ad, .ref rd, .ref wd, .ref h, .int (nI sk)]))] := hD
  refine lv_astore_n (lv' := [(3, .ref q9), (0, .ref nx), (1, .int x), (2, .ref ot)]) hx hb dL_rootOf_12 rfl hl (by decide) rfl (fun ls hl => ?_)
  refine lv_iconst (v := nI 1) hx hb dL_rootOf_13 (by decide) ?_
  subst hQ
  exact m_iretC C0 hS dL_rootOf_14 (u := ()) hP (rfl)
set_option maxHeartbeats 4000000 in
set_option maxRecDepth 100000 in
theorem c_L_fieldOf_ok (l : Launch) (D : va_G) (cY : Nat → ClassId) (nx fd tb pr ad rd wd h sk : Nat) (x : Nat) (ot : Nat) (ov : Nat → Int64) (hxx : x < 65536) : m_Mi l yL_fieldOf wsL_fieldOf 2 43 D cY [.ref nx, .int (nI x), .ref ot] [(ot, .inl (cY 2, 1, .inr (.inl ov))), (nx, .inr (6, [.ref fd, .ref tb, .ref pr, .ref ad, .ref rd, .ref wd, .ref h, .int (nI sk)]))] (fun (res : Int32) (u : Unit) => res = nI 0) (fun (u : Unit) => [(ot, .inl (cY 2, 1, .inr (.inl (vp_updL ov 0 (Int32.toInt64 (nI (n_fld x))))))), (nx, .inr (6, [.ref fd, .ref tb, .ref pr, .ref ad, .ref rd, .ref wd, .ref h, .int (nI sk)]))]) := by
  refine m_enterIW (cc := cL_fieldOf) (maxL := 4) (ret := (some .int)) (by decide +kernel) rfl (Nat.le_of_ble_eq_true rfl) ?_
  intro p e s m below meth c A ls C0 hP hD hl
  obtain ⟨hx, hb, hr, hml, hts, hown, hlocks, hK, hA⟩ := id C0
  generalize hQ : MQ below _ _ s 0 0 A = Q
  have hS : va_S A s.heap s.heap [] := va_S.rf
  have hl : lv_has ls 4 [(0, .ref nx), (1, .int (nI x)), (2, .ref ot)] := hl
  refine lv_aload_n hx hb dL_fieldOf_0 rfl (lv_at hl 2 rfl) ?_
  refine lv_iconst (v := nI 0) hx hb dL_fieldOf_1 (by decide) ?_
  refine lv_aload_n hx hb dL_fieldOf_2 rfl (lv_at hl 0 rfl) ?_
  refine lv_iload_n hx hb dL_fieldOf_3 rfl (lv_at hl 1 rfl) ?_
  refine m_callVi (As := [.int (nI x)]) (rest := [.int (nI 0), .ref ot]) C0 hl hP hD hS (c_X6_fieldOf l D cY nx fd tb pr ad rd wd h sk x (by first | assumption | omega | exact nm_lt _ _ | exact np_lt _ _ | decide)) (cwV 1 hts gL_fieldOf_X6_fieldOf rfl rfl rfl (by decide +kernel) ⟨Nat.le_of_ble_eq_true rfl, Nat.le_of_ble_eq_true rfl⟩) dL_fieldOf_4 [1] rfl rfl 1 rfl rfl rfl rfl (Nat.le_of_ble_eq_true rfl) (Nat.zero_le _) (Nat.zero_le _) (fun _ => rfl) (fun r2 u H1 locs hw hP hD hS => ?_)
  try dsimp only at hw
  obtain rfl := hw
  have hP : va_P D vwCl [(ot, .inl (cY 2, 1, .inr (.inl ov))), (nx, .inr (6, [.ref fd, .ref tb, .ref pr, .ref ad, .ref rd, .ref wd, .ref h, .int (nI sk)]))] H1 := hP
  have hD : va_D A [(ot, .inl (cY 2, 1, .inr (.inl ov))), (nx, .inr (6, [.ref fd, .ref tb, .ref pr, .ref ad, .ref rd, .ref wd, .ref h, .int (nI sk)]))] := hD
  refine lv_i2l (v := Int32.toInt64 (nI (n_fld x))) hx hb dL_fieldOf_7 rfl ?_
  refine va_last hx hb hK hP hD hS 0 2 rfl rfl (m_in (n := 0) (by first | assumption | omega) (by decide)) dL_fieldOf_8 (fun H3 locs hP hD hS => ?_)
  have hP : va_P D vwCl [(ot, .inl (cY 2, 1, .inr (.inl (vp_updL ov 0 (Int32.toInt64 (nI (n_fld x))))))), (nx, .inr (6, [.ref fd, .ref tb, .ref pr, .ref ad, .ref rd, .ref wd, .ref h, .int (nI sk)]))] H3 := hP
  have hD : va_D A [(ot, .inl (cY 2, 1, .inr (.inl (vp_updL ov 0 (Int32.toInt64 (nI (n_fld x))))))), (nx, .inr (6, [.ref fd, .ref tb, .ref pr, .ref ad, .ref rd, .ref wd, .ref h, .int (nI sk)]))] := hD
  refine lv_goto (tgt := 15) hx hb dL_fieldOf_9 (by decide) ?_
  refine lv_iconst (v := nI 0) hx hb dL_fieldOf_15 (by decide) ?_
  subst hQ
  exact m_iret C0 hS dL_fieldOf_16 (u := ()) hP (rfl)
set_option maxHeartbeats 4000000 in
set_option maxRecDepth 100000 in
theorem c_L_fieldOf_x1 (l : Launch) (hfl : l.stackTraces = false) (D : va_G) (cY : Nat → ClassId) (eS : Nat → Nat) (eO : Nat) (nx fd tb pr ad rd wd h sk : Nat) (x : Int32) (ot : Nat) (ov : Nat → Int64) (hn : ¬ m_isN x) : m_Me l yL_fieldOf wsL_fieldOf 8 139 1 6 D cY eS eO [.ref nx, .int x, .ref ot] [(ot, .inl (cY 2, 1, .inr (.inl ov))), (nx, .inr (6, [.ref fd, .ref tb, .ref pr, .ref ad, .ref rd, .ref wd, .ref h, .int (nI sk)]))] (fun (res : Int32) (u : Unit) => res = nI 1) (fun (u : Unit) => [(ot, .inl (cY 2, 1, .inr (.inl ov))), (nx, .inr (6, [.ref fd, .ref tb, .ref pr, .ref ad, .ref rd, .ref wd, .ref h, .int (nI sk)]))]) := by
  refine m_enterEW (cc := cL_fieldOf) (maxL := 4) (ret := (some .int)) (by decide +kernel) rfl (Nat.le_of_ble_eq_true rfl) ?_
  intro p e s m below meth c A ls C0 htb hE hP hD hl
  obtain ⟨hx, hb, hr, hml, hts, hown, hlocks, hK, hA⟩ := id C0
  obtain ⟨hz1, hz2, ⟨hcIO, hcIA, hcIS⟩, hdcl, ⟨hs0, hs1, hs2, hs3, hs4, hs5, hs6, hs7⟩, ⟨hn1, hn2⟩, ⟨hl0, hl1, hl2, hl3, hl4⟩, hzO, htO⟩ := id hE
  generalize hQ : MQ below _ _ s 1 6 A = Q
  have hS : va_S A s.heap s.heap [] := va_S.rf
  have hl : lv_has ls 4 [(0, .ref nx), (1, .int x), (2, .ref ot)] := hl
  have hwd0 := hts (.classLink RL 15 e_IA) (by decide +kernel)
  refine lv_aload_n hx hb dL_fieldOf_0 rfl (lv_at hl 2 rfl) ?_
  refine lv_iconst (v := nI 0) hx hb dL_fieldOf_1 (by decide) ?_
  refine lv_aload_n hx hb dL_fieldOf_2 rfl (lv_at hl 0 rfl) ?_
  refine lv_iload_n hx hb dL_fieldOf_3 rfl (lv_at hl 1 rfl) ?_
  refine m_callVc (As := [.int x]) (rest := [.int (nI 0), .ref ot]) C0 htb hE hl hP hD hS (c_X6_fieldOf_x1 l hfl D cY eS eO nx fd tb pr ad rd wd h sk x (by first | assumption | omega | exact nm_lt _ _ | exact np_lt _ _ | decide)) (cwV 1 hts gL_fieldOf_X6_fieldOf rfl rfl rfl (by decide +kernel) ⟨Nat.le_of_ble_eq_true rfl, Nat.le_of_ble_eq_true rfl⟩) dL_fieldOf_4 [1] rfl rfl 1 rfl rfl rfl rfl (Nat.le_of_ble_eq_true rfl) (Nat.le_of_ble_eq_true rfl) (Nat.le_of_ble_eq_true rfl) (fun _ => rfl) (tableOf []) ⟨0, 9, 12, 15⟩ (tableOf []) rfl (fun z hz => by cases hz) (by decide) (by decide) hwd0 hcIA (fun q9 u H1 locs hP hD hS => ?_)
  have hP : va_P D vwCl [(ot, .inl (cY 2, 1, .inr (.inl ov))), (nx, .inr (6, [.ref fd, .ref tb, .ref pr, .ref ad, .ref rd, .ref wd, .ref h, .int (nI sk)]))] H1 := hP
  have hD : va_D A [(ot, .inl (cY 2, 1, .inr (.inl ov))), (nx, .inr (6, [.ref fd, .ref tb, .ref pr, .ref ad, .ref rd, .ref wd, .ref h, .int (nI sk)]))] := hD
  refine lv_astore_n (lv' := [(3, .ref q9), (0, .ref nx), (1, .int x), (2, .ref ot)]) hx hb dL_fieldOf_12 rfl hl (by decide) rfl (fun ls hl => ?_)
  refine lv_iconst (v := nI 1) hx hb dL_fieldOf_13 (by decide) ?_
  subst hQ
  exact m_iretC C0 hS dL_fieldOf_14 (u := ()) hP (rfl)
set_option maxHeartbeats 4000000 in
set_option maxRecDepth 100000 in
theorem c_L_orderByPowers_ok (l : Launch) (D : va_G) (cY : Nat → ClassId) (nx fd tb pr ad rd wd h sk : Nat) (fb : Nat) (bp : Nat → Nat) (x : Nat) (ot : Nat) (ov : Nat → Int64) (hB : n_bp bp) (hxx : x < 256) : m_Mi l yL_orderByPowers wsL_orderByPowers 3 69 D cY [.ref nx, .int (nI x), .ref ot] [(ot, .inl (cY 2, 1, .inr (.inl ov))), (nx, .inr (6, [.ref fd, .ref tb, .ref pr, .ref ad, .ref rd, .ref wd, .ref h, .int (nI sk)])), (fd, .inr (2, [.ref fb])), (fb, .inl (cY 0, 256, .inl (m_nf bp)))] (fun (res : Int32) (u : Unit) => res = nI 0) (fun (u : Unit) => [(ot, .inl (cY 2, 1, .inr (.inl (vp_updL ov 0 (Int32.toInt64 (n_ord x)))))), (nx, .inr (6, [.ref fd, .ref tb, .ref pr, .ref ad, .ref rd, .ref wd, .ref h, .int (nI sk)])), (fd, .inr (2, [.ref fb])), (fb, .inl (cY 0, 256, .inl (m_nf bp)))]) := by
  refine m_enterIW (cc := cL_orderByPowers) (maxL := 4) (ret := (some .int)) (by decide +kernel) rfl (Nat.le_of_ble_eq_true rfl) ?_
  intro p e s m below meth c A ls C0 hP hD hl
  obtain ⟨hx, hb, hr, hml, hts, hown, hlocks, hK, hA⟩ := id C0
  generalize hQ : MQ below _ _ s 0 0 A = Q
  have hS : va_S A s.heap s.heap [] := va_S.rf
  have hl : lv_has ls 4 [(0, .ref nx), (1, .int (nI x)), (2, .ref ot)] := hl
  refine lv_aload_n hx hb dL_orderByPowers_0 rfl (lv_at hl 2 rfl) ?_
  refine lv_iconst (v := nI 0) hx hb dL_orderByPowers_1 (by decide) ?_
  refine lv_aload_n hx hb dL_orderByPowers_2 rfl (lv_at hl 0 rfl) ?_
  refine lv_iload_n hx hb dL_orderByPowers_3 rfl (lv_at hl 1 rfl) ?_
  refine m_callVi (As := [.int (nI x)]) (rest := [.int (nI 0), .ref ot]) C0 hl hP hD hS (c_X6_orderByPowers l D cY nx fd tb pr ad rd wd h sk fb bp x (by first | assumption | omega | exact nm_lt _ _ | exact np_lt _ _ | decide) (by first | assumption | omega | exact nm_lt _ _ | exact np_lt _ _ | decide)) (cwV 1 hts gL_orderByPowers_X6_orderByPowers rfl rfl rfl (by decide +kernel) ⟨Nat.le_of_ble_eq_true rfl, Nat.le_of_ble_eq_true rfl⟩) dL_orderByPowers_4 [1, 2, 3] rfl rfl 1 rfl rfl rfl rfl (Nat.le_of_ble_eq_true rfl) (Nat.zero_le _) (Nat.zero_le _) (fun _ => rfl) (fun r2 u H1 locs hw hP hD hS => ?_)
  try dsimp only at hw
  obtain rfl := hw
  have hP : va_P D vwCl [(ot, .inl (cY 2, 1, .inr (.inl ov))), (nx, .inr (6, [.ref fd, .ref tb, .ref pr, .ref ad, .ref rd, .ref wd, .ref h, .int (nI sk)])), (fd, .inr (2, [.ref fb])), (fb, .inl (cY 0, 256, .inl (m_nf bp)))] H1 := hP
  have hD : va_D A [(ot, .inl (cY 2, 1, .inr (.inl ov))), (nx, .inr (6, [.ref fd, .ref tb, .ref pr, .ref ad, .ref rd, .ref wd, .ref h, .int (nI sk)])), (fd, .inr (2, [.ref fb])), (fb, .inl (cY 0, 256, .inl (m_nf bp)))] := hD
  refine lv_i2l (v := Int32.toInt64 (n_ord x)) hx hb dL_orderByPowers_7 rfl ?_
  refine va_last hx hb hK hP hD hS 0 2 rfl rfl (m_in (n := 0) (by first | assumption | omega) (by decide)) dL_orderByPowers_8 (fun H3 locs hP hD hS => ?_)
  have hP : va_P D vwCl [(ot, .inl (cY 2, 1, .inr (.inl (vp_updL ov 0 (Int32.toInt64 (n_ord x)))))), (nx, .inr (6, [.ref fd, .ref tb, .ref pr, .ref ad, .ref rd, .ref wd, .ref h, .int (nI sk)])), (fd, .inr (2, [.ref fb])), (fb, .inl (cY 0, 256, .inl (m_nf bp)))] H3 := hP
  have hD : va_D A [(ot, .inl (cY 2, 1, .inr (.inl (vp_updL ov 0 (Int32.toInt64 (n_ord x)))))), (nx, .inr (6, [.ref fd, .ref tb, .ref pr, .ref ad, .ref rd, .ref wd, .ref h, .int (nI sk)])), (fd, .inr (2, [.ref fb])), (fb, .inl (cY 0, 256, .inl (m_nf bp)))] := hD
  refine lv_goto (tgt := 15) hx hb dL_orderByPowers_9 (by decide) ?_
  refine lv_iconst (v := nI 0) hx hb dL_orderByPowers_15 (by decide) ?_
  subst hQ
  exact m_iret C0 hS dL_orderByPowers_16 (u := ()) hP (rfl)
set_option maxHeartbeats 4000000 in
set_option maxRecDepth 100000 in
theorem c_L_orderByPowers_x1 (l : Launch) (hfl : l.stackTraces = false) (D : va_G) (cY : Nat → ClassId) (eS : Nat → Nat) (eO : Nat) (nx fd tb pr ad rd wd h sk : Nat) (x : Int32) (ot : Nat) (ov : Nat → Int64) (hn : ¬ m_inI x 0 255) : m_Me l yL_orderByPowers wsL_orderByPowers 8 138 1 6 D cY eS eO [.ref nx, .int x, .ref ot] [(ot, .inl (cY 2, 1, .inr (.inl ov))), (nx, .inr (6, [.ref fd, .ref tb, .ref pr, .ref ad, .ref rd, .ref wd, .ref h, .int (nI sk)]))] (fun (res : Int32) (u : Unit) => res = nI 1) (fun (u : Unit) => [(ot, .inl (cY 2, 1, .inr (.inl ov))), (nx, .inr (6, [.ref fd, .ref tb, .ref pr, .ref ad, .ref rd, .ref wd, .ref h, .int (nI sk)]))]) := by
  refine m_enterEW (cc := cL_orderByPowers) (maxL := 4) (ret := (some .int)) (by decide +kernel) rfl (Nat.le_of_ble_eq_true rfl) ?_
  intro p e s m below meth c A ls C0 htb hE hP hD hl
  obtain ⟨hx, hb, hr, hml, hts, hown, hlocks, hK, hA⟩ := id C0
  obtain ⟨hz1, hz2, ⟨hcIO, hcIA, hcIS⟩, hdcl, ⟨hs0, hs1, hs2, hs3, hs4, hs5, hs6, hs7⟩, ⟨hn1, hn2⟩, ⟨hl0, hl1, hl2, hl3, hl4⟩, hzO, htO⟩ := id hE
  generalize hQ : MQ below _ _ s 1 6 A = Q
  have hS : va_S A s.heap s.heap [] := va_S.rf
  have hl : lv_has ls 4 [(0, .ref nx), (1, .int x), (2, .ref ot)] := hl
  have hwd0 := hts (.classLink RL 15 e_IA) (by decide +kernel)
  refine lv_aload_n hx hb dL_orderByPowers_0 rfl (lv_at hl 2 rfl) ?_
  refine lv_iconst (v := nI 0) hx hb dL_orderByPowers_1 (by decide) ?_
  refine lv_aload_n hx hb dL_orderByPowers_2 rfl (lv_at hl 0 rfl) ?_
  refine lv_iload_n hx hb dL_orderByPowers_3 rfl (lv_at hl 1 rfl) ?_
  refine m_callVc (As := [.int x]) (rest := [.int (nI 0), .ref ot]) C0 htb hE hl hP hD hS (c_X6_orderByPowers_x1 l hfl D cY eS eO nx fd tb pr ad rd wd h sk x (by first | assumption | omega | exact nm_lt _ _ | exact np_lt _ _ | decide)) (cwV 1 hts gL_orderByPowers_X6_orderByPowers rfl rfl rfl (by decide +kernel) ⟨Nat.le_of_ble_eq_true rfl, Nat.le_of_ble_eq_true rfl⟩) dL_orderByPowers_4 [1] rfl rfl 1 rfl rfl rfl rfl (Nat.le_of_ble_eq_true rfl) (Nat.le_of_ble_eq_true rfl) (Nat.le_of_ble_eq_true rfl) (fun _ => rfl) (tableOf []) ⟨0, 9, 12, 15⟩ (tableOf []) rfl (fun z hz => by cases hz) (by decide) (by decide) hwd0 hcIA (fun q9 u H1 locs hP hD hS => ?_)
  have hP : va_P D vwCl [(ot, .inl (cY 2, 1, .inr (.inl ov))), (nx, .inr (6, [.ref fd, .ref tb, .ref pr, .ref ad, .ref rd, .ref wd, .ref h, .int (nI sk)]))] H1 := hP
  have hD : va_D A [(ot, .inl (cY 2, 1, .inr (.inl ov))), (nx, .inr (6, [.ref fd, .ref tb, .ref pr, .ref ad, .ref rd, .ref wd, .ref h, .int (nI sk)]))] := hD
  refine lv_astore_n (lv' := [(3, .ref q9), (0, .ref nx), (1, .int x), (2, .ref ot)]) hx hb dL_orderByPowers_12 rfl hl (by decide) rfl (fun ls hl => ?_)
  refine lv_iconst (v := nI 1) hx hb dL_orderByPowers_13 (by decide) ?_
  subst hQ
  exact m_iretC C0 hS dL_orderByPowers_14 (u := ()) hP (rfl)
set_option maxHeartbeats 4000000 in
set_option maxRecDepth 100000 in
theorem c_L_orderByDivisors_ok (l : Launch) (hfl : l.stackTraces = false) (D : va_G) (cY : Nat → ClassId) (eS : Nat → Nat) (eO : Nat) (nx fd tb pr ad rd wd h sk : Nat) (fb : Nat) (bp : Nat → Nat) (x : Nat) (ot : Nat) (ov : Nat → Int64) (hB : n_bp bp) (hxx : x < 65536) : m_Me l yL_orderByDivisors wsL_orderByDivisors 4 97 0 0 D cY eS eO [.ref nx, .int (nI x), .ref ot] [(ot, .inl (cY 2, 1, .inr (.inl ov))), (nx, .inr (6, [.ref fd, .ref tb, .ref pr, .ref ad, .ref rd, .ref wd, .ref h, .int (nI sk)])), (fd, .inr (2, [.ref fb])), (fb, .inl (cY 0, 256, .inl (m_nf bp)))] (fun (res : Int32) (u : Unit) => res = nI 0) (fun (u : Unit) => [(ot, .inl (cY 2, 1, .inr (.inl (vp_updL ov 0 (Int32.toInt64 (n_ord x)))))), (nx, .inr (6, [.ref fd, .ref tb, .ref pr, .ref ad, .ref rd, .ref wd, .ref h, .int (nI sk)])), (fd, .inr (2, [.ref fb])), (fb, .inl (cY 0, 256, .inl (m_nf bp)))]) := by
  refine m_enterEW (cc := cL_orderByDivisors) (maxL := 4) (ret := (some .int)) (by decide +kernel) rfl (Nat.le_of_ble_eq_true rfl) ?_
  intro p e s m below meth c A ls C0 htb hE hP hD hl
  obtain ⟨hx, hb, hr, hml, hts, hown, hlocks, hK, hA⟩ := id C0
  obtain ⟨hz1, hz2, ⟨hcIO, hcIA, hcIS⟩, hdcl, ⟨hs0, hs1, hs2, hs3, hs4, hs5, hs6, hs7⟩, ⟨hn1, hn2⟩, ⟨hl0, hl1, hl2, hl3, hl4⟩, hzO, htO⟩ := id hE
  generalize hQ : MQ below _ _ s 0 0 A = Q
  have hS : va_S A s.heap s.heap [] := va_S.rf
  have hl : lv_has ls 4 [(0, .ref nx), (1, .int (nI x)), (2, .ref ot)] := hl
  refine lv_aload_n hx hb dL_orderByDivisors_0 rfl (lv_at hl 2 rfl) ?_
  refine lv_iconst (v := nI 0) hx hb dL_orderByDivisors_1 (by decide) ?_
  refine lv_aload_n hx hb dL_orderByDivisors_2 rfl (lv_at hl 0 rfl) ?_
  refine lv_iload_n hx hb dL_orderByDivisors_3 rfl (lv_at hl 1 rfl) ?_
  refine m_callVe (As := [.int (nI x)]) (rest := [.int (nI 0), .ref ot]) C0 hE hl hP hD hS (c_X6_orderByDivisors l hfl D cY eS eO nx fd tb pr ad rd wd h sk fb bp x (by first | assumption | omega | exact nm_lt _ _ | exact np_lt _ _ | decide) (by first | assumption | omega | exact nm_lt _ _ | exact np_lt _ _ | decide)) (cwV 1 hts gL_orderByDivisors_X6_orderByDivisors rfl rfl rfl (by decide +kernel) ⟨Nat.le_of_ble_eq_true rfl, Nat.le_of_ble_eq_true rfl⟩) dL_orderByDivisors_4 [1, 2, 3] rfl rfl 1 rfl rfl rfl rfl (Nat.le_of_ble_eq_true rfl) (Nat.zero_le _) (Nat.zero_le _) (fun _ => rfl) (fun r2 u H1 locs hw hP hD hS => ?_)
  try dsimp only at hw
  obtain rfl := hw
  have hP : va_P D vwCl [(ot, .inl (cY 2, 1, .inr (.inl ov))), (nx, .inr (6, [.ref fd, .ref tb, .ref pr, .ref ad, .ref rd, .ref wd, .ref h, .int (nI sk)])), (fd, .inr (2, [.ref fb])), (fb, .inl (cY 0, 256, .inl (m_nf bp)))] H1 := hP
  have hD : va_D A [(ot, .inl (cY 2, 1, .inr (.inl ov))), (nx, .inr (6, [.ref fd, .ref tb, .ref pr, .ref ad, .ref rd, .ref wd, .ref h, .int (nI sk)])), (fd, .inr (2, [.ref fb])), (fb, .inl (cY 0, 256, .inl (m_nf bp)))] := hD
  refine lv_i2l (v := Int32.toInt64 (n_ord x)) hx hb dL_orderByDivisors_7 rfl ?_
  refine va_last hx hb hK hP hD hS 0 2 rfl rfl (m_in (n := 0) (by first | assumption | omega) (by decide)) dL_orderByDivisors_8 (fun H3 locs hP hD hS => ?_)
  have hP : va_P D vwCl [(ot, .inl (cY 2, 1, .inr (.inl (vp_updL ov 0 (Int32.toInt64 (n_ord x)))))), (nx, .inr (6, [.ref fd, .ref tb, .ref pr, .ref ad, .ref rd, .ref wd, .ref h, .int (nI sk)])), (fd, .inr (2, [.ref fb])), (fb, .inl (cY 0, 256, .inl (m_nf bp)))] H3 := hP
  have hD : va_D A [(ot, .inl (cY 2, 1, .inr (.inl (vp_updL ov 0 (Int32.toInt64 (n_ord x)))))), (nx, .inr (6, [.ref fd, .ref tb, .ref pr, .ref ad, .ref rd, .ref wd, .ref h, .int (nI sk)])), (fd, .inr (2, [.ref fb])), (fb, .inl (cY 0, 256, .inl (m_nf bp)))] := hD
  refine lv_goto (tgt := 15) hx hb dL_orderByDivisors_9 (by decide) ?_
  refine lv_iconst (v := nI 0) hx hb dL_orderByDivisors_15 (by decide) ?_
  subst hQ
  exact m_iret C0 hS dL_orderByDivisors_16 (u := ()) hP (rfl)
set_option maxHeartbeats 4000000 in
set_option maxRecDepth 100000 in
theorem c_L_orderByDivisors_x1 (l : Launch) (hfl : l.stackTraces = false) (D : va_G) (cY : Nat → ClassId) (eS : Nat → Nat) (eO : Nat) (nx fd tb pr ad rd wd h sk : Nat) (x : Int32) (ot : Nat) (ov : Nat → Int64) (hn : ¬ m_isN x) : m_Me l yL_orderByDivisors wsL_orderByDivisors 8 138 1 6 D cY eS eO [.ref nx, .int x, .ref ot] [(ot, .inl (cY 2, 1, .inr (.inl ov))), (nx, .inr (6, [.ref fd, .ref tb, .ref pr, .ref ad, .ref rd, .ref wd, .ref h, .int (nI sk)]))] (fun (res : Int32) (u : Unit) => res = nI 1) (fun (u : Unit) => [(ot, .inl (cY 2, 1, .inr (.inl ov))), (nx, .inr (6, [.ref fd, .ref tb, .ref pr, .ref ad, .ref rd, .ref wd, .ref h, .int (nI sk)]))]) := by
  refine m_enterEW (cc := cL_orderByDivisors) (maxL := 4) (ret := (some .int)) (by decide +kernel) rfl (Nat.le_of_ble_eq_true rfl) ?_
  intro p e s m below meth c A ls C0 htb hE hP hD hl
  obtain ⟨hx, hb, hr, hml, hts, hown, hlocks, hK, hA⟩ := id C0
  obtain ⟨hz1, hz2, ⟨hcIO, hcIA, hcIS⟩, hdcl, ⟨hs0, hs1, hs2, hs3, hs4, hs5, hs6, hs7⟩, ⟨hn1, hn2⟩, ⟨hl0, hl1, hl2, hl3, hl4⟩, hzO, htO⟩ := id hE
  generalize hQ : MQ below _ _ s 1 6 A = Q
  have hS : va_S A s.heap s.heap [] := va_S.rf
  have hl : lv_has ls 4 [(0, .ref nx), (1, .int x), (2, .ref ot)] := hl
  have hwd0 := hts (.classLink RL 15 e_IA) (by decide +kernel)
  refine lv_aload_n hx hb dL_orderByDivisors_0 rfl (lv_at hl 2 rfl) ?_
  refine lv_iconst (v := nI 0) hx hb dL_orderByDivisors_1 (by decide) ?_
  refine lv_aload_n hx hb dL_orderByDivisors_2 rfl (lv_at hl 0 rfl) ?_
  refine lv_iload_n hx hb dL_orderByDivisors_3 rfl (lv_at hl 1 rfl) ?_
  refine m_callVc (As := [.int x]) (rest := [.int (nI 0), .ref ot]) C0 htb hE hl hP hD hS (c_X6_orderByDivisors_x1 l hfl D cY eS eO nx fd tb pr ad rd wd h sk x (by first | assumption | omega | exact nm_lt _ _ | exact np_lt _ _ | decide)) (cwV 1 hts gL_orderByDivisors_X6_orderByDivisors rfl rfl rfl (by decide +kernel) ⟨Nat.le_of_ble_eq_true rfl, Nat.le_of_ble_eq_true rfl⟩) dL_orderByDivisors_4 [1] rfl rfl 1 rfl rfl rfl rfl (Nat.le_of_ble_eq_true rfl) (Nat.le_of_ble_eq_true rfl) (Nat.le_of_ble_eq_true rfl) (fun _ => rfl) (tableOf []) ⟨0, 9, 12, 15⟩ (tableOf []) rfl (fun z hz => by cases hz) (by decide) (by decide) hwd0 hcIA (fun q9 u H1 locs hP hD hS => ?_)
  have hP : va_P D vwCl [(ot, .inl (cY 2, 1, .inr (.inl ov))), (nx, .inr (6, [.ref fd, .ref tb, .ref pr, .ref ad, .ref rd, .ref wd, .ref h, .int (nI sk)]))] H1 := hP
  have hD : va_D A [(ot, .inl (cY 2, 1, .inr (.inl ov))), (nx, .inr (6, [.ref fd, .ref tb, .ref pr, .ref ad, .ref rd, .ref wd, .ref h, .int (nI sk)]))] := hD
  refine lv_astore_n (lv' := [(3, .ref q9), (0, .ref nx), (1, .int x), (2, .ref ot)]) hx hb dL_orderByDivisors_12 rfl hl (by decide) rfl (fun ls hl => ?_)
  refine lv_iconst (v := nI 1) hx hb dL_orderByDivisors_13 (by decide) ?_
  subst hQ
  exact m_iretC C0 hS dL_orderByDivisors_14 (u := ()) hP (rfl)
set_option maxHeartbeats 4000000 in
set_option maxRecDepth 100000 in
theorem c_L_traceOf_ok (l : Launch) (D : va_G) (cY : Nat → ClassId) (nx fd tb pr ad rd wd h sk : Nat) (fb : Nat) (bp : Nat → Nat) (x : Nat) (ot : Nat) (ov : Nat → Int64) (hB : n_bp bp) (hxx : x < 65536) : m_Mi l yL_traceOf wsL_traceOf 3 68 D cY [.ref nx, .int (nI x), .ref ot] [(ot, .inl (cY 2, 1, .inr (.inl ov))), (nx, .inr (6, [.ref fd, .ref tb, .ref pr, .ref ad, .ref rd, .ref wd, .ref h, .int (nI sk)])), (fd, .inr (2, [.ref fb])), (fb, .inl (cY 0, 256, .inl (m_nf bp)))] (fun (res : Int32) (u : Unit) => res = nI 0) (fun (u : Unit) => [(ot, .inl (cY 2, 1, .inr (.inl (vp_updL ov 0 (Int32.toInt64 (nI (n_tr x 16))))))), (nx, .inr (6, [.ref fd, .ref tb, .ref pr, .ref ad, .ref rd, .ref wd, .ref h, .int (nI sk)])), (fd, .inr (2, [.ref fb])), (fb, .inl (cY 0, 256, .inl (m_nf bp)))]) := by
  refine m_enterIW (cc := cL_traceOf) (maxL := 4) (ret := (some .int)) (by decide +kernel) rfl (Nat.le_of_ble_eq_true rfl) ?_
  intro p e s m below meth c A ls C0 hP hD hl
  obtain ⟨hx, hb, hr, hml, hts, hown, hlocks, hK, hA⟩ := id C0
  generalize hQ : MQ below _ _ s 0 0 A = Q
  have hS : va_S A s.heap s.heap [] := va_S.rf
  have hl : lv_has ls 4 [(0, .ref nx), (1, .int (nI x)), (2, .ref ot)] := hl
  refine lv_aload_n hx hb dL_traceOf_0 rfl (lv_at hl 2 rfl) ?_
  refine lv_iconst (v := nI 0) hx hb dL_traceOf_1 (by decide) ?_
  refine lv_aload_n hx hb dL_traceOf_2 rfl (lv_at hl 0 rfl) ?_
  refine lv_iload_n hx hb dL_traceOf_3 rfl (lv_at hl 1 rfl) ?_
  refine m_callVi (As := [.int (nI x)]) (rest := [.int (nI 0), .ref ot]) C0 hl hP hD hS (c_X6_traceOf l D cY nx fd tb pr ad rd wd h sk fb bp x (by first | assumption | omega | exact nm_lt _ _ | exact np_lt _ _ | decide) (by first | assumption | omega | exact nm_lt _ _ | exact np_lt _ _ | decide)) (cwV 1 hts gL_traceOf_X6_traceOf rfl rfl rfl (by decide +kernel) ⟨Nat.le_of_ble_eq_true rfl, Nat.le_of_ble_eq_true rfl⟩) dL_traceOf_4 [1, 2, 3] rfl rfl 1 rfl rfl rfl rfl (Nat.le_of_ble_eq_true rfl) (Nat.zero_le _) (Nat.zero_le _) (fun _ => rfl) (fun r2 u H1 locs hw hP hD hS => ?_)
  try dsimp only at hw
  obtain rfl := hw
  have hP : va_P D vwCl [(ot, .inl (cY 2, 1, .inr (.inl ov))), (nx, .inr (6, [.ref fd, .ref tb, .ref pr, .ref ad, .ref rd, .ref wd, .ref h, .int (nI sk)])), (fd, .inr (2, [.ref fb])), (fb, .inl (cY 0, 256, .inl (m_nf bp)))] H1 := hP
  have hD : va_D A [(ot, .inl (cY 2, 1, .inr (.inl ov))), (nx, .inr (6, [.ref fd, .ref tb, .ref pr, .ref ad, .ref rd, .ref wd, .ref h, .int (nI sk)])), (fd, .inr (2, [.ref fb])), (fb, .inl (cY 0, 256, .inl (m_nf bp)))] := hD
  refine lv_i2l (v := Int32.toInt64 (nI (n_tr x 16))) hx hb dL_traceOf_7 rfl ?_
  refine va_last hx hb hK hP hD hS 0 2 rfl rfl (m_in (n := 0) (by first | assumption | omega) (by decide)) dL_traceOf_8 (fun H3 locs hP hD hS => ?_)
  have hP : va_P D vwCl [(ot, .inl (cY 2, 1, .inr (.inl (vp_updL ov 0 (Int32.toInt64 (nI (n_tr x 16))))))), (nx, .inr (6, [.ref fd, .ref tb, .ref pr, .ref ad, .ref rd, .ref wd, .ref h, .int (nI sk)])), (fd, .inr (2, [.ref fb])), (fb, .inl (cY 0, 256, .inl (m_nf bp)))] H3 := hP
  have hD : va_D A [(ot, .inl (cY 2, 1, .inr (.inl (vp_updL ov 0 (Int32.toInt64 (nI (n_tr x 16))))))), (nx, .inr (6, [.ref fd, .ref tb, .ref pr, .ref ad, .ref rd, .ref wd, .ref h, .int (nI sk)])), (fd, .inr (2, [.ref fb])), (fb, .inl (cY 0, 256, .inl (m_nf bp)))] := hD
  refine lv_goto (tgt := 15) hx hb dL_traceOf_9 (by decide) ?_
  refine lv_iconst (v := nI 0) hx hb dL_traceOf_15 (by decide) ?_
  subst hQ
  exact m_iret C0 hS dL_traceOf_16 (u := ()) hP (rfl)
set_option maxHeartbeats 4000000 in
set_option maxRecDepth 100000 in
theorem c_L_traceOf_x1 (l : Launch) (hfl : l.stackTraces = false) (D : va_G) (cY : Nat → ClassId) (eS : Nat → Nat) (eO : Nat) (nx fd tb pr ad rd wd h sk : Nat) (x : Int32) (ot : Nat) (ov : Nat → Int64) (hn : ¬ m_isN x) : m_Me l yL_traceOf wsL_traceOf 8 138 1 6 D cY eS eO [.ref nx, .int x, .ref ot] [(ot, .inl (cY 2, 1, .inr (.inl ov))), (nx, .inr (6, [.ref fd, .ref tb, .ref pr, .ref ad, .ref rd, .ref wd, .ref h, .int (nI sk)]))] (fun (res : Int32) (u : Unit) => res = nI 1) (fun (u : Unit) => [(ot, .inl (cY 2, 1, .inr (.inl ov))), (nx, .inr (6, [.ref fd, .ref tb, .ref pr, .ref ad, .ref rd, .ref wd, .ref h, .int (nI sk)]))]) := by
  refine m_enterEW (cc := cL_traceOf) (maxL := 4) (ret := (some .int)) (by decide +kernel) rfl (Nat.le_of_ble_eq_true rfl) ?_
  intro p e s m below meth c A ls C0 htb hE hP hD hl
  obtain ⟨hx, hb, hr, hml, hts, hown, hlocks, hK, hA⟩ := id C0
  obtain ⟨hz1, hz2, ⟨hcIO, hcIA, hcIS⟩, hdcl, ⟨hs0, hs1, hs2, hs3, hs4, hs5, hs6, hs7⟩, ⟨hn1, hn2⟩, ⟨hl0, hl1, hl2, hl3, hl4⟩, hzO, htO⟩ := id hE
  generalize hQ : MQ below _ _ s 1 6 A = Q
  have hS : va_S A s.heap s.heap [] := va_S.rf
  have hl : lv_has ls 4 [(0, .ref nx), (1, .int x), (2, .ref ot)] := hl
  have hwd0 := hts (.classLink RL 15 e_IA) (by decide +kernel)
  refine lv_aload_n hx hb dL_traceOf_0 rfl (lv_at hl 2 rfl) ?_
  refine lv_iconst (v := nI 0) hx hb dL_traceOf_1 (by decide) ?_
  refine lv_aload_n hx hb dL_traceOf_2 rfl (lv_at hl 0 rfl) ?_
  refine lv_iload_n hx hb dL_traceOf_3 rfl (lv_at hl 1 rfl) ?_
  refine m_callVc (As := [.int x]) (rest := [.int (nI 0), .ref ot]) C0 htb hE hl hP hD hS (c_X6_traceOf_x1 l hfl D cY eS eO nx fd tb pr ad rd wd h sk x (by first | assumption | omega | exact nm_lt _ _ | exact np_lt _ _ | decide)) (cwV 1 hts gL_traceOf_X6_traceOf rfl rfl rfl (by decide +kernel) ⟨Nat.le_of_ble_eq_true rfl, Nat.le_of_ble_eq_true rfl⟩) dL_traceOf_4 [1] rfl rfl 1 rfl rfl rfl rfl (Nat.le_of_ble_eq_true rfl) (Nat.le_of_ble_eq_true rfl) (Nat.le_of_ble_eq_true rfl) (fun _ => rfl) (tableOf []) ⟨0, 9, 12, 15⟩ (tableOf []) rfl (fun z hz => by cases hz) (by decide) (by decide) hwd0 hcIA (fun q9 u H1 locs hP hD hS => ?_)
  have hP : va_P D vwCl [(ot, .inl (cY 2, 1, .inr (.inl ov))), (nx, .inr (6, [.ref fd, .ref tb, .ref pr, .ref ad, .ref rd, .ref wd, .ref h, .int (nI sk)]))] H1 := hP
  have hD : va_D A [(ot, .inl (cY 2, 1, .inr (.inl ov))), (nx, .inr (6, [.ref fd, .ref tb, .ref pr, .ref ad, .ref rd, .ref wd, .ref h, .int (nI sk)]))] := hD
  refine lv_astore_n (lv' := [(3, .ref q9), (0, .ref nx), (1, .int x), (2, .ref ot)]) hx hb dL_traceOf_12 rfl hl (by decide) rfl (fun ls hl => ?_)
  refine lv_iconst (v := nI 1) hx hb dL_traceOf_13 (by decide) ?_
  subst hQ
  exact m_iretC C0 hS dL_traceOf_14 (u := ()) hP (rfl)
set_option maxHeartbeats 4000000 in
set_option maxRecDepth 100000 in
theorem c_L_solve_ok (l : Launch) (D : va_G) (cY : Nat → ClassId) (nx fd tb pr ad rd wd h sk : Nat) (fb : Nat) (bp : Nat → Nat) (x : Nat) (ot : Nat) (ov : Nat → Int64) (hB : n_bp bp) (hxx : x < 65536) : m_Mi l yL_solve wsL_solve 3 68 D cY [.ref nx, .int (nI x), .ref ot] [(ot, .inl (cY 2, 1, .inr (.inl ov))), (nx, .inr (6, [.ref fd, .ref tb, .ref pr, .ref ad, .ref rd, .ref wd, .ref h, .int (nI sk)])), (fd, .inr (2, [.ref fb])), (fb, .inl (cY 0, 256, .inl (m_nf bp)))] (fun (res : Int32) (u : Unit) => res = nI 0) (fun (u : Unit) => [(ot, .inl (cY 2, 1, .inr (.inl (vp_updL ov 0 (Int32.toInt64 (n_sol x)))))), (nx, .inr (6, [.ref fd, .ref tb, .ref pr, .ref ad, .ref rd, .ref wd, .ref h, .int (nI sk)])), (fd, .inr (2, [.ref fb])), (fb, .inl (cY 0, 256, .inl (m_nf bp)))]) := by
  refine m_enterIW (cc := cL_solve) (maxL := 4) (ret := (some .int)) (by decide +kernel) rfl (Nat.le_of_ble_eq_true rfl) ?_
  intro p e s m below meth c A ls C0 hP hD hl
  obtain ⟨hx, hb, hr, hml, hts, hown, hlocks, hK, hA⟩ := id C0
  generalize hQ : MQ below _ _ s 0 0 A = Q
  have hS : va_S A s.heap s.heap [] := va_S.rf
  have hl : lv_has ls 4 [(0, .ref nx), (1, .int (nI x)), (2, .ref ot)] := hl
  refine lv_aload_n hx hb dL_solve_0 rfl (lv_at hl 2 rfl) ?_
  refine lv_iconst (v := nI 0) hx hb dL_solve_1 (by decide) ?_
  refine lv_aload_n hx hb dL_solve_2 rfl (lv_at hl 0 rfl) ?_
  refine lv_iload_n hx hb dL_solve_3 rfl (lv_at hl 1 rfl) ?_
  refine m_callVi (As := [.int (nI x)]) (rest := [.int (nI 0), .ref ot]) C0 hl hP hD hS (c_X6_solve l D cY nx fd tb pr ad rd wd h sk fb bp x (by first | assumption | omega | exact nm_lt _ _ | exact np_lt _ _ | decide) (by first | assumption | omega | exact nm_lt _ _ | exact np_lt _ _ | decide)) (cwV 1 hts gL_solve_X6_solve rfl rfl rfl (by decide +kernel) ⟨Nat.le_of_ble_eq_true rfl, Nat.le_of_ble_eq_true rfl⟩) dL_solve_4 [1, 2, 3] rfl rfl 1 rfl rfl rfl rfl (Nat.le_of_ble_eq_true rfl) (Nat.zero_le _) (Nat.zero_le _) (fun _ => rfl) (fun r2 u H1 locs hw hP hD hS => ?_)
  try dsimp only at hw
  obtain rfl := hw
  have hP : va_P D vwCl [(ot, .inl (cY 2, 1, .inr (.inl ov))), (nx, .inr (6, [.ref fd, .ref tb, .ref pr, .ref ad, .ref rd, .ref wd, .ref h, .int (nI sk)])), (fd, .inr (2, [.ref fb])), (fb, .inl (cY 0, 256, .inl (m_nf bp)))] H1 := hP
  have hD : va_D A [(ot, .inl (cY 2, 1, .inr (.inl ov))), (nx, .inr (6, [.ref fd, .ref tb, .ref pr, .ref ad, .ref rd, .ref wd, .ref h, .int (nI sk)])), (fd, .inr (2, [.ref fb])), (fb, .inl (cY 0, 256, .inl (m_nf bp)))] := hD
  refine lv_i2l (v := Int32.toInt64 (n_sol x)) hx hb dL_solve_7 rfl ?_
  refine va_last hx hb hK hP hD hS 0 2 rfl rfl (m_in (n := 0) (by first | assumption | omega) (by decide)) dL_solve_8 (fun H3 locs hP hD hS => ?_)
  have hP : va_P D vwCl [(ot, .inl (cY 2, 1, .inr (.inl (vp_updL ov 0 (Int32.toInt64 (n_sol x)))))), (nx, .inr (6, [.ref fd, .ref tb, .ref pr, .ref ad, .ref rd, .ref wd, .ref h, .int (nI sk)])), (fd, .inr (2, [.ref fb])), (fb, .inl (cY 0, 256, .inl (m_nf bp)))] H3 := hP
  have hD : va_D A [(ot, .inl (cY 2, 1, .inr (.inl (vp_updL ov 0 (Int32.toInt64 (n_sol x)))))), (nx, .inr (6, [.ref fd, .ref tb, .ref pr, .ref ad, .ref rd, .ref wd, .ref h, .int (nI sk)])), (fd, .inr (2, [.ref fb])), (fb, .inl (cY 0, 256, .inl (m_nf bp)))] := hD
  refine lv_goto (tgt := 15) hx hb dL_solve_9 (by decide) ?_
  refine lv_iconst (v := nI 0) hx hb dL_solve_15 (by decide) ?_
  subst hQ
  exact m_iret C0 hS dL_solve_16 (u := ()) hP (rfl)
set_option maxHeartbeats 4000000 in
set_option maxRecDepth 100000 in
theorem c_L_solve_x1 (l : Launch) (hfl : l.stackTraces = false) (D : va_G) (cY : Nat → ClassId) (eS : Nat → Nat) (eO : Nat) (nx fd tb pr ad rd wd h sk : Nat) (x : Int32) (ot : Nat) (ov : Nat → Int64) (hn : ¬ m_isN x) : m_Me l yL_solve wsL_solve 8 138 1 6 D cY eS eO [.ref nx, .int x, .ref ot] [(ot, .inl (cY 2, 1, .inr (.inl ov))), (nx, .inr (6, [.ref fd, .ref tb, .ref pr, .ref ad, .ref rd, .ref wd, .ref h, .int (nI sk)]))] (fun (res : Int32) (u : Unit) => res = nI 1) (fun (u : Unit) => [(ot, .inl (cY 2, 1, .inr (.inl ov))), (nx, .inr (6, [.ref fd, .ref tb, .ref pr, .ref ad, .ref rd, .ref wd, .ref h, .int (nI sk)]))]) := by
  refine m_enterEW (cc := cL_solve) (maxL := 4) (ret := (some .int)) (by decide +kernel) rfl (Nat.le_of_ble_eq_true rfl) ?_
  intro p e s m below meth c A ls C0 htb hE hP hD hl
  obtain ⟨hx, hb, hr, hml, hts, hown, hlocks, hK, hA⟩ := id C0
  obtain ⟨hz1, hz2, ⟨hcIO, hcIA, hcIS⟩, hdcl, ⟨hs0, hs1, hs2, hs3, hs4, hs5, hs6, hs7⟩, ⟨hn1, hn2⟩, ⟨hl0, hl1, hl2, hl3, hl4⟩, hzO, htO⟩ := id hE
  generalize hQ : MQ below _ _ s 1 6 A = Q
  have hS : va_S A s.heap s.heap [] := va_S.rf
  have hl : lv_has ls 4 [(0, .ref nx), (1, .int x), (2, .ref ot)] := hl
  have hwd0 := hts (.classLink RL 15 e_IA) (by decide +kernel)
  refine lv_aload_n hx hb dL_solve_0 rfl (lv_at hl 2 rfl) ?_
  refine lv_iconst (v := nI 0) hx hb dL_solve_1 (by decide) ?_
  refine lv_aload_n hx hb dL_solve_2 rfl (lv_at hl 0 rfl) ?_
  refine lv_iload_n hx hb dL_solve_3 rfl (lv_at hl 1 rfl) ?_
  refine m_callVc (As := [.int x]) (rest := [.int (nI 0), .ref ot]) C0 htb hE hl hP hD hS (c_X6_solve_x1 l hfl D cY eS eO nx fd tb pr ad rd wd h sk x (by first | assumption | omega | exact nm_lt _ _ | exact np_lt _ _ | decide)) (cwV 1 hts gL_solve_X6_solve rfl rfl rfl (by decide +kernel) ⟨Nat.le_of_ble_eq_true rfl, Nat.le_of_ble_eq_true rfl⟩) dL_solve_4 [1] rfl rfl 1 rfl rfl rfl rfl (Nat.le_of_ble_eq_true rfl) (Nat.le_of_ble_eq_true rfl) (Nat.le_of_ble_eq_true rfl) (fun _ => rfl) (tableOf []) ⟨0, 9, 12, 15⟩ (tableOf []) rfl (fun z hz => by cases hz) (by decide) (by decide) hwd0 hcIA (fun q9 u H1 locs hP hD hS => ?_)
  have hP : va_P D vwCl [(ot, .inl (cY 2, 1, .inr (.inl ov))), (nx, .inr (6, [.ref fd, .ref tb, .ref pr, .ref ad, .ref rd, .ref wd, .ref h, .int (nI sk)]))] H1 := hP
  have hD : va_D A [(ot, .inl (cY 2, 1, .inr (.inl ov))), (nx, .inr (6, [.ref fd, .ref tb, .ref pr, .ref ad, .ref rd, .ref wd, .ref h, .int (nI sk)]))] := hD
  refine lv_astore_n (lv' := [(3, .ref q9), (0, .ref nx), (1, .int x), (2, .ref ot)]) hx hb dL_solve_12 rfl hl (by decide) rfl (fun ls hl => ?_)
  refine lv_iconst (v := nI 1) hx hb dL_solve_13 (by decide) ?_
  subst hQ
  exact m_iretC C0 hS dL_solve_14 (u := ()) hP (rfl)
