/-! The law's variants. -/
set_option maxHeartbeats 4000000 in
set_option maxRecDepth 100000 in
theorem v_traceOf_ok {p : Program} {l : Launch} {e : Env} {s : State} {m : MethodId} {below : List Frame} {meth : Method} {c : Code} {b L : Nat} {xs : Nat → Int32} {D : va_G} {cY : Nat → ClassId} {A : Nat → Prop} {eS : Nat → Nat} {eO : Nat} {Q : State → Prop} {aa sa bp : Nat → Nat} (F : law_F p l e s m meth c b L xs D cY A eS eO bp) {ov : Nat → Int64} {fr : Nat} {tf : Nat → Nat} {len : Nat} {sc : Nat} {cur : Nat} {tx : Nat → Nat} {f : Nat → Nat} {cnt : Nat} {rf : Nat → Nat} {rc : Nat} {sf : Nat → Nat} {sn : Nat} {z : Nat} {g0 : Nat → Nat} {g1 : Nat → Nat} {g2 : Nat → Nat} {g3 : Nat → Nat} {t0 : Nat} {t1 : Nat} {t2 : Nat} {t3 : Nat} {sk : Nat} {pt : Nat → Int32} {pg : Nat → Int32} {pf : Nat → Int32} {pe : Nat → Int32} {th : Nat} {ta : Nat} {yr : Int32} {ys : Int32} {yo : Int32} {yf : Int32} {ye : Int32} {kf : Nat → Nat} {kc : Nat} {rv : Nat → Nat} {cv : Nat → Nat} {bv : Nat → Nat} {i : Nat} (hi : i + 2 < L) {H : Heap} {locs : List Loc} {ls : Array Slot} {cells slots : Nat} (hcl : cells + 1 ≤ room_1.cells) (hsl : slots + 6 ≤ room_1.slots) (x : Nat) (hxx : x < 65536) (hv1 : xs (i + 1) = nI x)
    (hI : law_I fr tf len tx f rf sf z g0 g1 g2 g3 t0 t1 t2 t3 sk rv) (hP : va_P D vwCl (law_w cY aa sa bp ov fr tf len sc cur tx f cnt rf rc sf sn z g0 g1 g2 g3 t0 t1 t2 t3 sk pt pg pf pe th ta yr ys yo yf ye kf kc rv cv bv f cnt sf sn z sk len tx) H) (hD : va_D A (law_w cY aa sa bp ov fr tf len sc cur tx f cnt rf rc sf sn z g0 g1 g2 g3 t0 t1 t2 t3 sk pt pg pf pe th ta yr ys yo yf ye kf kc rv cv bv f cnt sf sn z sk len tx)) (hS : va_S A s.heap H locs) (hl : lv_has ls 7 [(0, .ref b), (1, .ref (aa 1)), (2, .ref (aa 25)), (3, .ref (aa 0)), (4, .int (nI i))]) (kk : law_K p l e s m below meth c b D cY A Q aa sa bp i (cells + 1) (slots + 6)) :
    W p l e room_1 s m #[.ref b] below meth c H locs cells slots Q (F0 m 1403 ls []) := by
  obtain ⟨C0, hE, hX, hbl, hbA, hL, hB, hfl⟩ := id F
  obtain ⟨hx, hb, hr, hml, hts, hown, hlocks, hK, hA⟩ := id C0
  obtain ⟨⟨hf8, hf16⟩, hrf8, ⟨hsf8, hsf16⟩, ⟨⟨hg0, hg0b⟩, ⟨hg1, hg1b⟩, ⟨hg2, hg2b⟩, ⟨hg3, hg3b⟩⟩, hz4, ⟨hfr, htf⟩, ⟨hlen, htx⟩, hsk, hh, hrec, hH⟩ := id hI
  refine lv_aload_n hx hb dL_law_1403 rfl (lv_at hl 1 rfl) ?_
  refine lv_aload_n hx hb dL_law_1404 rfl (lv_at hl 0 rfl) ?_
  refine lv_iload hx hb dL_law_1405 (lv_at hl 4 rfl) ?_
  refine lv_iconst (v := nI 1) hx hb dL_law_1407 (by decide) ?_
  refine lv_iadd hx hb dL_law_1408 ?_
  refine lv_topi (nm_r (nI_add _ _) ?_)
  refine va_sld hx hb hX hbl hbA hS (i := nI (i + 1)) (m_in (n := i + 1) (by omega) (by omega)) dL_law_1409 ?_
  refine lv_topi (nm_r (show _ = nI x from by rw [nI_clamp (by omega)]; exact hv1) ?_)
  refine lv_aload_n hx hb dL_law_1410 rfl (lv_at hl 3 rfl) ?_
  refine m_callTji (As := [.ref (aa 1), .int (nI x), .ref (aa 0)]) (rest := []) (wr := ([((aa 3), .inr (1, [.ref (aa 10), .int (nI fr)])), ((aa 10), .inl (cY 0, 256, .inl (m_nf tf))), ((aa 4), .inr (3, [.ref (aa 11), .ref (aa 12), .int (nI len), .int (nI sc), .int (nI cur)])), ((aa 11), .inl (cY 1, 60, .inl (m_nf tx))), ((aa 12), .inl (cY 4, 15, .inr (.inr (.inr (.inr (m_sa sa)))))), ((aa 5), .inr (4, [.ref (aa 13), .int (nI cnt)])), ((aa 13), .inl (cY 0, 8, .inl (m_nf f))), ((aa 6), .inr (4, [.ref (aa 14), .int (nI rc)])), ((aa 14), .inl (cY 0, 8, .inl (m_nf rf))), ((aa 7), .inr (4, [.ref (aa 15), .int (nI sn)])), ((aa 15), .inl (cY 0, 8, .inl (m_nf sf))), ((aa 8), .inr (0, [.ref (aa 16), .int (nI z)])), ((aa 16), .inl (cY 3, 4, .inr (.inr (.inr (.inr (m_k4 (aa 17) (aa 18) (aa 19) (aa 20))))))), ((aa 17), .inr (4, [.ref (aa 21), .int (nI t0)])), ((aa 21), .inl (cY 0, 8, .inl (m_nf g0))), ((aa 18), .inr (4, [.ref (aa 22), .int (nI t1)])), ((aa 22), .inl (cY 0, 8, .inl (m_nf g1))), ((aa 19), .inr (4, [.ref (aa 23), .int (nI t2)])), ((aa 23), .inl (cY 0, 8, .inl (m_nf g2))), ((aa 20), .inr (4, [.ref (aa 24), .int (nI t3)])), ((aa 24), .inl (cY 0, 8, .inl (m_nf g3))), ((aa 25), .inr (7, [.ref (aa 26), .ref (aa 27), .ref (aa 28), .int (nI z), .ref (aa 29), .int (nI sk), .int (nI th), .ref (aa 30), .int (nI len), .int (nI ta), .int yr, .int ys, .int yo, .int yf, .int ye, .ref (aa 31), .ref (aa 32)])), ((aa 26), .inl (cY 0, 9, .inl (m_nf (m_all f cnt)))), ((aa 27), .inl (cY 0, 9, .inl (m_nf (m_all kf kc)))), ((aa 29), .inl (cY 0, 9, .inl (m_nf (m_all sf sn)))), ((aa 28), .inl (cY 0, 36, .inl (m_nf rv))), ((aa 30), .inl (cY 0, 60, .inl (m_nf tx))), ((aa 31), .inl (cY 0, 16, .inl (m_nf cv))), ((aa 32), .inl (cY 0, 16, .inl (m_nf bv)))] ++ m_pool sa pt pg pf pe)) C0 hl hP hD hS (c_L_traceOf_ok l D cY (aa 1) (aa 2) (aa 3) (aa 4) (aa 5) (aa 6) (aa 7) (aa 8) sk (aa 9) bp x (aa 0) ov (by first | assumption | omega) (by first | assumption | omega)) (vx_cwSW 3 hts gL_law_L_traceOf rfl rfl rfl (by decide +kernel) ⟨Nat.le_of_ble_eq_true rfl, Nat.le_of_ble_eq_true rfl⟩) dL_law_1411 [0, 1, 2, 3] [4, 5, 6, 7, 8, 9, 10, 11, 12, 13, 14, 15, 16, 17, 18, 19, 20, 21, 22, 23, 24, 25, 26, 27, 28, 29, 30, 31, 32, 33, 34, 35, 36, 37, 38, 39, 40, 41, 42, 43, 44, 45, 46, 47] rfl rfl (by decide) (by decide) (by decide) rfl (Nat.le_of_ble_eq_true rfl) (by omega) (by omega) (fun _ => rfl) (fun r2 u H1 locs hw hP hD hS => ?_)
  try dsimp only at hw
  obtain rfl := hw
  have hP : va_P D vwCl (law_w cY aa sa bp (vp_updL ov 0 (Int32.toInt64 (nI (n_tr x 16)))) fr tf len sc cur tx f cnt rf rc sf sn z g0 g1 g2 g3 t0 t1 t2 t3 sk pt pg pf pe th ta yr ys yo yf ye kf kc rv cv bv f cnt sf sn z sk len tx) H1 := hP.sub (ws' := law_w cY aa sa bp (vp_updL ov 0 (Int32.toInt64 (nI (n_tr x 16)))) fr tf len sc cur tx f cnt rf rc sf sn z g0 g1 g2 g3 t0 t1 t2 t3 sk pt pg pf pe th ta yr ys yo yf ye kf kc rv cv bv f cnt sf sn z sk len tx) [44, 45, 46, 47, 0, 1, 2, 3, 4, 5, 6, 7, 8, 9, 10, 11, 12, 13, 14, 15, 16, 17, 18, 19, 20, 21, 22, 23, 24, 25, 26, 27, 28, 29, 30, 31, 32, 33, 34, 35, 36, 37, 38, 39, 40, 41, 42, 43] rfl
  have hD : va_D A (law_w cY aa sa bp (vp_updL ov 0 (Int32.toInt64 (nI (n_tr x 16)))) fr tf len sc cur tx f cnt rf rc sf sn z g0 g1 g2 g3 t0 t1 t2 t3 sk pt pg pf pe th ta yr ys yo yf ye kf kc rv cv bv f cnt sf sn z sk len tx) := hD.sub (ws' := law_w cY aa sa bp (vp_updL ov 0 (Int32.toInt64 (nI (n_tr x 16)))) fr tf len sc cur tx f cnt rf rc sf sn z g0 g1 g2 g3 t0 t1 t2 t3 sk pt pg pf pe th ta yr ys yo yf ye kf kc rv cv bv f cnt sf sn z sk len tx) [44, 45, 46, 47, 0, 1, 2, 3, 4, 5, 6, 7, 8, 9, 10, 11, 12, 13, 14, 15, 16, 17, 18, 19, 20, 21, 22, 23, 24, 25, 26, 27, 28, 29, 30, 31, 32, 33, 34, 35, 36, 37, 38, 39, 40, 41, 42, 43] (by decide) rfl
  refine lv_istore (lv' := [(5, .int (nI 0)), (0, .ref b), (1, .ref (aa 1)), (2, .ref (aa 25)), (3, .ref (aa 0)), (4, .int (nI i))]) hx hb dL_law_1414 hl (by decide) rfl (fun ls hl => ?_)
  refine lv_aload_n hx hb dL_law_1416 rfl (lv_at hl 3 rfl) ?_
  refine lv_aload_n hx hb dL_law_1417 rfl (lv_at hl 1 rfl) ?_
  refine lv_iload hx hb dL_law_1418 (lv_at hl 5 rfl) ?_
  refine lv_iconst (v := nI 1) hx hb dL_law_1420 (by decide) ?_
  refine lv_iadd hx hb dL_law_1421 ?_
  refine lv_topi (nm_r (nI_add _ _) ?_)
  refine va_sld hx hb hX hbl hbA hS (i := nI (i + 1)) (m_in (n := i + 1) (by omega) (by omega)) dL_law_1422 ?_
  refine lv_topi (nm_r (show _ = nI x from by rw [nI_clamp (by omega)]; exact hv1) ?_)
  refine m_callVi (As := [.int (nI x)]) (rest := []) C0 hl hP hD hS (c_X7_traceOf_ok l D cY (aa 25) (aa 26) (aa 27) (aa 28) (aa 29) (aa 30) (aa 31) (aa 32) z sk th len ta yr ys yo yf ye x (by first | assumption | omega)) (cwV 1 hts gL_law_X7_traceOf rfl rfl rfl (by decide +kernel) ⟨Nat.le_of_ble_eq_true rfl, Nat.le_of_ble_eq_true rfl⟩) dL_law_1423 [25] rfl rfl 25 rfl rfl rfl rfl (Nat.le_of_ble_eq_true rfl) (by omega) (by omega) (fun _ => rfl) (fun r4 u H3 locs hw hP hD hS => ?_)
  try dsimp only at hw
  obtain rfl := hw
  have hP : va_P D vwCl (law_w cY aa sa bp (vp_updL ov 0 (Int32.toInt64 (nI (n_tr x 16)))) fr tf len sc cur tx f cnt rf rc sf sn z g0 g1 g2 g3 t0 t1 t2 t3 sk pt pg pf pe 0 ta yr ys yo yf ye kf kc rv cv bv f cnt sf sn z sk len tx) H3 := hP
  have hD : va_D A (law_w cY aa sa bp (vp_updL ov 0 (Int32.toInt64 (nI (n_tr x 16)))) fr tf len sc cur tx f cnt rf rc sf sn z g0 g1 g2 g3 t0 t1 t2 t3 sk pt pg pf pe 0 ta yr ys yo yf ye kf kc rv cv bv f cnt sf sn z sk len tx) := hD
  refine lv_istore (lv' := [(6, .int (nI (n_tr x 16))), (5, .int (nI 0)), (0, .ref b), (1, .ref (aa 1)), (2, .ref (aa 25)), (3, .ref (aa 0)), (4, .int (nI i))]) hx hb dL_law_1426 hl (by decide) rfl (fun ls hl => ?_)
  refine lv_aload_n hx hb dL_law_1428 rfl (lv_at hl 4 rfl) ?_
  refine m_callVi (As := []) (rest := []) C0 hl hP hD hS (c_X7_thrown l D cY (aa 25) (aa 26) (aa 27) (aa 28) (aa 29) (aa 30) (aa 31) (aa 32) z sk 0 len ta yr ys yo yf ye ) (cwV 0 hts gL_law_X7_thrown rfl rfl rfl (by decide +kernel) ⟨Nat.le_of_ble_eq_true rfl, Nat.le_of_ble_eq_true rfl⟩) dL_law_1429 [25] rfl rfl 25 rfl rfl rfl rfl (Nat.le_of_ble_eq_true rfl) (by omega) (by omega) (fun _ => rfl) (fun r6 u H5 locs hw hP hD hS => ?_)
  try dsimp only at hw
  obtain rfl := hw
  have hP : va_P D vwCl (law_w cY aa sa bp (vp_updL ov 0 (Int32.toInt64 (nI (n_tr x 16)))) fr tf len sc cur tx f cnt rf rc sf sn z g0 g1 g2 g3 t0 t1 t2 t3 sk pt pg pf pe 0 ta yr ys yo yf ye kf kc rv cv bv f cnt sf sn z sk len tx) H5 := hP
  have hD : va_D A (law_w cY aa sa bp (vp_updL ov 0 (Int32.toInt64 (nI (n_tr x 16)))) fr tf len sc cur tx f cnt rf rc sf sn z g0 g1 g2 g3 t0 t1 t2 t3 sk pt pg pf pe 0 ta yr ys yo yf ye kf kc rv cv bv f cnt sf sn z sk len tx) := hD
  refine lv_iload hx hb dL_law_1432 (lv_at hl 1 rfl) ?_
  refine lv_icmp_eq (tgt := 1439) hx hb dL_law_1434 (by decide) (fun c1434 => ?_) (fun c1434 => ?_)
  rotate_left
  · exact absurd rfl c1434
  refine lv_iload hx hb dL_law_1439 (lv_at hl 1 rfl) ?_
  refine lv_if_ne (tgt := 1456) hx hb dL_law_1441 (by decide) (fun c1441 => ?_) (fun c1441 => ?_)
  · exact absurd rfl c1441
  refine lv_aload_n hx hb dL_law_1444 rfl (lv_at hl 5 rfl) ?_
  refine lv_iconst (v := nI 0) hx hb dL_law_1445 (by decide) ?_
  refine va_lald hx hb hK hP 0 2 rfl rfl (m_in (n := 0) (by decide) (by decide)) dL_law_1446 ?_
  refine lv_topl (nm_r (show _ = Int32.toInt64 (nI (n_tr x 16)) from by rw [nI_clamp (by decide)]; exact if_pos rfl) ?_)
  refine lv_iload hx hb dL_law_1447 (lv_at hl 0 rfl) ?_
  refine lv_i2l (v := Int32.toInt64 (nI (n_tr x 16))) hx hb dL_law_1449 rfl ?_
  refine W.lcmp hx hb dL_law_1450 ?_
  refine lv_topi (nm_r (m_cmp_self _) ?_)
  refine lv_if_eq (tgt := 1456) hx hb dL_law_1451 (by decide) (fun c1451 => ?_) (fun c1451 => ?_)
  rotate_left
  · exact absurd rfl c1451
  refine lv_goto (tgt := 1541) hx hb dL_law_1456 (by decide) ?_
  refine W.widen (k := cells + 1) (n := slots + 6) (by omega) (by omega) ?_
  exact kk (vp_updL ov 0 (Int32.toInt64 (nI (n_tr x 16)))) fr tf len sc cur tx f cnt rf rc sf sn z g0 g1 g2 g3 t0 t1 t2 t3 sk pt pg pf pe 0 ta yr ys yo yf ye kf kc rv cv bv _ _ ls (hI) hP hD hS (lv_sub hl [2, 3, 4, 5, 6] rfl)
set_option maxHeartbeats 4000000 in
set_option maxRecDepth 100000 in
theorem v_solve_x1 {p : Program} {l : Launch} {e : Env} {s : State} {m : MethodId} {below : List Frame} {meth : Method} {c : Code} {b L : Nat} {xs : Nat → Int32} {D : va_G} {cY : Nat → ClassId} {A : Nat → Prop} {eS : Nat → Nat} {eO : Nat} {Q : State → Prop} {aa sa bp : Nat → Nat} (F : law_F p l e s m meth c b L xs D cY A eS eO bp) {ov : Nat → Int64} {fr : Nat} {tf : Nat → Nat} {len : Nat} {sc : Nat} {cur : Nat} {tx : Nat → Nat} {f : Nat → Nat} {cnt : Nat} {rf : Nat → Nat} {rc : Nat} {sf : Nat → Nat} {sn : Nat} {z : Nat} {g0 : Nat → Nat} {g1 : Nat → Nat} {g2 : Nat → Nat} {g3 : Nat → Nat} {t0 : Nat} {t1 : Nat} {t2 : Nat} {t3 : Nat} {sk : Nat} {pt : Nat → Int32} {pg : Nat → Int32} {pf : Nat → Int32} {pe : Nat → Int32} {th : Nat} {ta : Nat} {yr : Int32} {ys : Int32} {yo : Int32} {yf : Int32} {ye : Int32} {kf : Nat → Nat} {kc : Nat} {rv : Nat → Nat} {cv : Nat → Nat} {bv : Nat → Nat} {i : Nat} (hi : i + 2 < L) {H : Heap} {locs : List Loc} {ls : Array Slot} {cells slots : Nat} (hcl : cells + 1 ≤ room_1.cells) (hsl : slots + 6 ≤ room_1.slots) (x : Int32) (hn : ¬ m_isN x) (hv1 : xs (i + 1) = x)
    (hI : law_I fr tf len tx f rf sf z g0 g1 g2 g3 t0 t1 t2 t3 sk rv) (hP : va_P D vwCl (law_w cY aa sa bp ov fr tf len sc cur tx f cnt rf rc sf sn z g0 g1 g2 g3 t0 t1 t2 t3 sk pt pg pf pe th ta yr ys yo yf ye kf kc rv cv bv f cnt sf sn z sk len tx) H) (hD : va_D A (law_w cY aa sa bp ov fr tf len sc cur tx f cnt rf rc sf sn z g0 g1 g2 g3 t0 t1 t2 t3 sk pt pg pf pe th ta yr ys yo yf ye kf kc rv cv bv f cnt sf sn z sk len tx)) (hS : va_S A s.heap H locs) (hl : lv_has ls 7 [(0, .ref b), (1, .ref (aa 1)), (2, .ref (aa 25)), (3, .ref (aa 0)), (4, .int (nI i))]) (kk : law_K p l e s m below meth c b D cY A Q aa sa bp i (cells + 1) (slots + 6)) :
    W p l e room_1 s m #[.ref b] below meth c H locs cells slots Q (F0 m 1459 ls []) := by
  obtain ⟨C0, hE, hX, hbl, hbA, hL, hB, hfl⟩ := id F
  obtain ⟨hx, hb, hr, hml, hts, hown, hlocks, hK, hA⟩ := id C0
  obtain ⟨⟨hf8, hf16⟩, hrf8, ⟨hsf8, hsf16⟩, ⟨⟨hg0, hg0b⟩, ⟨hg1, hg1b⟩, ⟨hg2, hg2b⟩, ⟨hg3, hg3b⟩⟩, hz4, ⟨hfr, htf⟩, ⟨hlen, htx⟩, hsk, hh, hrec, hH⟩ := id hI
  refine lv_aload_n hx hb dL_law_1459 rfl (lv_at hl 1 rfl) ?_
  refine lv_aload_n hx hb dL_law_1460 rfl (lv_at hl 0 rfl) ?_
  refine lv_iload hx hb dL_law_1461 (lv_at hl 4 rfl) ?_
  refine lv_iconst (v := nI 1) hx hb dL_law_1463 (by decide) ?_
  refine lv_iadd hx hb dL_law_1464 ?_
  refine lv_topi (nm_r (nI_add _ _) ?_)
  refine va_sld hx hb hX hbl hbA hS (i := nI (i + 1)) (m_in (n := i + 1) (by omega) (by omega)) dL_law_1465 ?_
  refine lv_topi (nm_r (show _ = x from by rw [nI_clamp (by omega)]; exact hv1) ?_)
  refine lv_aload_n hx hb dL_law_1466 rfl (lv_at hl 3 rfl) ?_
  refine m_callTe (As := [.ref (aa 1), .int x, .ref (aa 0)]) (rest := []) C0 hE hl hP hD hS (c_L_solve_x1 l hfl D cY eS eO (aa 1) (aa 2) (aa 3) (aa 4) (aa 5) (aa 6) (aa 7) (aa 8) sk x (aa 0) ov (by first | assumption | omega)) (vx_cwSW 3 hts gL_law_L_solve rfl rfl rfl (by decide +kernel) ⟨Nat.le_of_ble_eq_true rfl, Nat.le_of_ble_eq_true rfl⟩) dL_law_1467 [0, 1] rfl rfl rfl (Nat.le_of_ble_eq_true rfl) (by omega) (by omega) (fun _ => rfl) (fun r2 u H1 locs hw hP hD hS => ?_)
  try dsimp only at hw
  obtain rfl := hw
  have hP : va_P D vwCl (law_w cY aa sa bp ov fr tf len sc cur tx f cnt rf rc sf sn z g0 g1 g2 g3 t0 t1 t2 t3 sk pt pg pf pe th ta yr ys yo yf ye kf kc rv cv bv f cnt sf sn z sk len tx) H1 := hP
  have hD : va_D A (law_w cY aa sa bp ov fr tf len sc cur tx f cnt rf rc sf sn z g0 g1 g2 g3 t0 t1 t2 t3 sk pt pg pf pe th ta yr ys yo yf ye kf kc rv cv bv f cnt sf sn z sk len tx) := hD
  refine lv_istore (lv' := [(5, .int (nI 1)), (0, .ref b), (1, .ref (aa 1)), (2, .ref (aa 25)), (3, .ref (aa 0)), (4, .int (nI i))]) hx hb dL_law_1470 hl (by decide) rfl (fun ls hl => ?_)
  refine lv_aload_n hx hb dL_law_1472 rfl (lv_at hl 3 rfl) ?_
  refine lv_aload_n hx hb dL_law_1473 rfl (lv_at hl 1 rfl) ?_
  refine lv_iload hx hb dL_law_1474 (lv_at hl 5 rfl) ?_
  refine lv_iconst (v := nI 1) hx hb dL_law_1476 (by decide) ?_
  refine lv_iadd hx hb dL_law_1477 ?_
  refine lv_topi (nm_r (nI_add _ _) ?_)
  refine va_sld hx hb hX hbl hbA hS (i := nI (i + 1)) (m_in (n := i + 1) (by omega) (by omega)) dL_law_1478 ?_
  refine lv_topi (nm_r (show _ = x from by rw [nI_clamp (by omega)]; exact hv1) ?_)
  refine m_callVi (As := [.int x]) (rest := []) C0 hl hP hD hS (c_X7_solve_f1 l D cY (aa 25) (aa 26) (aa 27) (aa 28) (aa 29) (aa 30) (aa 31) (aa 32) z sk th len ta yr ys yo yf ye x (by first | assumption | omega)) (cwV 1 hts gL_law_X7_solve rfl rfl rfl (by decide +kernel) ⟨Nat.le_of_ble_eq_true rfl, Nat.le_of_ble_eq_true rfl⟩) dL_law_1479 [25] rfl rfl 25 rfl rfl rfl rfl (Nat.le_of_ble_eq_true rfl) (by omega) (by omega) (fun _ => rfl) (fun r4 u H3 locs hw hP hD hS => ?_)
  try dsimp only at hw
  obtain rfl := hw
  have hP : va_P D vwCl (law_w cY aa sa bp ov fr tf len sc cur tx f cnt rf rc sf sn z g0 g1 g2 g3 t0 t1 t2 t3 sk pt pg pf pe 1 ta yr ys yo yf ye kf kc rv cv bv f cnt sf sn z sk len tx) H3 := hP
  have hD : va_D A (law_w cY aa sa bp ov fr tf len sc cur tx f cnt rf rc sf sn z g0 g1 g2 g3 t0 t1 t2 t3 sk pt pg pf pe 1 ta yr ys yo yf ye kf kc rv cv bv f cnt sf sn z sk len tx) := hD
  refine lv_istore (lv' := [(6, .int (nI 0)), (5, .int (nI 1)), (0, .ref b), (1, .ref (aa 1)), (2, .ref (aa 25)), (3, .ref (aa 0)), (4, .int (nI i))]) hx hb dL_law_1482 hl (by decide) rfl (fun ls hl => ?_)
  refine lv_aload_n hx hb dL_law_1484 rfl (lv_at hl 4 rfl) ?_
  refine m_callVi (As := []) (rest := []) C0 hl hP hD hS (c_X7_thrown l D cY (aa 25) (aa 26) (aa 27) (aa 28) (aa 29) (aa 30) (aa 31) (aa 32) z sk 1 len ta yr ys yo yf ye ) (cwV 0 hts gL_law_X7_thrown rfl rfl rfl (by decide +kernel) ⟨Nat.le_of_ble_eq_true rfl, Nat.le_of_ble_eq_true rfl⟩) dL_law_1485 [25] rfl rfl 25 rfl rfl rfl rfl (Nat.le_of_ble_eq_true rfl) (by omega) (by omega) (fun _ => rfl) (fun r6 u H5 locs hw hP hD hS => ?_)
  try dsimp only at hw
  obtain rfl := hw
  have hP : va_P D vwCl (law_w cY aa sa bp ov fr tf len sc cur tx f cnt rf rc sf sn z g0 g1 g2 g3 t0 t1 t2 t3 sk pt pg pf pe 1 ta yr ys yo yf ye kf kc rv cv bv f cnt sf sn z sk len tx) H5 := hP
  have hD : va_D A (law_w cY aa sa bp ov fr tf len sc cur tx f cnt rf rc sf sn z g0 g1 g2 g3 t0 t1 t2 t3 sk pt pg pf pe 1 ta yr ys yo yf ye kf kc rv cv bv f cnt sf sn z sk len tx) := hD
  refine lv_iload hx hb dL_law_1488 (lv_at hl 1 rfl) ?_
  refine lv_icmp_eq (tgt := 1495) hx hb dL_law_1490 (by decide) (fun c1490 => ?_) (fun c1490 => ?_)
  rotate_left
  · exact absurd rfl c1490
  refine lv_iload hx hb dL_law_1495 (lv_at hl 1 rfl) ?_
  refine lv_if_ne (tgt := 1512) hx hb dL_law_1497 (by decide) (fun c1497 => ?_) (fun c1497 => ?_)
  rotate_left
  · exact absurd c1497 (by decide)
  refine lv_goto (tgt := 1541) hx hb dL_law_1512 (by decide) ?_
  refine W.widen (k := cells + 1) (n := slots + 6) (by omega) (by omega) ?_
  exact kk ov fr tf len sc cur tx f cnt rf rc sf sn z g0 g1 g2 g3 t0 t1 t2 t3 sk pt pg pf pe 1 ta yr ys yo yf ye kf kc rv cv bv _ _ ls (hI) hP hD hS (lv_sub hl [2, 3, 4, 5, 6] rfl)
set_option maxHeartbeats 4000000 in
set_option maxRecDepth 100000 in
theorem v_solve_ok {p : Program} {l : Launch} {e : Env} {s : State} {m : MethodId} {below : List Frame} {meth : Method} {c : Code} {b L : Nat} {xs : Nat → Int32} {D : va_G} {cY : Nat → ClassId} {A : Nat → Prop} {eS : Nat → Nat} {eO : Nat} {Q : State → Prop} {aa sa bp : Nat → Nat} (F : law_F p l e s m meth c b L xs D cY A eS eO bp) {ov : Nat → Int64} {fr : Nat} {tf : Nat → Nat} {len : Nat} {sc : Nat} {cur : Nat} {tx : Nat → Nat} {f : Nat → Nat} {cnt : Nat} {rf : Nat → Nat} {rc : Nat} {sf : Nat → Nat} {sn : Nat} {z : Nat} {g0 : Nat → Nat} {g1 : Nat → Nat} {g2 : Nat → Nat} {g3 : Nat → Nat} {t0 : Nat} {t1 : Nat} {t2 : Nat} {t3 : Nat} {sk : Nat} {pt : Nat → Int32} {pg : Nat → Int32} {pf : Nat → Int32} {pe : Nat → Int32} {th : Nat} {ta : Nat} {yr : Int32} {ys : Int32} {yo : Int32} {yf : Int32} {ye : Int32} {kf : Nat → Nat} {kc : Nat} {rv : Nat → Nat} {cv : Nat → Nat} {bv : Nat → Nat} {i : Nat} (hi : i + 2 < L) {H : Heap} {locs : List Loc} {ls : Array Slot} {cells slots : Nat} (hcl : cells + 1 ≤ room_1.cells) (hsl : slots + 6 ≤ room_1.slots) (x : Nat) (hxx : x < 65536) (hv1 : xs (i + 1) = nI x)
    (hI : law_I fr tf len tx f rf sf z g0 g1 g2 g3 t0 t1 t2 t3 sk rv) (hP : va_P D vwCl (law_w cY aa sa bp ov fr tf len sc cur tx f cnt rf rc sf sn z g0 g1 g2 g3 t0 t1 t2 t3 sk pt pg pf pe th ta yr ys yo yf ye kf kc rv cv bv f cnt sf sn z sk len tx) H) (hD : va_D A (law_w cY aa sa bp ov fr tf len sc cur tx f cnt rf rc sf sn z g0 g1 g2 g3 t0 t1 t2 t3 sk pt pg pf pe th ta yr ys yo yf ye kf kc rv cv bv f cnt sf sn z sk len tx)) (hS : va_S A s.heap H locs) (hl : lv_has ls 7 [(0, .ref b), (1, .ref (aa 1)), (2, .ref (aa 25)), (3, .ref (aa 0)), (4, .int (nI i))]) (kk : law_K p l e s m below meth c b D cY A Q aa sa bp i (cells + 1) (slots + 6)) :
    W p l e room_1 s m #[.ref b] below meth c H locs cells slots Q (F0 m 1459 ls []) := by
  obtain ⟨C0, hE, hX, hbl, hbA, hL, hB, hfl⟩ := id F
  obtain ⟨hx, hb, hr, hml, hts, hown, hlocks, hK, hA⟩ := id C0
  obtain ⟨⟨hf8, hf16⟩, hrf8, ⟨hsf8, hsf16⟩, ⟨⟨hg0, hg0b⟩, ⟨hg1, hg1b⟩, ⟨hg2, hg2b⟩, ⟨hg3, hg3b⟩⟩, hz4, ⟨hfr, htf⟩, ⟨hlen, htx⟩, hsk, hh, hrec, hH⟩ := id hI
  refine lv_aload_n hx hb dL_law_1459 rfl (lv_at hl 1 rfl) ?_
  refine lv_aload_n hx hb dL_law_1460 rfl (lv_at hl 0 rfl) ?_
  refine lv_iload hx hb dL_law_1461 (lv_at hl 4 rfl) ?_
  refine lv_iconst (v := nI 1) hx hb dL_law_1463 (by decide) ?_
  refine lv_iadd hx hb dL_law_1464 ?_
  refine lv_topi (nm_r (nI_add _ _) ?_)
  refine va_sld hx hb hX hbl hbA hS (i := nI (i + 1)) (m_in (n := i + 1) (by omega) (by omega)) dL_law_1465 ?_
  refine lv_topi (nm_r (show _ = nI x from by rw [nI_clamp (by omega)]; exact hv1) ?_)
  refine lv_aload_n hx hb dL_law_1466 rfl (lv_at hl 3 rfl) ?_
  refine m_callTji (As := [.ref (aa 1), .int (nI x), .ref (aa 0)]) (rest := []) (wr := ([((aa 3), .inr (1, [.ref (aa 10), .int (nI fr)])), ((aa 10), .inl (cY 0, 256, .inl (m_nf tf))), ((aa 4), .inr (3, [.ref (aa 11), .ref (aa 12), .int (nI len), .int (nI sc), .int (nI cur)])), ((aa 11), .inl (cY 1, 60, .inl (m_nf tx))), ((aa 12), .inl (cY 4, 15, .inr (.inr (.inr (.inr (m_sa sa)))))), ((aa 5), .inr (4, [.ref (aa 13), .int (nI cnt)])), ((aa 13), .inl (cY 0, 8, .inl (m_nf f))), ((aa 6), .inr (4, [.ref (aa 14), .int (nI rc)])), ((aa 14), .inl (cY 0, 8, .inl (m_nf rf))), ((aa 7), .inr (4, [.ref (aa 15), .int (nI sn)])), ((aa 15), .inl (cY 0, 8, .inl (m_nf sf))), ((aa 8), .inr (0, [.ref (aa 16), .int (nI z)])), ((aa 16), .inl (cY 3, 4, .inr (.inr (.inr (.inr (m_k4 (aa 17) (aa 18) (aa 19) (aa 20))))))), ((aa 17), .inr (4, [.ref (aa 21), .int (nI t0)])), ((aa 21), .inl (cY 0, 8, .inl (m_nf g0))), ((aa 18), .inr (4, [.ref (aa 22), .int (nI t1)])), ((aa 22), .inl (cY 0, 8, .inl (m_nf g1))), ((aa 19), .inr (4, [.ref (aa 23), .int (nI t2)])), ((aa 23), .inl (cY 0, 8, .inl (m_nf g2))), ((aa 20), .inr (4, [.ref (aa 24), .int (nI t3)])), ((aa 24), .inl (cY 0, 8, .inl (m_nf g3))), ((aa 25), .inr (7, [.ref (aa 26), .ref (aa 27), .ref (aa 28), .int (nI z), .ref (aa 29), .int (nI sk), .int (nI th), .ref (aa 30), .int (nI len), .int (nI ta), .int yr, .int ys, .int yo, .int yf, .int ye, .ref (aa 31), .ref (aa 32)])), ((aa 26), .inl (cY 0, 9, .inl (m_nf (m_all f cnt)))), ((aa 27), .inl (cY 0, 9, .inl (m_nf (m_all kf kc)))), ((aa 29), .inl (cY 0, 9, .inl (m_nf (m_all sf sn)))), ((aa 28), .inl (cY 0, 36, .inl (m_nf rv))), ((aa 30), .inl (cY 0, 60, .inl (m_nf tx))), ((aa 31), .inl (cY 0, 16, .inl (m_nf cv))), ((aa 32), .inl (cY 0, 16, .inl (m_nf bv)))] ++ m_pool sa pt pg pf pe)) C0 hl hP hD hS (c_L_solve_ok l D cY (aa 1) (aa 2) (aa 3) (aa 4) (aa 5) (aa 6) (aa 7) (aa 8) sk (aa 9) bp x (aa 0) ov (by first | assumption | omega) (by first | assumption | omega)) (vx_cwSW 3 hts gL_law_L_solve rfl rfl rfl (by decide +kernel) ⟨Nat.le_of_ble_eq_true rfl, Nat.le_of_ble_eq_true rfl⟩) dL_law_1467 [0, 1, 2, 3] [4, 5, 6, 7, 8, 9, 10, 11, 12, 13, 14, 15, 16, 17, 18, 19, 20, 21, 22, 23, 24, 25, 26, 27, 28, 29, 30, 31, 32, 33, 34, 35, 36, 37, 38, 39, 40, 41, 42, 43, 44, 45, 46, 47] rfl rfl (by decide) (by decide) (by decide) rfl (Nat.le_of_ble_eq_true rfl) (by omega) (by omega) (fun _ => rfl) (fun r2 u H1 locs hw hP hD hS => ?_)
  try dsimp only at hw
  obtain rfl := hw
  have hP : va_P D vwCl (law_w cY aa sa bp (vp_updL ov 0 (Int32.toInt64 (n_sol x))) fr tf len sc cur tx f cnt rf rc sf sn z g0 g1 g2 g3 t0 t1 t2 t3 sk pt pg pf pe th ta yr ys yo yf ye kf kc rv cv bv f cnt sf sn z sk len tx) H1 := hP.sub (ws' := law_w cY aa sa bp (vp_updL ov 0 (Int32.toInt64 (n_sol x))) fr tf len sc cur tx f cnt rf rc sf sn z g0 g1 g2 g3 t0 t1 t2 t3 sk pt pg pf pe th ta yr ys yo yf ye kf kc rv cv bv f cnt sf sn z sk len tx) [44, 45, 46, 47, 0, 1, 2, 3, 4, 5, 6, 7, 8, 9, 10, 11, 12, 13, 14, 15, 16, 17, 18, 19, 20, 21, 22, 23, 24, 25, 26, 27, 28, 29, 30, 31, 32, 33, 34, 35, 36, 37, 38, 39, 40, 41, 42, 43] rfl
  have hD : va_D A (law_w cY aa sa bp (vp_updL ov 0 (Int32.toInt64 (n_sol x))) fr tf len sc cur tx f cnt rf rc sf sn z g0 g1 g2 g3 t0 t1 t2 t3 sk pt pg pf pe th ta yr ys yo yf ye kf kc rv cv bv f cnt sf sn z sk len tx) := hD.sub (ws' := law_w cY aa sa bp (vp_updL ov 0 (Int32.toInt64 (n_sol x))) fr tf len sc cur tx f cnt rf rc sf sn z g0 g1 g2 g3 t0 t1 t2 t3 sk pt pg pf pe th ta yr ys yo yf ye kf kc rv cv bv f cnt sf sn z sk len tx) [44, 45, 46, 47, 0, 1, 2, 3, 4, 5, 6, 7, 8, 9, 10, 11, 12, 13, 14, 15, 16, 17, 18, 19, 20, 21, 22, 23, 24, 25, 26, 27, 28, 29, 30, 31, 32, 33, 34, 35, 36, 37, 38, 39, 40, 41, 42, 43] (by decide) rfl
  refine lv_istore (lv' := [(5, .int (nI 0)), (0, .ref b), (1, .ref (aa 1)), (2, .ref (aa 25)), (3, .ref (aa 0)), (4, .int (nI i))]) hx hb dL_law_1470 hl (by decide) rfl (fun ls hl => ?_)
  refine lv_aload_n hx hb dL_law_1472 rfl (lv_at hl 3 rfl) ?_
  refine lv_aload_n hx hb dL_law_1473 rfl (lv_at hl 1 rfl) ?_
  refine lv_iload hx hb dL_law_1474 (lv_at hl 5 rfl) ?_
  refine lv_iconst (v := nI 1) hx hb dL_law_1476 (by decide) ?_
  refine lv_iadd hx hb dL_law_1477 ?_
  refine lv_topi (nm_r (nI_add _ _) ?_)
  refine va_sld hx hb hX hbl hbA hS (i := nI (i + 1)) (m_in (n := i + 1) (by omega) (by omega)) dL_law_1478 ?_
  refine lv_topi (nm_r (show _ = nI x from by rw [nI_clamp (by omega)]; exact hv1) ?_)
  refine m_callVi (As := [.int (nI x)]) (rest := []) C0 hl hP hD hS (c_X7_solve_ok l D cY (aa 25) (aa 26) (aa 27) (aa 28) (aa 29) (aa 30) (aa 31) (aa 32) z sk th len ta yr ys yo yf ye cv bv x (by first | assumption | omega)) (cwV 1 hts gL_law_X7_solve rfl rfl rfl (by decide +kernel) ⟨Nat.le_of_ble_eq_true rfl, Nat.le_of_ble_eq_true rfl⟩) dL_law_1479 [25, 31, 32] rfl rfl 25 rfl rfl rfl rfl (Nat.le_of_ble_eq_true rfl) (by omega) (by omega) (fun _ => rfl) (fun r4 u H3 locs hw hP hD hS => ?_)
  obtain ⟨cv9_5, bv9_6⟩ := u
  try dsimp only at hw
  obtain rfl := hw
  have hP : va_P D vwCl (law_w cY aa sa bp (vp_updL ov 0 (Int32.toInt64 (n_sol x))) fr tf len sc cur tx f cnt rf rc sf sn z g0 g1 g2 g3 t0 t1 t2 t3 sk pt pg pf pe 0 ta yr ys yo yf ye kf kc rv cv9_5 bv9_6 f cnt sf sn z sk len tx) H3 := hP
  have hD : va_D A (law_w cY aa sa bp (vp_updL ov 0 (Int32.toInt64 (n_sol x))) fr tf len sc cur tx f cnt rf rc sf sn z g0 g1 g2 g3 t0 t1 t2 t3 sk pt pg pf pe 0 ta yr ys yo yf ye kf kc rv cv9_5 bv9_6 f cnt sf sn z sk len tx) := hD
  refine lv_istore (lv' := [(6, .int (n_sol x)), (5, .int (nI 0)), (0, .ref b), (1, .ref (aa 1)), (2, .ref (aa 25)), (3, .ref (aa 0)), (4, .int (nI i))]) hx hb dL_law_1482 hl (by decide) rfl (fun ls hl => ?_)
  refine lv_aload_n hx hb dL_law_1484 rfl (lv_at hl 4 rfl) ?_
  refine m_callVi (As := []) (rest := []) C0 hl hP hD hS (c_X7_thrown l D cY (aa 25) (aa 26) (aa 27) (aa 28) (aa 29) (aa 30) (aa 31) (aa 32) z sk 0 len ta yr ys yo yf ye ) (cwV 0 hts gL_law_X7_thrown rfl rfl rfl (by decide +kernel) ⟨Nat.le_of_ble_eq_true rfl, Nat.le_of_ble_eq_true rfl⟩) dL_law_1485 [25] rfl rfl 25 rfl rfl rfl rfl (Nat.le_of_ble_eq_true rfl) (by omega) (by omega) (fun _ => rfl) (fun r8 u H7 locs hw hP hD hS => ?_)
  try dsimp only at hw
  obtain rfl := hw
  have hP : va_P D vwCl (law_w cY aa sa bp (vp_updL ov 0 (Int32.toInt64 (n_sol x))) fr tf len sc cur tx f cnt rf rc sf sn z g0 g1 g2 g3 t0 t1 t2 t3 sk pt pg pf pe 0 ta yr ys yo yf ye kf kc rv cv9_5 bv9_6 f cnt sf sn z sk len tx) H7 := hP
  have hD : va_D A (law_w cY aa sa bp (vp_updL ov 0 (Int32.toInt64 (n_sol x))) fr tf len sc cur tx f cnt rf rc sf sn z g0 g1 g2 g3 t0 t1 t2 t3 sk pt pg pf pe 0 ta yr ys yo yf ye kf kc rv cv9_5 bv9_6 f cnt sf sn z sk len tx) := hD
  refine lv_iload hx hb dL_law_1488 (lv_at hl 1 rfl) ?_
  refine lv_icmp_eq (tgt := 1495) hx hb dL_law_1490 (by decide) (fun c1490 => ?_) (fun c1490 => ?_)
  rotate_left
  · exact absurd rfl c1490
  refine lv_iload hx hb dL_law_1495 (lv_at hl 1 rfl) ?_
  refine lv_if_ne (tgt := 1512) hx hb dL_law_1497 (by decide) (fun c1497 => ?_) (fun c1497 => ?_)
  · exact absurd rfl c1497
  refine lv_aload_n hx hb dL_law_1500 rfl (lv_at hl 5 rfl) ?_
  refine lv_iconst (v := nI 0) hx hb dL_law_1501 (by decide) ?_
  refine va_lald hx hb hK hP 0 2 rfl rfl (m_in (n := 0) (by decide) (by decide)) dL_law_1502 ?_
  refine lv_topl (nm_r (show _ = Int32.toInt64 (n_sol x) from by rw [nI_clamp (by decide)]; exact if_pos rfl) ?_)
  refine lv_iload hx hb dL_law_1503 (lv_at hl 0 rfl) ?_
  refine lv_i2l (v := Int32.toInt64 (n_sol x)) hx hb dL_law_1505 rfl ?_
  refine W.lcmp hx hb dL_law_1506 ?_
  refine lv_topi (nm_r (m_cmp_self _) ?_)
  refine lv_if_eq (tgt := 1512) hx hb dL_law_1507 (by decide) (fun c1507 => ?_) (fun c1507 => ?_)
  rotate_left
  · exact absurd rfl c1507
  refine lv_goto (tgt := 1541) hx hb dL_law_1512 (by decide) ?_
  refine W.widen (k := cells + 1) (n := slots + 6) (by omega) (by omega) ?_
  exact kk (vp_updL ov 0 (Int32.toInt64 (n_sol x))) fr tf len sc cur tx f cnt rf rc sf sn z g0 g1 g2 g3 t0 t1 t2 t3 sk pt pg pf pe 0 ta yr ys yo yf ye kf kc rv cv9_5 bv9_6 _ _ ls (hI) hP hD hS (lv_sub hl [2, 3, 4, 5, 6] rfl)
set_option maxHeartbeats 4000000 in
set_option maxRecDepth 100000 in
theorem v_products_ok {p : Program} {l : Launch} {e : Env} {s : State} {m : MethodId} {below : List Frame} {meth : Method} {c : Code} {b L : Nat} {xs : Nat → Int32} {D : va_G} {cY : Nat → ClassId} {A : Nat → Prop} {eS : Nat → Nat} {eO : Nat} {Q : State → Prop} {aa sa bp : Nat → Nat} (F : law_F p l e s m meth c b L xs D cY A eS eO bp) {ov : Nat → Int64} {fr : Nat} {tf : Nat → Nat} {len : Nat} {sc : Nat} {cur : Nat} {tx : Nat → Nat} {f : Nat → Nat} {cnt : Nat} {rf : Nat → Nat} {rc : Nat} {sf : Nat → Nat} {sn : Nat} {z : Nat} {g0 : Nat → Nat} {g1 : Nat → Nat} {g2 : Nat → Nat} {g3 : Nat → Nat} {t0 : Nat} {t1 : Nat} {t2 : Nat} {t3 : Nat} {sk : Nat} {pt : Nat → Int32} {pg : Nat → Int32} {pf : Nat → Int32} {pe : Nat → Int32} {th : Nat} {ta : Nat} {yr : Int32} {ys : Int32} {yo : Int32} {yf : Int32} {ye : Int32} {kf : Nat → Nat} {kc : Nat} {rv : Nat → Nat} {cv : Nat → Nat} {bv : Nat → Nat} {i : Nat} (hi : i + 2 < L) {H : Heap} {locs : List Loc} {ls : Array Slot} {cells slots : Nat} (hcl : cells + 1 ≤ room_1.cells) (hsl : slots + 6 ≤ room_1.slots)  
    (hI : law_I fr tf len tx f rf sf z g0 g1 g2 g3 t0 t1 t2 t3 sk rv) (hP : va_P D vwCl (law_w cY aa sa bp ov fr tf len sc cur tx f cnt rf rc sf sn z g0 g1 g2 g3 t0 t1 t2 t3 sk pt pg pf pe th ta yr ys yo yf ye kf kc rv cv bv f cnt sf sn z sk len tx) H) (hD : va_D A (law_w cY aa sa bp ov fr tf len sc cur tx f cnt rf rc sf sn z g0 g1 g2 g3 t0 t1 t2 t3 sk pt pg pf pe th ta yr ys yo yf ye kf kc rv cv bv f cnt sf sn z sk len tx)) (hS : va_S A s.heap H locs) (hl : lv_has ls 7 [(0, .ref b), (1, .ref (aa 1)), (2, .ref (aa 25)), (3, .ref (aa 0)), (4, .int (nI i))]) (kk : law_K p l e s m below meth c b D cY A Q aa sa bp i (cells + 1) (slots + 6)) :
    W p l e room_1 s m #[.ref b] below meth c H locs cells slots Q (F0 m 1515 ls []) := by
  obtain ⟨C0, hE, hX, hbl, hbA, hL, hB, hfl⟩ := id F
  obtain ⟨hx, hb, hr, hml, hts, hown, hlocks, hK, hA⟩ := id C0
  obtain ⟨⟨hf8, hf16⟩, hrf8, ⟨hsf8, hsf16⟩, ⟨⟨hg0, hg0b⟩, ⟨hg1, hg1b⟩, ⟨hg2, hg2b⟩, ⟨hg3, hg3b⟩⟩, hz4, ⟨hfr, htf⟩, ⟨hlen, htx⟩, hsk, hh, hrec, hH⟩ := id hI
  refine lv_aload_n hx hb dL_law_1515 rfl (lv_at hl 1 rfl) ?_
  refine m_callVi (As := []) (rest := []) C0 hl hP hD hS (c_X6_products l D cY (aa 1) (aa 2) (aa 3) (aa 4) (aa 5) (aa 6) (aa 7) (aa 8) sk (aa 13) cnt f ) (cwV 0 hts gL_law_X6_products rfl rfl rfl (by decide +kernel) ⟨Nat.le_of_ble_eq_true rfl, Nat.le_of_ble_eq_true rfl⟩) dL_law_1516 [1, 9, 10] rfl rfl 1 rfl rfl rfl rfl (Nat.le_of_ble_eq_true rfl) (by omega) (by omega) (fun _ => rfl) (fun r2 u H1 locs hw hP hD hS => ?_)
  try dsimp only at hw
  obtain rfl := hw
  have hP : va_P D vwCl (law_w cY aa sa bp ov fr tf len sc cur tx f cnt rf rc sf sn z g0 g1 g2 g3 t0 t1 t2 t3 sk pt pg pf pe th ta yr ys yo yf ye kf kc rv cv bv f cnt sf sn z sk len tx) H1 := hP
  have hD : va_D A (law_w cY aa sa bp ov fr tf len sc cur tx f cnt rf rc sf sn z g0 g1 g2 g3 t0 t1 t2 t3 sk pt pg pf pe th ta yr ys yo yf ye kf kc rv cv bv f cnt sf sn z sk len tx) := hD
  refine lv_aload_n hx hb dL_law_1519 rfl (lv_at hl 2 rfl) ?_
  refine m_callVi (As := []) (rest := [.int (nI cnt)]) C0 hl hP hD hS (c_X7_products l D cY (aa 25) (aa 26) (aa 27) (aa 28) (aa 29) (aa 30) (aa 31) (aa 32) z sk th len ta yr ys yo yf ye f cnt ) (cwV 0 hts gL_law_X7_products rfl rfl rfl (by decide +kernel) ⟨Nat.le_of_ble_eq_true rfl, Nat.le_of_ble_eq_true rfl⟩) dL_law_1520 [25, 26] rfl rfl 25 rfl rfl rfl rfl (Nat.le_of_ble_eq_true rfl) (by omega) (by omega) (fun _ => rfl) (fun r4 u H3 locs hw hP hD hS => ?_)
  try dsimp only at hw
  obtain rfl := hw
  have hP : va_P D vwCl (law_w cY aa sa bp ov fr tf len sc cur tx f cnt rf rc sf sn z g0 g1 g2 g3 t0 t1 t2 t3 sk pt pg pf pe 0 ta yr ys yo yf ye kf kc rv cv bv f cnt sf sn z sk len tx) H3 := hP
  have hD : va_D A (law_w cY aa sa bp ov fr tf len sc cur tx f cnt rf rc sf sn z g0 g1 g2 g3 t0 t1 t2 t3 sk pt pg pf pe 0 ta yr ys yo yf ye kf kc rv cv bv f cnt sf sn z sk len tx) := hD
  refine lv_icmp_eq (tgt := 1541) hx hb dL_law_1523 (by decide) (fun c1523 => ?_) (fun c1523 => ?_)
  rotate_left
  · exact absurd rfl c1523
  refine W.widen (k := cells + 1) (n := slots + 6) (by omega) (by omega) ?_
  exact kk ov fr tf len sc cur tx f cnt rf rc sf sn z g0 g1 g2 g3 t0 t1 t2 t3 sk pt pg pf pe 0 ta yr ys yo yf ye kf kc rv cv bv _ _ ls (hI) hP hD hS (lv_sub hl [0, 1, 2, 3, 4] rfl)
set_option maxHeartbeats 4000000 in
set_option maxRecDepth 100000 in
theorem v_recordedStates_ok {p : Program} {l : Launch} {e : Env} {s : State} {m : MethodId} {below : List Frame} {meth : Method} {c : Code} {b L : Nat} {xs : Nat → Int32} {D : va_G} {cY : Nat → ClassId} {A : Nat → Prop} {eS : Nat → Nat} {eO : Nat} {Q : State → Prop} {aa sa bp : Nat → Nat} (F : law_F p l e s m meth c b L xs D cY A eS eO bp) {ov : Nat → Int64} {fr : Nat} {tf : Nat → Nat} {len : Nat} {sc : Nat} {cur : Nat} {tx : Nat → Nat} {f : Nat → Nat} {cnt : Nat} {rf : Nat → Nat} {rc : Nat} {sf : Nat → Nat} {sn : Nat} {z : Nat} {g0 : Nat → Nat} {g1 : Nat → Nat} {g2 : Nat → Nat} {g3 : Nat → Nat} {t0 : Nat} {t1 : Nat} {t2 : Nat} {t3 : Nat} {sk : Nat} {pt : Nat → Int32} {pg : Nat → Int32} {pf : Nat → Int32} {pe : Nat → Int32} {th : Nat} {ta : Nat} {yr : Int32} {ys : Int32} {yo : Int32} {yf : Int32} {ye : Int32} {kf : Nat → Nat} {kc : Nat} {rv : Nat → Nat} {cv : Nat → Nat} {bv : Nat → Nat} {i : Nat} (hi : i + 2 < L) {H : Heap} {locs : List Loc} {ls : Array Slot} {cells slots : Nat} (hcl : cells + 1 ≤ room_1.cells) (hsl : slots + 6 ≤ room_1.slots)  
    (hI : law_I fr tf len tx f rf sf z g0 g1 g2 g3 t0 t1 t2 t3 sk rv) (hP : va_P D vwCl (law_w cY aa sa bp ov fr tf len sc cur tx f cnt rf rc sf sn z g0 g1 g2 g3 t0 t1 t2 t3 sk pt pg pf pe th ta yr ys yo yf ye kf kc rv cv bv f cnt sf sn z sk len tx) H) (hD : va_D A (law_w cY aa sa bp ov fr tf len sc cur tx f cnt rf rc sf sn z g0 g1 g2 g3 t0 t1 t2 t3 sk pt pg pf pe th ta yr ys yo yf ye kf kc rv cv bv f cnt sf sn z sk len tx)) (hS : va_S A s.heap H locs) (hl : lv_has ls 7 [(0, .ref b), (1, .ref (aa 1)), (2, .ref (aa 25)), (3, .ref (aa 0)), (4, .int (nI i))]) (kk : law_K p l e s m below meth c b D cY A Q aa sa bp i (cells + 1) (slots + 6)) :
    W p l e room_1 s m #[.ref b] below meth c H locs cells slots Q (F0 m 1528 ls []) := by
  obtain ⟨C0, hE, hX, hbl, hbA, hL, hB, hfl⟩ := id F
  obtain ⟨hx, hb, hr, hml, hts, hown, hlocks, hK, hA⟩ := id C0
  obtain ⟨⟨hf8, hf16⟩, hrf8, ⟨hsf8, hsf16⟩, ⟨⟨hg0, hg0b⟩, ⟨hg1, hg1b⟩, ⟨hg2, hg2b⟩, ⟨hg3, hg3b⟩⟩, hz4, ⟨hfr, htf⟩, ⟨hlen, htx⟩, hsk, hh, hrec, hH⟩ := id hI
  refine lv_aload_n hx hb dL_law_1528 rfl (lv_at hl 1 rfl) ?_
  refine m_callVj (As := []) (rest := []) (wr := ([((aa 0), .inl (cY 2, 1, .inr (.inl ov))), ((aa 2), .inr (2, [.ref (aa 9)])), ((aa 9), .inl (cY 0, 256, .inl (m_nf bp))), ((aa 3), .inr (1, [.ref (aa 10), .int (nI fr)])), ((aa 10), .inl (cY 0, 256, .inl (m_nf tf))), ((aa 4), .inr (3, [.ref (aa 11), .ref (aa 12), .int (nI len), .int (nI sc), .int (nI cur)])), ((aa 11), .inl (cY 1, 60, .inl (m_nf tx))), ((aa 12), .inl (cY 4, 15, .inr (.inr (.inr (.inr (m_sa sa)))))), ((aa 5), .inr (4, [.ref (aa 13), .int (nI cnt)])), ((aa 13), .inl (cY 0, 8, .inl (m_nf f))), ((aa 6), .inr (4, [.ref (aa 14), .int (nI rc)])), ((aa 14), .inl (cY 0, 8, .inl (m_nf rf))), ((aa 7), .inr (4, [.ref (aa 15), .int (nI sn)])), ((aa 15), .inl (cY 0, 8, .inl (m_nf sf))), ((aa 25), .inr (7, [.ref (aa 26), .ref (aa 27), .ref (aa 28), .int (nI z), .ref (aa 29), .int (nI sk), .int (nI th), .ref (aa 30), .int (nI len), .int (nI ta), .int yr, .int ys, .int yo, .int yf, .int ye, .ref (aa 31), .ref (aa 32)])), ((aa 26), .inl (cY 0, 9, .inl (m_nf (m_all f cnt)))), ((aa 27), .inl (cY 0, 9, .inl (m_nf (m_all kf kc)))), ((aa 29), .inl (cY 0, 9, .inl (m_nf (m_all sf sn)))), ((aa 28), .inl (cY 0, 36, .inl (m_nf rv))), ((aa 30), .inl (cY 0, 60, .inl (m_nf tx))), ((aa 31), .inl (cY 0, 16, .inl (m_nf cv))), ((aa 32), .inl (cY 0, 16, .inl (m_nf bv)))] ++ m_pool sa pt pg pf pe)) C0 hl hP hD hS (c_X6_recordedStates l D cY (aa 1) (aa 2) (aa 3) (aa 4) (aa 5) (aa 6) (aa 7) (aa 8) sk (aa 16) z (aa 17) (aa 18) (aa 19) (aa 20) (aa 21) (aa 22) (aa 23) (aa 24) t0 t1 t2 t3 g0 g1 g2 g3 ) (cwV 0 hts gL_law_X6_recordedStates rfl rfl rfl (by decide +kernel) ⟨Nat.le_of_ble_eq_true rfl, Nat.le_of_ble_eq_true rfl⟩) dL_law_1529 [1, 15, 16, 17, 18, 19, 20, 21, 22, 23, 24] [0, 2, 3, 4, 5, 6, 7, 8, 9, 10, 11, 12, 13, 14, 25, 26, 27, 28, 29, 30, 31, 32, 33, 34, 35, 36, 37, 38, 39, 40, 41, 42, 43, 44, 45, 46, 47] rfl rfl (by decide) (by decide) (by decide) 1 rfl rfl rfl rfl (Nat.le_of_ble_eq_true rfl) (by omega) (by omega) (fun _ => rfl) (fun r2 u H1 locs hw hP hD hS => ?_)
  try dsimp only at hw
  obtain rfl := hw
  have hP : va_P D vwCl (law_w cY aa sa bp ov fr tf len sc cur tx f cnt rf rc sf sn z g0 g1 g2 g3 t0 t1 t2 t3 sk pt pg pf pe th ta yr ys yo yf ye kf kc rv cv bv f cnt sf sn z sk len tx) H1 := hP.sub (ws' := law_w cY aa sa bp ov fr tf len sc cur tx f cnt rf rc sf sn z g0 g1 g2 g3 t0 t1 t2 t3 sk pt pg pf pe th ta yr ys yo yf ye kf kc rv cv bv f cnt sf sn z sk len tx) [0, 37, 1, 2, 3, 4, 5, 6, 7, 8, 9, 10, 11, 12, 13, 38, 39, 40, 41, 42, 43, 44, 45, 46, 47, 14, 15, 16, 17, 18, 19, 20, 21, 22, 23, 24, 25, 26, 27, 28, 29, 30, 31, 32, 33, 34, 35, 36] rfl
  have hD : va_D A (law_w cY aa sa bp ov fr tf len sc cur tx f cnt rf rc sf sn z g0 g1 g2 g3 t0 t1 t2 t3 sk pt pg pf pe th ta yr ys yo yf ye kf kc rv cv bv f cnt sf sn z sk len tx) := hD.sub (ws' := law_w cY aa sa bp ov fr tf len sc cur tx f cnt rf rc sf sn z g0 g1 g2 g3 t0 t1 t2 t3 sk pt pg pf pe th ta yr ys yo yf ye kf kc rv cv bv f cnt sf sn z sk len tx) [0, 37, 1, 2, 3, 4, 5, 6, 7, 8, 9, 10, 11, 12, 13, 38, 39, 40, 41, 42, 43, 44, 45, 46, 47, 14, 15, 16, 17, 18, 19, 20, 21, 22, 23, 24, 25, 26, 27, 28, 29, 30, 31, 32, 33, 34, 35, 36] (by decide) rfl
  refine lv_aload_n hx hb dL_law_1532 rfl (lv_at hl 2 rfl) ?_
  refine m_callVi (As := []) (rest := [.int (nI z)]) C0 hl hP hD hS (c_X7_recordedStates l D cY (aa 25) (aa 26) (aa 27) (aa 28) (aa 29) (aa 30) (aa 31) (aa 32) z sk th len ta yr ys yo yf ye ) (cwV 0 hts gL_law_X7_recordedStates rfl rfl rfl (by decide +kernel) ⟨Nat.le_of_ble_eq_true rfl, Nat.le_of_ble_eq_true rfl⟩) dL_law_1533 [25] rfl rfl 25 rfl rfl rfl rfl (Nat.le_of_ble_eq_true rfl) (by omega) (by omega) (fun _ => rfl) (fun r4 u H3 locs hw hP hD hS => ?_)
  try dsimp only at hw
  obtain rfl := hw
  have hP : va_P D vwCl (law_w cY aa sa bp ov fr tf len sc cur tx f cnt rf rc sf sn z g0 g1 g2 g3 t0 t1 t2 t3 sk pt pg pf pe 0 ta yr ys yo yf ye kf kc rv cv bv f cnt sf sn z sk len tx) H3 := hP
  have hD : va_D A (law_w cY aa sa bp ov fr tf len sc cur tx f cnt rf rc sf sn z g0 g1 g2 g3 t0 t1 t2 t3 sk pt pg pf pe 0 ta yr ys yo yf ye kf kc rv cv bv f cnt sf sn z sk len tx) := hD
  refine lv_icmp_eq (tgt := 1541) hx hb dL_law_1536 (by decide) (fun c1536 => ?_) (fun c1536 => ?_)
  rotate_left
  · exact absurd rfl c1536
  refine W.widen (k := cells + 1) (n := slots + 6) (by omega) (by omega) ?_
  exact kk ov fr tf len sc cur tx f cnt rf rc sf sn z g0 g1 g2 g3 t0 t1 t2 t3 sk pt pg pf pe 0 ta yr ys yo yf ye kf kc rv cv bv _ _ ls (hI) hP hD hS (lv_sub hl [0, 1, 2, 3, 4] rfl)
