/-! The law's variants. -/
set_option maxHeartbeats 4000000 in
set_option maxRecDepth 100000 in
theorem v_exchange_x1 {p : Program} {l : Launch} {e : Env} {s : State} {m : MethodId} {below : List Frame} {meth : Method} {c : Code} {b L : Nat} {xs : Nat → Int32} {D : va_G} {cY : Nat → ClassId} {A : Nat → Prop} {eS : Nat → Nat} {eO : Nat} {Q : State → Prop} {aa sa bp : Nat → Nat} (F : law_F p l e s m meth c b L xs D cY A eS eO bp) {ov : Nat → Int64} {fr : Nat} {tf : Nat → Nat} {len : Nat} {sc : Nat} {cur : Nat} {tx : Nat → Nat} {f : Nat → Nat} {cnt : Nat} {rf : Nat → Nat} {rc : Nat} {sf : Nat → Nat} {sn : Nat} {z : Nat} {g0 : Nat → Nat} {g1 : Nat → Nat} {g2 : Nat → Nat} {g3 : Nat → Nat} {t0 : Nat} {t1 : Nat} {t2 : Nat} {t3 : Nat} {sk : Nat} {pt : Nat → Int32} {pg : Nat → Int32} {pf : Nat → Int32} {pe : Nat → Int32} {th : Nat} {ta : Nat} {yr : Int32} {ys : Int32} {yo : Int32} {yf : Int32} {ye : Int32} {kf : Nat → Nat} {kc : Nat} {rv : Nat → Nat} {cv : Nat → Nat} {bv : Nat → Nat} {i : Nat} (hi : i + 2 < L) {H : Heap} {locs : List Loc} {ls : Array Slot} {cells slots : Nat} (hcl : cells + 1 ≤ room_1.cells) (hsl : slots + 6 ≤ room_1.slots) (x y : Int32) (hn : ¬ (m_isR x ∧ m_isR y)) (hv1 : xs (i + 1) = x) (hv2 : xs (i + 2) = y)
    (hI : law_I fr tf len tx f rf sf z g0 g1 g2 g3 t0 t1 t2 t3 sk rv) (hP : va_P D vwCl (law_w cY aa sa bp ov fr tf len sc cur tx f cnt rf rc sf sn z g0 g1 g2 g3 t0 t1 t2 t3 sk pt pg pf pe th ta yr ys yo yf ye kf kc rv cv bv f cnt sf sn z sk len tx) H) (hD : va_D A (law_w cY aa sa bp ov fr tf len sc cur tx f cnt rf rc sf sn z g0 g1 g2 g3 t0 t1 t2 t3 sk pt pg pf pe th ta yr ys yo yf ye kf kc rv cv bv f cnt sf sn z sk len tx)) (hS : va_S A s.heap H locs) (hl : lv_has ls 7 [(0, .ref b), (1, .ref (aa 1)), (2, .ref (aa 25)), (3, .ref (aa 0)), (4, .int (nI i))]) (kk : law_K p l e s m below meth c b D cY A Q aa sa bp i (cells + 1) (slots + 6)) :
    W p l e room_1 s m #[.ref b] below meth c H locs cells slots Q (F0 m 416 ls []) := by
  obtain ⟨C0, hE, hX, hbl, hbA, hL, hB, hfl⟩ := id F
  obtain ⟨hx, hb, hr, hml, hts, hown, hlocks, hK, hA⟩ := id C0
  obtain ⟨⟨hf8, hf16⟩, hrf8, ⟨hsf8, hsf16⟩, ⟨⟨hg0, hg0b⟩, ⟨hg1, hg1b⟩, ⟨hg2, hg2b⟩, ⟨hg3, hg3b⟩⟩, hz4, ⟨hfr, htf⟩, ⟨hlen, htx⟩, hsk, hh, hrec, hH⟩ := id hI
  refine lv_aload_n hx hb dL_law_416 rfl (lv_at hl 1 rfl) ?_
  refine lv_aload_n hx hb dL_law_417 rfl (lv_at hl 0 rfl) ?_
  refine lv_iload hx hb dL_law_418 (lv_at hl 4 rfl) ?_
  refine lv_iconst (v := nI 1) hx hb dL_law_420 (by decide) ?_
  refine lv_iadd hx hb dL_law_421 ?_
  refine lv_topi (nm_r (nI_add _ _) ?_)
  refine va_sld hx hb hX hbl hbA hS (i := nI (i + 1)) (m_in (n := i + 1) (by omega) (by omega)) dL_law_422 ?_
  refine lv_topi (nm_r (show _ = x from by rw [nI_clamp (by omega)]; exact hv1) ?_)
  refine lv_aload_n hx hb dL_law_423 rfl (lv_at hl 0 rfl) ?_
  refine lv_iload hx hb dL_law_424 (lv_at hl 4 rfl) ?_
  refine lv_iconst (v := nI 2) hx hb dL_law_426 (by decide) ?_
  refine lv_iadd hx hb dL_law_427 ?_
  refine lv_topi (nm_r (nI_add _ _) ?_)
  refine va_sld hx hb hX hbl hbA hS (i := nI (i + 2)) (m_in (n := i + 2) (by omega) (by omega)) dL_law_428 ?_
  refine lv_topi (nm_r (show _ = y from by rw [nI_clamp (by omega)]; exact hv2) ?_)
  refine lv_aload_n hx hb dL_law_429 rfl (lv_at hl 3 rfl) ?_
  refine m_callTe (As := [.ref (aa 1), .int x, .int y, .ref (aa 0)]) (rest := []) C0 hE hl hP hD hS (c_L_exchange_x1 l hfl D cY eS eO (aa 1) (aa 2) (aa 3) (aa 4) (aa 5) (aa 6) (aa 7) (aa 8) sk x y (aa 0) ov (by first | assumption | omega)) (vx_cwSW 4 hts gL_law_L_exchange rfl rfl rfl (by decide +kernel) ⟨Nat.le_of_ble_eq_true rfl, Nat.le_of_ble_eq_true rfl⟩) dL_law_430 [0, 1] rfl rfl rfl (Nat.le_of_ble_eq_true rfl) (by omega) (by omega) (fun _ => rfl) (fun r2 u H1 locs hw hP hD hS => ?_)
  try dsimp only at hw
  obtain rfl := hw
  have hP : va_P D vwCl (law_w cY aa sa bp ov fr tf len sc cur tx f cnt rf rc sf sn z g0 g1 g2 g3 t0 t1 t2 t3 sk pt pg pf pe th ta yr ys yo yf ye kf kc rv cv bv f cnt sf sn z sk len tx) H1 := hP
  have hD : va_D A (law_w cY aa sa bp ov fr tf len sc cur tx f cnt rf rc sf sn z g0 g1 g2 g3 t0 t1 t2 t3 sk pt pg pf pe th ta yr ys yo yf ye kf kc rv cv bv f cnt sf sn z sk len tx) := hD
  refine lv_istore (lv' := [(5, .int (nI 1)), (0, .ref b), (1, .ref (aa 1)), (2, .ref (aa 25)), (3, .ref (aa 0)), (4, .int (nI i))]) hx hb dL_law_433 hl (by decide) rfl (fun ls hl => ?_)
  refine lv_aload_n hx hb dL_law_435 rfl (lv_at hl 3 rfl) ?_
  refine lv_aload_n hx hb dL_law_436 rfl (lv_at hl 1 rfl) ?_
  refine lv_iload hx hb dL_law_437 (lv_at hl 5 rfl) ?_
  refine lv_iconst (v := nI 1) hx hb dL_law_439 (by decide) ?_
  refine lv_iadd hx hb dL_law_440 ?_
  refine lv_topi (nm_r (nI_add _ _) ?_)
  refine va_sld hx hb hX hbl hbA hS (i := nI (i + 1)) (m_in (n := i + 1) (by omega) (by omega)) dL_law_441 ?_
  refine lv_topi (nm_r (show _ = x from by rw [nI_clamp (by omega)]; exact hv1) ?_)
  refine lv_aload_n hx hb dL_law_442 rfl (lv_at hl 1 rfl) ?_
  refine lv_iload hx hb dL_law_443 (lv_at hl 5 rfl) ?_
  refine lv_iconst (v := nI 2) hx hb dL_law_445 (by decide) ?_
  refine lv_iadd hx hb dL_law_446 ?_
  refine lv_topi (nm_r (nI_add _ _) ?_)
  refine va_sld hx hb hX hbl hbA hS (i := nI (i + 2)) (m_in (n := i + 2) (by omega) (by omega)) dL_law_447 ?_
  refine lv_topi (nm_r (show _ = y from by rw [nI_clamp (by omega)]; exact hv2) ?_)
  refine m_callVi (As := [.int x, .int y]) (rest := []) C0 hl hP hD hS (c_X7_exchange_f1 l D cY (aa 25) (aa 26) (aa 27) (aa 28) (aa 29) (aa 30) (aa 31) (aa 32) z sk th len ta yr ys yo yf ye x y (by first | assumption | omega)) (cwV 2 hts gL_law_X7_exchange rfl rfl rfl (by decide +kernel) ⟨Nat.le_of_ble_eq_true rfl, Nat.le_of_ble_eq_true rfl⟩) dL_law_448 [25] rfl rfl 25 rfl rfl rfl rfl (Nat.le_of_ble_eq_true rfl) (by omega) (by omega) (fun _ => rfl) (fun r4 u H3 locs hw hP hD hS => ?_)
  try dsimp only at hw
  obtain rfl := hw
  have hP : va_P D vwCl (law_w cY aa sa bp ov fr tf len sc cur tx f cnt rf rc sf sn z g0 g1 g2 g3 t0 t1 t2 t3 sk pt pg pf pe 1 ta yr ys yo yf ye kf kc rv cv bv f cnt sf sn z sk len tx) H3 := hP
  have hD : va_D A (law_w cY aa sa bp ov fr tf len sc cur tx f cnt rf rc sf sn z g0 g1 g2 g3 t0 t1 t2 t3 sk pt pg pf pe 1 ta yr ys yo yf ye kf kc rv cv bv f cnt sf sn z sk len tx) := hD
  refine lv_istore (lv' := [(6, .int (nI 0)), (5, .int (nI 1)), (0, .ref b), (1, .ref (aa 1)), (2, .ref (aa 25)), (3, .ref (aa 0)), (4, .int (nI i))]) hx hb dL_law_451 hl (by decide) rfl (fun ls hl => ?_)
  refine lv_aload_n hx hb dL_law_453 rfl (lv_at hl 4 rfl) ?_
  refine m_callVi (As := []) (rest := []) C0 hl hP hD hS (c_X7_thrown l D cY (aa 25) (aa 26) (aa 27) (aa 28) (aa 29) (aa 30) (aa 31) (aa 32) z sk 1 len ta yr ys yo yf ye ) (cwV 0 hts gL_law_X7_thrown rfl rfl rfl (by decide +kernel) ⟨Nat.le_of_ble_eq_true rfl, Nat.le_of_ble_eq_true rfl⟩) dL_law_454 [25] rfl rfl 25 rfl rfl rfl rfl (Nat.le_of_ble_eq_true rfl) (by omega) (by omega) (fun _ => rfl) (fun r6 u H5 locs hw hP hD hS => ?_)
  try dsimp only at hw
  obtain rfl := hw
  have hP : va_P D vwCl (law_w cY aa sa bp ov fr tf len sc cur tx f cnt rf rc sf sn z g0 g1 g2 g3 t0 t1 t2 t3 sk pt pg pf pe 1 ta yr ys yo yf ye kf kc rv cv bv f cnt sf sn z sk len tx) H5 := hP
  have hD : va_D A (law_w cY aa sa bp ov fr tf len sc cur tx f cnt rf rc sf sn z g0 g1 g2 g3 t0 t1 t2 t3 sk pt pg pf pe 1 ta yr ys yo yf ye kf kc rv cv bv f cnt sf sn z sk len tx) := hD
  refine lv_iload hx hb dL_law_457 (lv_at hl 1 rfl) ?_
  refine lv_icmp_eq (tgt := 464) hx hb dL_law_459 (by decide) (fun c459 => ?_) (fun c459 => ?_)
  rotate_left
  · exact absurd rfl c459
  refine lv_iload hx hb dL_law_464 (lv_at hl 1 rfl) ?_
  refine lv_if_ne (tgt := 481) hx hb dL_law_466 (by decide) (fun c466 => ?_) (fun c466 => ?_)
  rotate_left
  · exact absurd c466 (by decide)
  refine lv_goto (tgt := 1541) hx hb dL_law_481 (by decide) ?_
  refine W.widen (k := cells + 1) (n := slots + 6) (by omega) (by omega) ?_
  exact kk ov fr tf len sc cur tx f cnt rf rc sf sn z g0 g1 g2 g3 t0 t1 t2 t3 sk pt pg pf pe 1 ta yr ys yo yf ye kf kc rv cv bv _ _ ls (hI) hP hD hS (lv_sub hl [2, 3, 4, 5, 6] rfl)
set_option maxHeartbeats 4000000 in
set_option maxRecDepth 100000 in
theorem v_exchange_ok {p : Program} {l : Launch} {e : Env} {s : State} {m : MethodId} {below : List Frame} {meth : Method} {c : Code} {b L : Nat} {xs : Nat → Int32} {D : va_G} {cY : Nat → ClassId} {A : Nat → Prop} {eS : Nat → Nat} {eO : Nat} {Q : State → Prop} {aa sa bp : Nat → Nat} (F : law_F p l e s m meth c b L xs D cY A eS eO bp) {ov : Nat → Int64} {fr : Nat} {tf : Nat → Nat} {len : Nat} {sc : Nat} {cur : Nat} {tx : Nat → Nat} {f : Nat → Nat} {cnt : Nat} {rf : Nat → Nat} {rc : Nat} {sf : Nat → Nat} {sn : Nat} {z : Nat} {g0 : Nat → Nat} {g1 : Nat → Nat} {g2 : Nat → Nat} {g3 : Nat → Nat} {t0 : Nat} {t1 : Nat} {t2 : Nat} {t3 : Nat} {sk : Nat} {pt : Nat → Int32} {pg : Nat → Int32} {pf : Nat → Int32} {pe : Nat → Int32} {th : Nat} {ta : Nat} {yr : Int32} {ys : Int32} {yo : Int32} {yf : Int32} {ye : Int32} {kf : Nat → Nat} {kc : Nat} {rv : Nat → Nat} {cv : Nat → Nat} {bv : Nat → Nat} {i : Nat} (hi : i + 2 < L) {H : Heap} {locs : List Loc} {ls : Array Slot} {cells slots : Nat} (hcl : cells + 1 ≤ room_1.cells) (hsl : slots + 6 ≤ room_1.slots) (k j : Nat) (hk : k < 8) (hj : j < 8) (hv1 : xs (i + 1) = nI k) (hv2 : xs (i + 2) = nI j)
    (hI : law_I fr tf len tx f rf sf z g0 g1 g2 g3 t0 t1 t2 t3 sk rv) (hP : va_P D vwCl (law_w cY aa sa bp ov fr tf len sc cur tx f cnt rf rc sf sn z g0 g1 g2 g3 t0 t1 t2 t3 sk pt pg pf pe th ta yr ys yo yf ye kf kc rv cv bv f cnt sf sn z sk len tx) H) (hD : va_D A (law_w cY aa sa bp ov fr tf len sc cur tx f cnt rf rc sf sn z g0 g1 g2 g3 t0 t1 t2 t3 sk pt pg pf pe th ta yr ys yo yf ye kf kc rv cv bv f cnt sf sn z sk len tx)) (hS : va_S A s.heap H locs) (hl : lv_has ls 7 [(0, .ref b), (1, .ref (aa 1)), (2, .ref (aa 25)), (3, .ref (aa 0)), (4, .int (nI i))]) (kk : law_K p l e s m below meth c b D cY A Q aa sa bp i (cells + 1) (slots + 6)) :
    W p l e room_1 s m #[.ref b] below meth c H locs cells slots Q (F0 m 416 ls []) := by
  obtain ⟨C0, hE, hX, hbl, hbA, hL, hB, hfl⟩ := id F
  obtain ⟨hx, hb, hr, hml, hts, hown, hlocks, hK, hA⟩ := id C0
  obtain ⟨⟨hf8, hf16⟩, hrf8, ⟨hsf8, hsf16⟩, ⟨⟨hg0, hg0b⟩, ⟨hg1, hg1b⟩, ⟨hg2, hg2b⟩, ⟨hg3, hg3b⟩⟩, hz4, ⟨hfr, htf⟩, ⟨hlen, htx⟩, hsk, hh, hrec, hH⟩ := id hI
  refine lv_aload_n hx hb dL_law_416 rfl (lv_at hl 1 rfl) ?_
  refine lv_aload_n hx hb dL_law_417 rfl (lv_at hl 0 rfl) ?_
  refine lv_iload hx hb dL_law_418 (lv_at hl 4 rfl) ?_
  refine lv_iconst (v := nI 1) hx hb dL_law_420 (by decide) ?_
  refine lv_iadd hx hb dL_law_421 ?_
  refine lv_topi (nm_r (nI_add _ _) ?_)
  refine va_sld hx hb hX hbl hbA hS (i := nI (i + 1)) (m_in (n := i + 1) (by omega) (by omega)) dL_law_422 ?_
  refine lv_topi (nm_r (show _ = nI k from by rw [nI_clamp (by omega)]; exact hv1) ?_)
  refine lv_aload_n hx hb dL_law_423 rfl (lv_at hl 0 rfl) ?_
  refine lv_iload hx hb dL_law_424 (lv_at hl 4 rfl) ?_
  refine lv_iconst (v := nI 2) hx hb dL_law_426 (by decide) ?_
  refine lv_iadd hx hb dL_law_427 ?_
  refine lv_topi (nm_r (nI_add _ _) ?_)
  refine va_sld hx hb hX hbl hbA hS (i := nI (i + 2)) (m_in (n := i + 2) (by omega) (by omega)) dL_law_428 ?_
  refine lv_topi (nm_r (show _ = nI j from by rw [nI_clamp (by omega)]; exact hv2) ?_)
  refine lv_aload_n hx hb dL_law_429 rfl (lv_at hl 3 rfl) ?_
  refine m_callTji (As := [.ref (aa 1), .int (nI k), .int (nI j), .ref (aa 0)]) (rest := []) (wr := ([((aa 2), .inr (2, [.ref (aa 9)])), ((aa 9), .inl (cY 0, 256, .inl (m_nf bp))), ((aa 3), .inr (1, [.ref (aa 10), .int (nI fr)])), ((aa 10), .inl (cY 0, 256, .inl (m_nf tf))), ((aa 4), .inr (3, [.ref (aa 11), .ref (aa 12), .int (nI len), .int (nI sc), .int (nI cur)])), ((aa 11), .inl (cY 1, 60, .inl (m_nf tx))), ((aa 12), .inl (cY 4, 15, .inr (.inr (.inr (.inr (m_sa sa)))))), ((aa 6), .inr (4, [.ref (aa 14), .int (nI rc)])), ((aa 14), .inl (cY 0, 8, .inl (m_nf rf))), ((aa 7), .inr (4, [.ref (aa 15), .int (nI sn)])), ((aa 15), .inl (cY 0, 8, .inl (m_nf sf))), ((aa 25), .inr (7, [.ref (aa 26), .ref (aa 27), .ref (aa 28), .int (nI z), .ref (aa 29), .int (nI sk), .int (nI th), .ref (aa 30), .int (nI len), .int (nI ta), .int yr, .int ys, .int yo, .int yf, .int ye, .ref (aa 31), .ref (aa 32)])), ((aa 26), .inl (cY 0, 9, .inl (m_nf (m_all f cnt)))), ((aa 27), .inl (cY 0, 9, .inl (m_nf (m_all kf kc)))), ((aa 29), .inl (cY 0, 9, .inl (m_nf (m_all sf sn)))), ((aa 28), .inl (cY 0, 36, .inl (m_nf rv))), ((aa 30), .inl (cY 0, 60, .inl (m_nf tx))), ((aa 31), .inl (cY 0, 16, .inl (m_nf cv))), ((aa 32), .inl (cY 0, 16, .inl (m_nf bv)))] ++ m_pool sa pt pg pf pe)) C0 hl hP hD hS (c_L_exchange_ok l D cY (aa 1) (aa 2) (aa 3) (aa 4) (aa 5) (aa 6) (aa 7) (aa 8) sk (aa 13) cnt f (aa 16) z (aa 17) (aa 18) (aa 19) (aa 20) (aa 21) (aa 22) (aa 23) (aa 24) t0 t1 t2 t3 g0 g1 g2 g3 k j (aa 0) ov (by first | assumption | omega) (by first | assumption | omega) (by first | assumption | omega) (by first | assumption | omega) (by first | assumption | omega) (by first | assumption | omega) (by first | assumption | omega) (by first | assumption | omega) (by first | assumption | omega)) (vx_cwSW 4 hts gL_law_L_exchange rfl rfl rfl (by decide +kernel) ⟨Nat.le_of_ble_eq_true rfl, Nat.le_of_ble_eq_true rfl⟩) dL_law_430 [0, 1, 9, 10, 15, 16, 17, 18, 19, 20, 21, 22, 23, 24] [2, 3, 4, 5, 6, 7, 8, 11, 12, 13, 14, 25, 26, 27, 28, 29, 30, 31, 32, 33, 34, 35, 36, 37, 38, 39, 40, 41, 42, 43, 44, 45, 46, 47] rfl rfl (by decide) (by decide) (by decide) rfl (Nat.le_of_ble_eq_true rfl) (by omega) (by omega) (fun _ => rfl) (fun r2 u H1 locs hw hP hD hS => ?_)
  try dsimp only at hw
  obtain rfl := hw
  have hP : va_P D vwCl (law_w cY aa sa bp (vp_updL ov 0 (Int32.toInt64 (nI (f j)))) fr tf len sc cur tx (m_up (m_up f k (f j)) j (f k)) cnt rf rc sf sn (min (z + 1) 4) f g0 g1 g2 cnt t0 t1 t2 sk pt pg pf pe th ta yr ys yo yf ye kf kc rv cv bv f cnt sf sn z sk len tx) H1 := hP.sub (ws' := law_w cY aa sa bp (vp_updL ov 0 (Int32.toInt64 (nI (f j)))) fr tf len sc cur tx (m_up (m_up f k (f j)) j (f k)) cnt rf rc sf sn (min (z + 1) 4) f g0 g1 g2 cnt t0 t1 t2 sk pt pg pf pe th ta yr ys yo yf ye kf kc rv cv bv f cnt sf sn z sk len tx) [34, 35, 0, 1, 2, 3, 4, 5, 6, 36, 37, 7, 8, 9, 10, 38, 39, 40, 41, 42, 43, 44, 45, 46, 47, 11, 12, 13, 14, 15, 16, 17, 18, 19, 20, 21, 22, 23, 24, 25, 26, 27, 28, 29, 30, 31, 32, 33] rfl
  have hD : va_D A (law_w cY aa sa bp (vp_updL ov 0 (Int32.toInt64 (nI (f j)))) fr tf len sc cur tx (m_up (m_up f k (f j)) j (f k)) cnt rf rc sf sn (min (z + 1) 4) f g0 g1 g2 cnt t0 t1 t2 sk pt pg pf pe th ta yr ys yo yf ye kf kc rv cv bv f cnt sf sn z sk len tx) := hD.sub (ws' := law_w cY aa sa bp (vp_updL ov 0 (Int32.toInt64 (nI (f j)))) fr tf len sc cur tx (m_up (m_up f k (f j)) j (f k)) cnt rf rc sf sn (min (z + 1) 4) f g0 g1 g2 cnt t0 t1 t2 sk pt pg pf pe th ta yr ys yo yf ye kf kc rv cv bv f cnt sf sn z sk len tx) [34, 35, 0, 1, 2, 3, 4, 5, 6, 36, 37, 7, 8, 9, 10, 38, 39, 40, 41, 42, 43, 44, 45, 46, 47, 11, 12, 13, 14, 15, 16, 17, 18, 19, 20, 21, 22, 23, 24, 25, 26, 27, 28, 29, 30, 31, 32, 33] (by decide) rfl
  refine lv_istore (lv' := [(5, .int (nI 0)), (0, .ref b), (1, .ref (aa 1)), (2, .ref (aa 25)), (3, .ref (aa 0)), (4, .int (nI i))]) hx hb dL_law_433 hl (by decide) rfl (fun ls hl => ?_)
  refine lv_aload_n hx hb dL_law_435 rfl (lv_at hl 3 rfl) ?_
  refine lv_aload_n hx hb dL_law_436 rfl (lv_at hl 1 rfl) ?_
  refine lv_iload hx hb dL_law_437 (lv_at hl 5 rfl) ?_
  refine lv_iconst (v := nI 1) hx hb dL_law_439 (by decide) ?_
  refine lv_iadd hx hb dL_law_440 ?_
  refine lv_topi (nm_r (nI_add _ _) ?_)
  refine va_sld hx hb hX hbl hbA hS (i := nI (i + 1)) (m_in (n := i + 1) (by omega) (by omega)) dL_law_441 ?_
  refine lv_topi (nm_r (show _ = nI k from by rw [nI_clamp (by omega)]; exact hv1) ?_)
  refine lv_aload_n hx hb dL_law_442 rfl (lv_at hl 1 rfl) ?_
  refine lv_iload hx hb dL_law_443 (lv_at hl 5 rfl) ?_
  refine lv_iconst (v := nI 2) hx hb dL_law_445 (by decide) ?_
  refine lv_iadd hx hb dL_law_446 ?_
  refine lv_topi (nm_r (nI_add _ _) ?_)
  refine va_sld hx hb hX hbl hbA hS (i := nI (i + 2)) (m_in (n := i + 2) (by omega) (by omega)) dL_law_447 ?_
  refine lv_topi (nm_r (show _ = nI j from by rw [nI_clamp (by omega)]; exact hv2) ?_)
  refine m_callVi (As := [.int (nI k), .int (nI j)]) (rest := []) C0 hl hP hD hS (c_X7_exchange_ok l D cY (aa 25) (aa 26) (aa 27) (aa 28) (aa 29) (aa 30) (aa 31) (aa 32) z sk th len ta yr ys yo yf ye f cnt rv hh k j (by first | assumption | omega) (by first | assumption | omega) (by first | assumption | omega) (by first | assumption | omega) (by first | assumption | omega) (by first | assumption | omega)) (cwV 2 hts gL_law_X7_exchange rfl rfl rfl (by decide +kernel) ⟨Nat.le_of_ble_eq_true rfl, Nat.le_of_ble_eq_true rfl⟩) dL_law_448 [25, 26, 29] rfl rfl 25 rfl rfl rfl rfl (Nat.le_of_ble_eq_true rfl) (by omega) (by omega) (fun _ => rfl) (fun r4 u H3 locs hw hP hD hS => ?_)
  obtain ⟨rv9_5, rfl⟩ : ∃ z, z = u := ⟨_, rfl⟩
  try dsimp only at hw
  obtain ⟨rfl, hq6⟩ := hw
  have hP : va_P D vwCl (law_w cY aa sa bp (vp_updL ov 0 (Int32.toInt64 (nI (f j)))) fr tf len sc cur tx (m_up (m_up f k (f j)) j (f k)) cnt rf rc sf sn (min (z + 1) 4) f g0 g1 g2 cnt t0 t1 t2 sk pt pg pf pe 0 ta yr ys yo yf ye kf kc rv9_5 cv bv (m_up (m_up f k (f j)) j (f k)) cnt sf sn (min (z + 1) 4) sk len tx) H3 := hP
  have hD : va_D A (law_w cY aa sa bp (vp_updL ov 0 (Int32.toInt64 (nI (f j)))) fr tf len sc cur tx (m_up (m_up f k (f j)) j (f k)) cnt rf rc sf sn (min (z + 1) 4) f g0 g1 g2 cnt t0 t1 t2 sk pt pg pf pe 0 ta yr ys yo yf ye kf kc rv9_5 cv bv (m_up (m_up f k (f j)) j (f k)) cnt sf sn (min (z + 1) 4) sk len tx) := hD
  refine lv_istore (lv' := [(6, .int (nI (f j))), (5, .int (nI 0)), (0, .ref b), (1, .ref (aa 1)), (2, .ref (aa 25)), (3, .ref (aa 0)), (4, .int (nI i))]) hx hb dL_law_451 hl (by decide) rfl (fun ls hl => ?_)
  refine lv_aload_n hx hb dL_law_453 rfl (lv_at hl 4 rfl) ?_
  refine m_callVi (As := []) (rest := []) C0 hl hP hD hS (c_X7_thrown l D cY (aa 25) (aa 26) (aa 27) (aa 28) (aa 29) (aa 30) (aa 31) (aa 32) (min (z + 1) 4) sk 0 len ta yr ys yo yf ye ) (cwV 0 hts gL_law_X7_thrown rfl rfl rfl (by decide +kernel) ⟨Nat.le_of_ble_eq_true rfl, Nat.le_of_ble_eq_true rfl⟩) dL_law_454 [25] rfl rfl 25 rfl rfl rfl rfl (Nat.le_of_ble_eq_true rfl) (by omega) (by omega) (fun _ => rfl) (fun r8 u H7 locs hw hP hD hS => ?_)
  try dsimp only at hw
  obtain rfl := hw
  have hP : va_P D vwCl (law_w cY aa sa bp (vp_updL ov 0 (Int32.toInt64 (nI (f j)))) fr tf len sc cur tx (m_up (m_up f k (f j)) j (f k)) cnt rf rc sf sn (min (z + 1) 4) f g0 g1 g2 cnt t0 t1 t2 sk pt pg pf pe 0 ta yr ys yo yf ye kf kc rv9_5 cv bv (m_up (m_up f k (f j)) j (f k)) cnt sf sn (min (z + 1) 4) sk len tx) H7 := hP
  have hD : va_D A (law_w cY aa sa bp (vp_updL ov 0 (Int32.toInt64 (nI (f j)))) fr tf len sc cur tx (m_up (m_up f k (f j)) j (f k)) cnt rf rc sf sn (min (z + 1) 4) f g0 g1 g2 cnt t0 t1 t2 sk pt pg pf pe 0 ta yr ys yo yf ye kf kc rv9_5 cv bv (m_up (m_up f k (f j)) j (f k)) cnt sf sn (min (z + 1) 4) sk len tx) := hD
  refine lv_iload hx hb dL_law_457 (lv_at hl 1 rfl) ?_
  refine lv_icmp_eq (tgt := 464) hx hb dL_law_459 (by decide) (fun c459 => ?_) (fun c459 => ?_)
  rotate_left
  · exact absurd rfl c459
  refine lv_iload hx hb dL_law_464 (lv_at hl 1 rfl) ?_
  refine lv_if_ne (tgt := 481) hx hb dL_law_466 (by decide) (fun c466 => ?_) (fun c466 => ?_)
  · exact absurd rfl c466
  refine lv_aload_n hx hb dL_law_469 rfl (lv_at hl 5 rfl) ?_
  refine lv_iconst (v := nI 0) hx hb dL_law_470 (by decide) ?_
  refine va_lald hx hb hK hP 0 2 rfl rfl (m_in (n := 0) (by decide) (by decide)) dL_law_471 ?_
  refine lv_topl (nm_r (show _ = Int32.toInt64 (nI (f j)) from by rw [nI_clamp (by decide)]; exact if_pos rfl) ?_)
  refine lv_iload hx hb dL_law_472 (lv_at hl 0 rfl) ?_
  refine lv_i2l (v := Int32.toInt64 (nI (f j))) hx hb dL_law_474 rfl ?_
  refine W.lcmp hx hb dL_law_475 ?_
  refine lv_topi (nm_r (m_cmp_self _) ?_)
  refine lv_if_eq (tgt := 481) hx hb dL_law_476 (by decide) (fun c476 => ?_) (fun c476 => ?_)
  rotate_left
  · exact absurd rfl c476
  refine lv_goto (tgt := 1541) hx hb dL_law_481 (by decide) ?_
  refine W.widen (k := cells + 1) (n := slots + 6) (by omega) (by omega) ?_
  exact kk (vp_updL ov 0 (Int32.toInt64 (nI (f j)))) fr tf len sc cur tx (m_up (m_up f k (f j)) j (f k)) cnt rf rc sf sn (min (z + 1) 4) f g0 g1 g2 cnt t0 t1 t2 sk pt pg pf pe 0 ta yr ys yo yf ye kf kc rv9_5 cv bv _ _ ls (law_I_rec hI hH (law_g_up (law_g_up ⟨hf8, hf16⟩ hk (hf16 j)) hj (hf16 k)) (hrf8) hq6) hP hD hS (lv_sub hl [2, 3, 4, 5, 6] rfl)
set_option maxHeartbeats 4000000 in
set_option maxRecDepth 100000 in
theorem v_type_x1 {p : Program} {l : Launch} {e : Env} {s : State} {m : MethodId} {below : List Frame} {meth : Method} {c : Code} {b L : Nat} {xs : Nat → Int32} {D : va_G} {cY : Nat → ClassId} {A : Nat → Prop} {eS : Nat → Nat} {eO : Nat} {Q : State → Prop} {aa sa bp : Nat → Nat} (F : law_F p l e s m meth c b L xs D cY A eS eO bp) {ov : Nat → Int64} {fr : Nat} {tf : Nat → Nat} {len : Nat} {sc : Nat} {cur : Nat} {tx : Nat → Nat} {f : Nat → Nat} {cnt : Nat} {rf : Nat → Nat} {rc : Nat} {sf : Nat → Nat} {sn : Nat} {z : Nat} {g0 : Nat → Nat} {g1 : Nat → Nat} {g2 : Nat → Nat} {g3 : Nat → Nat} {t0 : Nat} {t1 : Nat} {t2 : Nat} {t3 : Nat} {sk : Nat} {pt : Nat → Int32} {pg : Nat → Int32} {pf : Nat → Int32} {pe : Nat → Int32} {th : Nat} {ta : Nat} {yr : Int32} {ys : Int32} {yo : Int32} {yf : Int32} {ye : Int32} {kf : Nat → Nat} {kc : Nat} {rv : Nat → Nat} {cv : Nat → Nat} {bv : Nat → Nat} {i : Nat} (hi : i + 2 < L) {H : Heap} {locs : List Loc} {ls : Array Slot} {cells slots : Nat} (hcl : cells + 1 ≤ room_1.cells) (hsl : slots + 6 ≤ room_1.slots) (x0 : Int32) (ch : Nat) (hch9 : (x0.toUInt32 % 65536).toInt32 = nI ch) (hch : ch < 65536) (hl : len = 60) (hv1 : xs (i + 1) = x0)
    (hI : law_I fr tf len tx f rf sf z g0 g1 g2 g3 t0 t1 t2 t3 sk rv) (hP : va_P D vwCl (law_w cY aa sa bp ov fr tf len sc cur tx f cnt rf rc sf sn z g0 g1 g2 g3 t0 t1 t2 t3 sk pt pg pf pe th ta yr ys yo yf ye kf kc rv cv bv f cnt sf sn z sk len tx) H) (hD : va_D A (law_w cY aa sa bp ov fr tf len sc cur tx f cnt rf rc sf sn z g0 g1 g2 g3 t0 t1 t2 t3 sk pt pg pf pe th ta yr ys yo yf ye kf kc rv cv bv f cnt sf sn z sk len tx)) (hS : va_S A s.heap H locs) (hl : lv_has ls 7 [(0, .ref b), (1, .ref (aa 1)), (2, .ref (aa 25)), (3, .ref (aa 0)), (4, .int (nI i))]) (kk : law_K p l e s m below meth c b D cY A Q aa sa bp i (cells + 1) (slots + 6)) :
    W p l e room_1 s m #[.ref b] below meth c H locs cells slots Q (F0 m 484 ls []) := by
  obtain ⟨C0, hE, hX, hbl, hbA, hL, hB, hfl⟩ := id F
  obtain ⟨hx, hb, hr, hml, hts, hown, hlocks, hK, hA⟩ := id C0
  obtain ⟨⟨hf8, hf16⟩, hrf8, ⟨hsf8, hsf16⟩, ⟨⟨hg0, hg0b⟩, ⟨hg1, hg1b⟩, ⟨hg2, hg2b⟩, ⟨hg3, hg3b⟩⟩, hz4, ⟨hfr, htf⟩, ⟨hlen, htx⟩, hsk, hh, hrec, hH⟩ := id hI
  refine lv_aload_n hx hb dL_law_484 rfl (lv_at hl 1 rfl) ?_
  refine lv_aload_n hx hb dL_law_485 rfl (lv_at hl 0 rfl) ?_
  refine lv_iload hx hb dL_law_486 (lv_at hl 4 rfl) ?_
  refine lv_iconst (v := nI 1) hx hb dL_law_488 (by decide) ?_
  refine lv_iadd hx hb dL_law_489 ?_
  refine lv_topi (nm_r (nI_add _ _) ?_)
  refine va_sld hx hb hX hbl hbA hS (i := nI (i + 1)) (m_in (n := i + 1) (by omega) (by omega)) dL_law_490 ?_
  refine lv_topi (nm_r (show _ = x0 from by rw [nI_clamp (by omega)]; exact hv1) ?_)
  refine lv_i2c hx hb dL_law_491 rfl ?_
  refine lv_topi (nm_r hch9 ?_)
  refine lv_aload_n hx hb dL_law_492 rfl (lv_at hl 3 rfl) ?_
  refine m_callTje (As := [.ref (aa 1), .int (nI ch), .ref (aa 0)]) (rest := []) (wr := ([((aa 2), .inr (2, [.ref (aa 9)])), ((aa 9), .inl (cY 0, 256, .inl (m_nf bp))), ((aa 3), .inr (1, [.ref (aa 10), .int (nI fr)])), ((aa 10), .inl (cY 0, 256, .inl (m_nf tf))), ((aa 12), .inl (cY 4, 15, .inr (.inr (.inr (.inr (m_sa sa)))))), ((aa 5), .inr (4, [.ref (aa 13), .int (nI cnt)])), ((aa 13), .inl (cY 0, 8, .inl (m_nf f))), ((aa 6), .inr (4, [.ref (aa 14), .int (nI rc)])), ((aa 14), .inl (cY 0, 8, .inl (m_nf rf))), ((aa 7), .inr (4, [.ref (aa 15), .int (nI sn)])), ((aa 15), .inl (cY 0, 8, .inl (m_nf sf))), ((aa 8), .inr (0, [.ref (aa 16), .int (nI z)])), ((aa 16), .inl (cY 3, 4, .inr (.inr (.inr (.inr (m_k4 (aa 17) (aa 18) (aa 19) (aa 20))))))), ((aa 17), .inr (4, [.ref (aa 21), .int (nI t0)])), ((aa 21), .inl (cY 0, 8, .inl (m_nf g0))), ((aa 18), .inr (4, [.ref (aa 22), .int (nI t1)])), ((aa 22), .inl (cY 0, 8, .inl (m_nf g1))), ((aa 19), .inr (4, [.ref (aa 23), .int (nI t2)])), ((aa 23), .inl (cY 0, 8, .inl (m_nf g2))), ((aa 20), .inr (4, [.ref (aa 24), .int (nI t3)])), ((aa 24), .inl (cY 0, 8, .inl (m_nf g3))), ((aa 25), .inr (7, [.ref (aa 26), .ref (aa 27), .ref (aa 28), .int (nI z), .ref (aa 29), .int (nI sk), .int (nI th), .ref (aa 30), .int (nI len), .int (nI ta), .int yr, .int ys, .int yo, .int yf, .int ye, .ref (aa 31), .ref (aa 32)])), ((aa 26), .inl (cY 0, 9, .inl (m_nf (m_all f cnt)))), ((aa 27), .inl (cY 0, 9, .inl (m_nf (m_all kf kc)))), ((aa 29), .inl (cY 0, 9, .inl (m_nf (m_all sf sn)))), ((aa 28), .inl (cY 0, 36, .inl (m_nf rv))), ((aa 30), .inl (cY 0, 60, .inl (m_nf tx))), ((aa 31), .inl (cY 0, 16, .inl (m_nf cv))), ((aa 32), .inl (cY 0, 16, .inl (m_nf bv)))] ++ m_pool sa pt pg pf pe)) C0 hE hl hP hD hS (c_L_type_x1 l hfl D cY eS eO (aa 1) (aa 2) (aa 3) (aa 4) (aa 5) (aa 6) (aa 7) (aa 8) sk (aa 11) (aa 12) len sc cur tx ch (aa 0) ov (by first | assumption | omega) (by first | assumption | omega) (by first | assumption | omega) (by first | assumption | omega)) (vx_cwSW 3 hts gL_law_L_type rfl rfl rfl (by decide +kernel) ⟨Nat.le_of_ble_eq_true rfl, Nat.le_of_ble_eq_true rfl⟩) dL_law_493 [0, 1, 6, 7] [2, 3, 4, 5, 8, 9, 10, 11, 12, 13, 14, 15, 16, 17, 18, 19, 20, 21, 22, 23, 24, 25, 26, 27, 28, 29, 30, 31, 32, 33, 34, 35, 36, 37, 38, 39, 40, 41, 42, 43, 44, 45, 46, 47] rfl rfl (by decide) (by decide) (by decide) rfl (Nat.le_of_ble_eq_true rfl) (by omega) (by omega) (fun _ => rfl) (fun r2 u H1 locs hw hP hD hS => ?_)
  try dsimp only at hw
  obtain rfl := hw
  have hP : va_P D vwCl (law_w cY aa sa bp ov fr tf len sc cur tx f cnt rf rc sf sn z g0 g1 g2 g3 t0 t1 t2 t3 sk pt pg pf pe th ta yr ys yo yf ye kf kc rv cv bv f cnt sf sn z sk len tx) H1 := hP.sub (ws' := law_w cY aa sa bp ov fr tf len sc cur tx f cnt rf rc sf sn z g0 g1 g2 g3 t0 t1 t2 t3 sk pt pg pf pe th ta yr ys yo yf ye kf kc rv cv bv f cnt sf sn z sk len tx) [44, 45, 0, 1, 2, 3, 46, 47, 4, 5, 6, 7, 8, 9, 10, 11, 12, 13, 14, 15, 16, 17, 18, 19, 20, 21, 22, 23, 24, 25, 26, 27, 28, 29, 30, 31, 32, 33, 34, 35, 36, 37, 38, 39, 40, 41, 42, 43] rfl
  have hD : va_D A (law_w cY aa sa bp ov fr tf len sc cur tx f cnt rf rc sf sn z g0 g1 g2 g3 t0 t1 t2 t3 sk pt pg pf pe th ta yr ys yo yf ye kf kc rv cv bv f cnt sf sn z sk len tx) := hD.sub (ws' := law_w cY aa sa bp ov fr tf len sc cur tx f cnt rf rc sf sn z g0 g1 g2 g3 t0 t1 t2 t3 sk pt pg pf pe th ta yr ys yo yf ye kf kc rv cv bv f cnt sf sn z sk len tx) [44, 45, 0, 1, 2, 3, 46, 47, 4, 5, 6, 7, 8, 9, 10, 11, 12, 13, 14, 15, 16, 17, 18, 19, 20, 21, 22, 23, 24, 25, 26, 27, 28, 29, 30, 31, 32, 33, 34, 35, 36, 37, 38, 39, 40, 41, 42, 43] (by decide) rfl
  refine lv_istore (lv' := [(5, .int (nI 1)), (0, .ref b), (1, .ref (aa 1)), (2, .ref (aa 25)), (3, .ref (aa 0)), (4, .int (nI i))]) hx hb dL_law_496 hl (by decide) rfl (fun ls hl => ?_)
  refine lv_aload_n hx hb dL_law_498 rfl (lv_at hl 3 rfl) ?_
  refine lv_aload_n hx hb dL_law_499 rfl (lv_at hl 1 rfl) ?_
  refine lv_iload hx hb dL_law_500 (lv_at hl 5 rfl) ?_
  refine lv_iconst (v := nI 1) hx hb dL_law_502 (by decide) ?_
  refine lv_iadd hx hb dL_law_503 ?_
  refine lv_topi (nm_r (nI_add _ _) ?_)
  refine va_sld hx hb hX hbl hbA hS (i := nI (i + 1)) (m_in (n := i + 1) (by omega) (by omega)) dL_law_504 ?_
  refine lv_topi (nm_r (show _ = x0 from by rw [nI_clamp (by omega)]; exact hv1) ?_)
  refine lv_i2c hx hb dL_law_505 rfl ?_
  refine lv_topi (nm_r hch9 ?_)
  refine m_callVi (As := [.int (nI ch)]) (rest := []) C0 hl hP hD hS (c_X7_type_f1 l D cY (aa 25) (aa 26) (aa 27) (aa 28) (aa 29) (aa 30) (aa 31) (aa 32) z sk th len ta yr ys yo yf ye ch (by first | assumption | omega) (by first | assumption | omega)) (cwV 1 hts gL_law_X7_type rfl rfl rfl (by decide +kernel) ⟨Nat.le_of_ble_eq_true rfl, Nat.le_of_ble_eq_true rfl⟩) dL_law_506 [25] rfl rfl 25 rfl rfl rfl rfl (Nat.le_of_ble_eq_true rfl) (by omega) (by omega) (fun _ => rfl) (fun r4 u H3 locs hw hP hD hS => ?_)
  try dsimp only at hw
  obtain rfl := hw
  have hP : va_P D vwCl (law_w cY aa sa bp ov fr tf len sc cur tx f cnt rf rc sf sn z g0 g1 g2 g3 t0 t1 t2 t3 sk pt pg pf pe 1 ta yr ys yo yf ye kf kc rv cv bv f cnt sf sn z sk len tx) H3 := hP
  have hD : va_D A (law_w cY aa sa bp ov fr tf len sc cur tx f cnt rf rc sf sn z g0 g1 g2 g3 t0 t1 t2 t3 sk pt pg pf pe 1 ta yr ys yo yf ye kf kc rv cv bv f cnt sf sn z sk len tx) := hD
  refine lv_istore (lv' := [(6, .int (nI 0)), (5, .int (nI 1)), (0, .ref b), (1, .ref (aa 1)), (2, .ref (aa 25)), (3, .ref (aa 0)), (4, .int (nI i))]) hx hb dL_law_509 hl (by decide) rfl (fun ls hl => ?_)
  refine lv_aload_n hx hb dL_law_511 rfl (lv_at hl 4 rfl) ?_
  refine m_callVi (As := []) (rest := []) C0 hl hP hD hS (c_X7_thrown l D cY (aa 25) (aa 26) (aa 27) (aa 28) (aa 29) (aa 30) (aa 31) (aa 32) z sk 1 len ta yr ys yo yf ye ) (cwV 0 hts gL_law_X7_thrown rfl rfl rfl (by decide +kernel) ⟨Nat.le_of_ble_eq_true rfl, Nat.le_of_ble_eq_true rfl⟩) dL_law_512 [25] rfl rfl 25 rfl rfl rfl rfl (Nat.le_of_ble_eq_true rfl) (by omega) (by omega) (fun _ => rfl) (fun r6 u H5 locs hw hP hD hS => ?_)
  try dsimp only at hw
  obtain rfl := hw
  have hP : va_P D vwCl (law_w cY aa sa bp ov fr tf len sc cur tx f cnt rf rc sf sn z g0 g1 g2 g3 t0 t1 t2 t3 sk pt pg pf pe 1 ta yr ys yo yf ye kf kc rv cv bv f cnt sf sn z sk len tx) H5 := hP
  have hD : va_D A (law_w cY aa sa bp ov fr tf len sc cur tx f cnt rf rc sf sn z g0 g1 g2 g3 t0 t1 t2 t3 sk pt pg pf pe 1 ta yr ys yo yf ye kf kc rv cv bv f cnt sf sn z sk len tx) := hD
  refine lv_iload hx hb dL_law_515 (lv_at hl 1 rfl) ?_
  refine lv_icmp_eq (tgt := 522) hx hb dL_law_517 (by decide) (fun c517 => ?_) (fun c517 => ?_)
  rotate_left
  · exact absurd rfl c517
  refine lv_iload hx hb dL_law_522 (lv_at hl 1 rfl) ?_
  refine lv_if_ne (tgt := 539) hx hb dL_law_524 (by decide) (fun c524 => ?_) (fun c524 => ?_)
  rotate_left
  · exact absurd c524 (by decide)
  refine lv_goto (tgt := 1541) hx hb dL_law_539 (by decide) ?_
  refine W.widen (k := cells + 1) (n := slots + 6) (by omega) (by omega) ?_
  exact kk ov fr tf len sc cur tx f cnt rf rc sf sn z g0 g1 g2 g3 t0 t1 t2 t3 sk pt pg pf pe 1 ta yr ys yo yf ye kf kc rv cv bv _ _ ls (hI) hP hD hS (lv_sub hl [2, 3, 4, 5, 6] rfl)
set_option maxHeartbeats 4000000 in
set_option maxRecDepth 100000 in
theorem v_type_ok {p : Program} {l : Launch} {e : Env} {s : State} {m : MethodId} {below : List Frame} {meth : Method} {c : Code} {b L : Nat} {xs : Nat → Int32} {D : va_G} {cY : Nat → ClassId} {A : Nat → Prop} {eS : Nat → Nat} {eO : Nat} {Q : State → Prop} {aa sa bp : Nat → Nat} (F : law_F p l e s m meth c b L xs D cY A eS eO bp) {ov : Nat → Int64} {fr : Nat} {tf : Nat → Nat} {len : Nat} {sc : Nat} {cur : Nat} {tx : Nat → Nat} {f : Nat → Nat} {cnt : Nat} {rf : Nat → Nat} {rc : Nat} {sf : Nat → Nat} {sn : Nat} {z : Nat} {g0 : Nat → Nat} {g1 : Nat → Nat} {g2 : Nat → Nat} {g3 : Nat → Nat} {t0 : Nat} {t1 : Nat} {t2 : Nat} {t3 : Nat} {sk : Nat} {pt : Nat → Int32} {pg : Nat → Int32} {pf : Nat → Int32} {pe : Nat → Int32} {th : Nat} {ta : Nat} {yr : Int32} {ys : Int32} {yo : Int32} {yf : Int32} {ye : Int32} {kf : Nat → Nat} {kc : Nat} {rv : Nat → Nat} {cv : Nat → Nat} {bv : Nat → Nat} {i : Nat} (hi : i + 2 < L) {H : Heap} {locs : List Loc} {ls : Array Slot} {cells slots : Nat} (hcl : cells + 1 ≤ room_1.cells) (hsl : slots + 6 ≤ room_1.slots) (x0 : Int32) (ch : Nat) (hch9 : (x0.toUInt32 % 65536).toInt32 = nI ch) (hch : ch < 65536) (hl : len < 60) (hv1 : xs (i + 1) = x0)
    (hI : law_I fr tf len tx f rf sf z g0 g1 g2 g3 t0 t1 t2 t3 sk rv) (hP : va_P D vwCl (law_w cY aa sa bp ov fr tf len sc cur tx f cnt rf rc sf sn z g0 g1 g2 g3 t0 t1 t2 t3 sk pt pg pf pe th ta yr ys yo yf ye kf kc rv cv bv f cnt sf sn z sk len tx) H) (hD : va_D A (law_w cY aa sa bp ov fr tf len sc cur tx f cnt rf rc sf sn z g0 g1 g2 g3 t0 t1 t2 t3 sk pt pg pf pe th ta yr ys yo yf ye kf kc rv cv bv f cnt sf sn z sk len tx)) (hS : va_S A s.heap H locs) (hl : lv_has ls 7 [(0, .ref b), (1, .ref (aa 1)), (2, .ref (aa 25)), (3, .ref (aa 0)), (4, .int (nI i))]) (kk : law_K p l e s m below meth c b D cY A Q aa sa bp i (cells + 1) (slots + 6)) :
    W p l e room_1 s m #[.ref b] below meth c H locs cells slots Q (F0 m 484 ls []) := by
  obtain ⟨C0, hE, hX, hbl, hbA, hL, hB, hfl⟩ := id F
  obtain ⟨hx, hb, hr, hml, hts, hown, hlocks, hK, hA⟩ := id C0
  obtain ⟨⟨hf8, hf16⟩, hrf8, ⟨hsf8, hsf16⟩, ⟨⟨hg0, hg0b⟩, ⟨hg1, hg1b⟩, ⟨hg2, hg2b⟩, ⟨hg3, hg3b⟩⟩, hz4, ⟨hfr, htf⟩, ⟨hlen, htx⟩, hsk, hh, hrec, hH⟩ := id hI
  refine lv_aload_n hx hb dL_law_484 rfl (lv_at hl 1 rfl) ?_
  refine lv_aload_n hx hb dL_law_485 rfl (lv_at hl 0 rfl) ?_
  refine lv_iload hx hb dL_law_486 (lv_at hl 4 rfl) ?_
  refine lv_iconst (v := nI 1) hx hb dL_law_488 (by decide) ?_
  refine lv_iadd hx hb dL_law_489 ?_
  refine lv_topi (nm_r (nI_add _ _) ?_)
  refine va_sld hx hb hX hbl hbA hS (i := nI (i + 1)) (m_in (n := i + 1) (by omega) (by omega)) dL_law_490 ?_
  refine lv_topi (nm_r (show _ = x0 from by rw [nI_clamp (by omega)]; exact hv1) ?_)
  refine lv_i2c hx hb dL_law_491 rfl ?_
  refine lv_topi (nm_r hch9 ?_)
  refine lv_aload_n hx hb dL_law_492 rfl (lv_at hl 3 rfl) ?_
  refine m_callTji (As := [.ref (aa 1), .int (nI ch), .ref (aa 0)]) (rest := []) (wr := ([((aa 2), .inr (2, [.ref (aa 9)])), ((aa 9), .inl (cY 0, 256, .inl (m_nf bp))), ((aa 3), .inr (1, [.ref (aa 10), .int (nI fr)])), ((aa 10), .inl (cY 0, 256, .inl (m_nf tf))), ((aa 12), .inl (cY 4, 15, .inr (.inr (.inr (.inr (m_sa sa)))))), ((aa 5), .inr (4, [.ref (aa 13), .int (nI cnt)])), ((aa 13), .inl (cY 0, 8, .inl (m_nf f))), ((aa 6), .inr (4, [.ref (aa 14), .int (nI rc)])), ((aa 14), .inl (cY 0, 8, .inl (m_nf rf))), ((aa 7), .inr (4, [.ref (aa 15), .int (nI sn)])), ((aa 15), .inl (cY 0, 8, .inl (m_nf sf))), ((aa 8), .inr (0, [.ref (aa 16), .int (nI z)])), ((aa 16), .inl (cY 3, 4, .inr (.inr (.inr (.inr (m_k4 (aa 17) (aa 18) (aa 19) (aa 20))))))), ((aa 17), .inr (4, [.ref (aa 21), .int (nI t0)])), ((aa 21), .inl (cY 0, 8, .inl (m_nf g0))), ((aa 18), .inr (4, [.ref (aa 22), .int (nI t1)])), ((aa 22), .inl (cY 0, 8, .inl (m_nf g1))), ((aa 19), .inr (4, [.ref (aa 23), .int (nI t2)])), ((aa 23), .inl (cY 0, 8, .inl (m_nf g2))), ((aa 20), .inr (4, [.ref (aa 24), .int (nI t3)])), ((aa 24), .inl (cY 0, 8, .inl (m_nf g3))), ((aa 25), .inr (7, [.ref (aa 26), .ref (aa 27), .ref (aa 28), .int (nI z), .ref (aa 29), .int (nI sk), .int (nI th), .ref (aa 30), .int (nI len), .int (nI ta), .int yr, .int ys, .int yo, .int yf, .int ye, .ref (aa 31), .ref (aa 32)])), ((aa 26), .inl (cY 0, 9, .inl (m_nf (m_all f cnt)))), ((aa 27), .inl (cY 0, 9, .inl (m_nf (m_all kf kc)))), ((aa 29), .inl (cY 0, 9, .inl (m_nf (m_all sf sn)))), ((aa 28), .inl (cY 0, 36, .inl (m_nf rv))), ((aa 30), .inl (cY 0, 60, .inl (m_nf tx))), ((aa 31), .inl (cY 0, 16, .inl (m_nf cv))), ((aa 32), .inl (cY 0, 16, .inl (m_nf bv)))] ++ m_pool sa pt pg pf pe)) C0 hl hP hD hS (c_L_type_ok l D cY (aa 1) (aa 2) (aa 3) (aa 4) (aa 5) (aa 6) (aa 7) (aa 8) sk (aa 11) (aa 12) len sc cur tx ch (aa 0) ov (by first | assumption | omega) (by first | assumption | omega) (by first | assumption | omega) (by first | assumption | omega)) (vx_cwSW 3 hts gL_law_L_type rfl rfl rfl (by decide +kernel) ⟨Nat.le_of_ble_eq_true rfl, Nat.le_of_ble_eq_true rfl⟩) dL_law_493 [0, 1, 6, 7] [2, 3, 4, 5, 8, 9, 10, 11, 12, 13, 14, 15, 16, 17, 18, 19, 20, 21, 22, 23, 24, 25, 26, 27, 28, 29, 30, 31, 32, 33, 34, 35, 36, 37, 38, 39, 40, 41, 42, 43, 44, 45, 46, 47] rfl rfl (by decide) (by decide) (by decide) rfl (Nat.le_of_ble_eq_true rfl) (by omega) (by omega) (fun _ => rfl) (fun r2 u H1 locs hw hP hD hS => ?_)
  try dsimp only at hw
  obtain rfl := hw
  have hP : va_P D vwCl (law_w cY aa sa bp (vp_updL ov 0 (Int32.toInt64 (nI (len + 1)))) fr tf (len + 1) sc cur (m_up tx len ch) f cnt rf rc sf sn z g0 g1 g2 g3 t0 t1 t2 t3 sk pt pg pf pe th ta yr ys yo yf ye kf kc rv cv bv f cnt sf sn z sk len tx) H1 := hP.sub (ws' := law_w cY aa sa bp (vp_updL ov 0 (Int32.toInt64 (nI (len + 1)))) fr tf (len + 1) sc cur (m_up tx len ch) f cnt rf rc sf sn z g0 g1 g2 g3 t0 t1 t2 t3 sk pt pg pf pe th ta yr ys yo yf ye kf kc rv cv bv f cnt sf sn z sk len tx) [44, 45, 0, 1, 2, 3, 46, 47, 4, 5, 6, 7, 8, 9, 10, 11, 12, 13, 14, 15, 16, 17, 18, 19, 20, 21, 22, 23, 24, 25, 26, 27, 28, 29, 30, 31, 32, 33, 34, 35, 36, 37, 38, 39, 40, 41, 42, 43] rfl
  have hD : va_D A (law_w cY aa sa bp (vp_updL ov 0 (Int32.toInt64 (nI (len + 1)))) fr tf (len + 1) sc cur (m_up tx len ch) f cnt rf rc sf sn z g0 g1 g2 g3 t0 t1 t2 t3 sk pt pg pf pe th ta yr ys yo yf ye kf kc rv cv bv f cnt sf sn z sk len tx) := hD.sub (ws' := law_w cY aa sa bp (vp_updL ov 0 (Int32.toInt64 (nI (len + 1)))) fr tf (len + 1) sc cur (m_up tx len ch) f cnt rf rc sf sn z g0 g1 g2 g3 t0 t1 t2 t3 sk pt pg pf pe th ta yr ys yo yf ye kf kc rv cv bv f cnt sf sn z sk len tx) [44, 45, 0, 1, 2, 3, 46, 47, 4, 5, 6, 7, 8, 9, 10, 11, 12, 13, 14, 15, 16, 17, 18, 19, 20, 21, 22, 23, 24, 25, 26, 27, 28, 29, 30, 31, 32, 33, 34, 35, 36, 37, 38, 39, 40, 41, 42, 43] (by decide) rfl
  refine lv_istore (lv' := [(5, .int (nI 0)), (0, .ref b), (1, .ref (aa 1)), (2, .ref (aa 25)), (3, .ref (aa 0)), (4, .int (nI i))]) hx hb dL_law_496 hl (by decide) rfl (fun ls hl => ?_)
  refine lv_aload_n hx hb dL_law_498 rfl (lv_at hl 3 rfl) ?_
  refine lv_aload_n hx hb dL_law_499 rfl (lv_at hl 1 rfl) ?_
  refine lv_iload hx hb dL_law_500 (lv_at hl 5 rfl) ?_
  refine lv_iconst (v := nI 1) hx hb dL_law_502 (by decide) ?_
  refine lv_iadd hx hb dL_law_503 ?_
  refine lv_topi (nm_r (nI_add _ _) ?_)
  refine va_sld hx hb hX hbl hbA hS (i := nI (i + 1)) (m_in (n := i + 1) (by omega) (by omega)) dL_law_504 ?_
  refine lv_topi (nm_r (show _ = x0 from by rw [nI_clamp (by omega)]; exact hv1) ?_)
  refine lv_i2c hx hb dL_law_505 rfl ?_
  refine lv_topi (nm_r hch9 ?_)
  refine m_callVi (As := [.int (nI ch)]) (rest := []) C0 hl hP hD hS (c_X7_type_ok l D cY (aa 25) (aa 26) (aa 27) (aa 28) (aa 29) (aa 30) (aa 31) (aa 32) z sk th len ta yr ys yo yf ye tx ch (by first | assumption | omega) (by first | assumption | omega)) (cwV 1 hts gL_law_X7_type rfl rfl rfl (by decide +kernel) ⟨Nat.le_of_ble_eq_true rfl, Nat.le_of_ble_eq_true rfl⟩) dL_law_506 [25, 30] rfl rfl 25 rfl rfl rfl rfl (Nat.le_of_ble_eq_true rfl) (by omega) (by omega) (fun _ => rfl) (fun r4 u H3 locs hw hP hD hS => ?_)
  try dsimp only at hw
  obtain rfl := hw
  have hP : va_P D vwCl (law_w cY aa sa bp (vp_updL ov 0 (Int32.toInt64 (nI (len + 1)))) fr tf (len + 1) sc cur (m_up tx len ch) f cnt rf rc sf sn z g0 g1 g2 g3 t0 t1 t2 t3 sk pt pg pf pe 0 ta yr ys yo yf ye kf kc rv cv bv f cnt sf sn z sk (len + 1) (m_up tx len ch)) H3 := hP
  have hD : va_D A (law_w cY aa sa bp (vp_updL ov 0 (Int32.toInt64 (nI (len + 1)))) fr tf (len + 1) sc cur (m_up tx len ch) f cnt rf rc sf sn z g0 g1 g2 g3 t0 t1 t2 t3 sk pt pg pf pe 0 ta yr ys yo yf ye kf kc rv cv bv f cnt sf sn z sk (len + 1) (m_up tx len ch)) := hD
  refine lv_istore (lv' := [(6, .int (nI (len + 1))), (5, .int (nI 0)), (0, .ref b), (1, .ref (aa 1)), (2, .ref (aa 25)), (3, .ref (aa 0)), (4, .int (nI i))]) hx hb dL_law_509 hl (by decide) rfl (fun ls hl => ?_)
  refine lv_aload_n hx hb dL_law_511 rfl (lv_at hl 4 rfl) ?_
  refine m_callVi (As := []) (rest := []) C0 hl hP hD hS (c_X7_thrown l D cY (aa 25) (aa 26) (aa 27) (aa 28) (aa 29) (aa 30) (aa 31) (aa 32) z sk 0 (len + 1) ta yr ys yo yf ye ) (cwV 0 hts gL_law_X7_thrown rfl rfl rfl (by decide +kernel) ⟨Nat.le_of_ble_eq_true rfl, Nat.le_of_ble_eq_true rfl⟩) dL_law_512 [25] rfl rfl 25 rfl rfl rfl rfl (Nat.le_of_ble_eq_true rfl) (by omega) (by omega) (fun _ => rfl) (fun r6 u H5 locs hw hP hD hS => ?_)
  try dsimp only at hw
  obtain rfl := hw
  have hP : va_P D vwCl (law_w cY aa sa bp (vp_updL ov 0 (Int32.toInt64 (nI (len + 1)))) fr tf (len + 1) sc cur (m_up tx len ch) f cnt rf rc sf sn z g0 g1 g2 g3 t0 t1 t2 t3 sk pt pg pf pe 0 ta yr ys yo yf ye kf kc rv cv bv f cnt sf sn z sk (len + 1) (m_up tx len ch)) H5 := hP
  have hD : va_D A (law_w cY aa sa bp (vp_updL ov 0 (Int32.toInt64 (nI (len + 1)))) fr tf (len + 1) sc cur (m_up tx len ch) f cnt rf rc sf sn z g0 g1 g2 g3 t0 t1 t2 t3 sk pt pg pf pe 0 ta yr ys yo yf ye kf kc rv cv bv f cnt sf sn z sk (len + 1) (m_up tx len ch)) := hD
  refine lv_iload hx hb dL_law_515 (lv_at hl 1 rfl) ?_
  refine lv_icmp_eq (tgt := 522) hx hb dL_law_517 (by decide) (fun c517 => ?_) (fun c517 => ?_)
  rotate_left
  · exact absurd rfl c517
  refine lv_iload hx hb dL_law_522 (lv_at hl 1 rfl) ?_
  refine lv_if_ne (tgt := 539) hx hb dL_law_524 (by decide) (fun c524 => ?_) (fun c524 => ?_)
  · exact absurd rfl c524
  refine lv_aload_n hx hb dL_law_527 rfl (lv_at hl 5 rfl) ?_
  refine lv_iconst (v := nI 0) hx hb dL_law_528 (by decide) ?_
  refine va_lald hx hb hK hP 0 2 rfl rfl (m_in (n := 0) (by decide) (by decide)) dL_law_529 ?_
  refine lv_topl (nm_r (show _ = Int32.toInt64 (nI (len + 1)) from by rw [nI_clamp (by decide)]; exact if_pos rfl) ?_)
  refine lv_iload hx hb dL_law_530 (lv_at hl 0 rfl) ?_
  refine lv_i2l (v := Int32.toInt64 (nI (len + 1))) hx hb dL_law_532 rfl ?_
  refine W.lcmp hx hb dL_law_533 ?_
  refine lv_topi (nm_r (m_cmp_self _) ?_)
  refine lv_if_eq (tgt := 539) hx hb dL_law_534 (by decide) (fun c534 => ?_) (fun c534 => ?_)
  rotate_left
  · exact absurd rfl c534
  refine lv_goto (tgt := 1541) hx hb dL_law_539 (by decide) ?_
  refine W.widen (k := cells + 1) (n := slots + 6) (by omega) (by omega) ?_
  exact kk (vp_updL ov 0 (Int32.toInt64 (nI (len + 1)))) fr tf (len + 1) sc cur (m_up tx len ch) f cnt rf rc sf sn z g0 g1 g2 g3 t0 t1 t2 t3 sk pt pg pf pe 0 ta yr ys yo yf ye kf kc rv cv bv _ _ ls (⟨⟨hf8, hf16⟩, hrf8, ⟨hsf8, hsf16⟩, ⟨⟨hg0, hg0b⟩, ⟨hg1, hg1b⟩, ⟨hg2, hg2b⟩, ⟨hg3, hg3b⟩⟩, hz4, ⟨hfr, htf⟩, ⟨by omega, m_up_lt htx hch⟩, hsk, hh, hrec, hH⟩) hP hD hS (lv_sub hl [2, 3, 4, 5, 6] rfl)
set_option maxHeartbeats 4000000 in
set_option maxRecDepth 100000 in
theorem v_clearProgram_ok {p : Program} {l : Launch} {e : Env} {s : State} {m : MethodId} {below : List Frame} {meth : Method} {c : Code} {b L : Nat} {xs : Nat → Int32} {D : va_G} {cY : Nat → ClassId} {A : Nat → Prop} {eS : Nat → Nat} {eO : Nat} {Q : State → Prop} {aa sa bp : Nat → Nat} (F : law_F p l e s m meth c b L xs D cY A eS eO bp) {ov : Nat → Int64} {fr : Nat} {tf : Nat → Nat} {len : Nat} {sc : Nat} {cur : Nat} {tx : Nat → Nat} {f : Nat → Nat} {cnt : Nat} {rf : Nat → Nat} {rc : Nat} {sf : Nat → Nat} {sn : Nat} {z : Nat} {g0 : Nat → Nat} {g1 : Nat → Nat} {g2 : Nat → Nat} {g3 : Nat → Nat} {t0 : Nat} {t1 : Nat} {t2 : Nat} {t3 : Nat} {sk : Nat} {pt : Nat → Int32} {pg : Nat → Int32} {pf : Nat → Int32} {pe : Nat → Int32} {th : Nat} {ta : Nat} {yr : Int32} {ys : Int32} {yo : Int32} {yf : Int32} {ye : Int32} {kf : Nat → Nat} {kc : Nat} {rv : Nat → Nat} {cv : Nat → Nat} {bv : Nat → Nat} {i : Nat} (hi : i + 2 < L) {H : Heap} {locs : List Loc} {ls : Array Slot} {cells slots : Nat} (hcl : cells + 1 ≤ room_1.cells) (hsl : slots + 6 ≤ room_1.slots)  
    (hI : law_I fr tf len tx f rf sf z g0 g1 g2 g3 t0 t1 t2 t3 sk rv) (hP : va_P D vwCl (law_w cY aa sa bp ov fr tf len sc cur tx f cnt rf rc sf sn z g0 g1 g2 g3 t0 t1 t2 t3 sk pt pg pf pe th ta yr ys yo yf ye kf kc rv cv bv f cnt sf sn z sk len tx) H) (hD : va_D A (law_w cY aa sa bp ov fr tf len sc cur tx f cnt rf rc sf sn z g0 g1 g2 g3 t0 t1 t2 t3 sk pt pg pf pe th ta yr ys yo yf ye kf kc rv cv bv f cnt sf sn z sk len tx)) (hS : va_S A s.heap H locs) (hl : lv_has ls 7 [(0, .ref b), (1, .ref (aa 1)), (2, .ref (aa 25)), (3, .ref (aa 0)), (4, .int (nI i))]) (kk : law_K p l e s m below meth c b D cY A Q aa sa bp i (cells + 1) (slots + 6)) :
    W p l e room_1 s m #[.ref b] below meth c H locs cells slots Q (F0 m 542 ls []) := by
  obtain ⟨C0, hE, hX, hbl, hbA, hL, hB, hfl⟩ := id F
  obtain ⟨hx, hb, hr, hml, hts, hown, hlocks, hK, hA⟩ := id C0
  obtain ⟨⟨hf8, hf16⟩, hrf8, ⟨hsf8, hsf16⟩, ⟨⟨hg0, hg0b⟩, ⟨hg1, hg1b⟩, ⟨hg2, hg2b⟩, ⟨hg3, hg3b⟩⟩, hz4, ⟨hfr, htf⟩, ⟨hlen, htx⟩, hsk, hh, hrec, hH⟩ := id hI
  refine lv_aload_n hx hb dL_law_542 rfl (lv_at hl 1 rfl) ?_
  refine m_callVi (As := []) (rest := []) C0 hl hP hD hS (c_X6_clearProgram l D cY (aa 1) (aa 2) (aa 3) (aa 4) (aa 5) (aa 6) (aa 7) (aa 8) sk (aa 11) (aa 12) len sc cur tx (by first | assumption | omega) (by first | assumption | omega)) (cwV 0 hts gL_law_X6_clearProgram rfl rfl rfl (by decide +kernel) ⟨Nat.le_of_ble_eq_true rfl, Nat.le_of_ble_eq_true rfl⟩) dL_law_543 [1, 6, 7] rfl rfl 1 rfl rfl rfl rfl (Nat.le_of_ble_eq_true rfl) (by omega) (by omega) (fun _ => rfl) (fun r2 u H1 locs hw hP hD hS => ?_)
  try dsimp only at hw
  obtain rfl := hw
  have hP : va_P D vwCl (law_w cY aa sa bp ov fr tf 0 sc cur tx f cnt rf rc sf sn z g0 g1 g2 g3 t0 t1 t2 t3 sk pt pg pf pe th ta yr ys yo yf ye kf kc rv cv bv f cnt sf sn z sk len tx) H1 := hP
  have hD : va_D A (law_w cY aa sa bp ov fr tf 0 sc cur tx f cnt rf rc sf sn z g0 g1 g2 g3 t0 t1 t2 t3 sk pt pg pf pe th ta yr ys yo yf ye kf kc rv cv bv f cnt sf sn z sk len tx) := hD
  refine lv_aload_n hx hb dL_law_546 rfl (lv_at hl 2 rfl) ?_
  refine m_callVi (As := []) (rest := [.int (nI len)]) C0 hl hP hD hS (c_X7_clearProgram l D cY (aa 25) (aa 26) (aa 27) (aa 28) (aa 29) (aa 30) (aa 31) (aa 32) z sk th len ta yr ys yo yf ye ) (cwV 0 hts gL_law_X7_clearProgram rfl rfl rfl (by decide +kernel) ⟨Nat.le_of_ble_eq_true rfl, Nat.le_of_ble_eq_true rfl⟩) dL_law_547 [25] rfl rfl 25 rfl rfl rfl rfl (Nat.le_of_ble_eq_true rfl) (by omega) (by omega) (fun _ => rfl) (fun r4 u H3 locs hw hP hD hS => ?_)
  try dsimp only at hw
  obtain rfl := hw
  have hP : va_P D vwCl (law_w cY aa sa bp ov fr tf 0 sc cur tx f cnt rf rc sf sn z g0 g1 g2 g3 t0 t1 t2 t3 sk pt pg pf pe 0 ta yr ys yo yf ye kf kc rv cv bv f cnt sf sn z sk 0 tx) H3 := hP
  have hD : va_D A (law_w cY aa sa bp ov fr tf 0 sc cur tx f cnt rf rc sf sn z g0 g1 g2 g3 t0 t1 t2 t3 sk pt pg pf pe 0 ta yr ys yo yf ye kf kc rv cv bv f cnt sf sn z sk 0 tx) := hD
  refine lv_icmp_eq (tgt := 1541) hx hb dL_law_550 (by decide) (fun c550 => ?_) (fun c550 => ?_)
  rotate_left
  · exact absurd rfl c550
  refine W.widen (k := cells + 1) (n := slots + 6) (by omega) (by omega) ?_
  exact kk ov fr tf 0 sc cur tx f cnt rf rc sf sn z g0 g1 g2 g3 t0 t1 t2 t3 sk pt pg pf pe 0 ta yr ys yo yf ye kf kc rv cv bv _ _ ls (⟨⟨hf8, hf16⟩, hrf8, ⟨hsf8, hsf16⟩, ⟨⟨hg0, hg0b⟩, ⟨hg1, hg1b⟩, ⟨hg2, hg2b⟩, ⟨hg3, hg3b⟩⟩, hz4, ⟨hfr, htf⟩, ⟨by omega, htx⟩, hsk, hh, hrec, hH⟩) hP hD hS (lv_sub hl [0, 1, 2, 3, 4] rfl)
set_option maxHeartbeats 4000000 in
set_option maxRecDepth 100000 in
theorem v_programError_x1 {p : Program} {l : Launch} {e : Env} {s : State} {m : MethodId} {below : List Frame} {meth : Method} {c : Code} {b L : Nat} {xs : Nat → Int32} {D : va_G} {cY : Nat → ClassId} {A : Nat → Prop} {eS : Nat → Nat} {eO : Nat} {Q : State → Prop} {aa sa bp : Nat → Nat} (F : law_F p l e s m meth c b L xs D cY A eS eO bp) {ov : Nat → Int64} {fr : Nat} {tf : Nat → Nat} {len : Nat} {sc : Nat} {cur : Nat} {tx : Nat → Nat} {f : Nat → Nat} {cnt : Nat} {rf : Nat → Nat} {rc : Nat} {sf : Nat → Nat} {sn : Nat} {z : Nat} {g0 : Nat → Nat} {g1 : Nat → Nat} {g2 : Nat → Nat} {g3 : Nat → Nat} {t0 : Nat} {t1 : Nat} {t2 : Nat} {t3 : Nat} {sk : Nat} {pt : Nat → Int32} {pg : Nat → Int32} {pf : Nat → Int32} {pe : Nat → Int32} {th : Nat} {ta : Nat} {yr : Int32} {ys : Int32} {yo : Int32} {yf : Int32} {ye : Int32} {kf : Nat → Nat} {kc : Nat} {rv : Nat → Nat} {cv : Nat → Nat} {bv : Nat → Nat} {i : Nat} (hi : i + 2 < L) {H : Heap} {locs : List Loc} {ls : Array Slot} {cells slots : Nat} (hcl : cells + 1 ≤ room_1.cells) (hsl : slots + 6 ≤ room_1.slots) (w : Nat) (hv : p_prog tx len 15 0 = .inl w)
    (hI : law_I fr tf len tx f rf sf z g0 g1 g2 g3 t0 t1 t2 t3 sk rv) (hP : va_P D vwCl (law_w cY aa sa bp ov fr tf len sc cur tx f cnt rf rc sf sn z g0 g1 g2 g3 t0 t1 t2 t3 sk pt pg pf pe th ta yr ys yo yf ye kf kc rv cv bv f cnt sf sn z sk len tx) H) (hD : va_D A (law_w cY aa sa bp ov fr tf len sc cur tx f cnt rf rc sf sn z g0 g1 g2 g3 t0 t1 t2 t3 sk pt pg pf pe th ta yr ys yo yf ye kf kc rv cv bv f cnt sf sn z sk len tx)) (hS : va_S A s.heap H locs) (hl : lv_has ls 7 [(0, .ref b), (1, .ref (aa 1)), (2, .ref (aa 25)), (3, .ref (aa 0)), (4, .int (nI i))]) (kk : law_K p l e s m below meth c b D cY A Q aa sa bp i (cells + 1) (slots + 6)) :
    W p l e room_1 s m #[.ref b] below meth c H locs cells slots Q (F0 m 555 ls []) := by
  obtain ⟨C0, hE, hX, hbl, hbA, hL, hB, hfl⟩ := id F
  obtain ⟨hx, hb, hr, hml, hts, hown, hlocks, hK, hA⟩ := id C0
  obtain ⟨⟨hf8, hf16⟩, hrf8, ⟨hsf8, hsf16⟩, ⟨⟨hg0, hg0b⟩, ⟨hg1, hg1b⟩, ⟨hg2, hg2b⟩, ⟨hg3, hg3b⟩⟩, hz4, ⟨hfr, htf⟩, ⟨hlen, htx⟩, hsk, hh, hrec, hH⟩ := id hI
  refine lv_aload_n hx hb dL_law_555 rfl (lv_at hl 1 rfl) ?_
  refine m_callVj (As := []) (rest := []) (wr := [((aa 0), .inl (cY 2, 1, .inr (.inl ov))), ((aa 2), .inr (2, [.ref (aa 9)])), ((aa 9), .inl (cY 0, 256, .inl (m_nf bp))), ((aa 3), .inr (1, [.ref (aa 10), .int (nI fr)])), ((aa 10), .inl (cY 0, 256, .inl (m_nf tf))), ((aa 5), .inr (4, [.ref (aa 13), .int (nI cnt)])), ((aa 13), .inl (cY 0, 8, .inl (m_nf f))), ((aa 6), .inr (4, [.ref (aa 14), .int (nI rc)])), ((aa 14), .inl (cY 0, 8, .inl (m_nf rf))), ((aa 7), .inr (4, [.ref (aa 15), .int (nI sn)])), ((aa 15), .inl (cY 0, 8, .inl (m_nf sf))), ((aa 8), .inr (0, [.ref (aa 16), .int (nI z)])), ((aa 16), .inl (cY 3, 4, .inr (.inr (.inr (.inr (m_k4 (aa 17) (aa 18) (aa 19) (aa 20))))))), ((aa 17), .inr (4, [.ref (aa 21), .int (nI t0)])), ((aa 21), .inl (cY 0, 8, .inl (m_nf g0))), ((aa 18), .inr (4, [.ref (aa 22), .int (nI t1)])), ((aa 22), .inl (cY 0, 8, .inl (m_nf g1))), ((aa 19), .inr (4, [.ref (aa 23), .int (nI t2)])), ((aa 23), .inl (cY 0, 8, .inl (m_nf g2))), ((aa 20), .inr (4, [.ref (aa 24), .int (nI t3)])), ((aa 24), .inl (cY 0, 8, .inl (m_nf g3))), ((aa 25), .inr (7, [.ref (aa 26), .ref (aa 27), .ref (aa 28), .int (nI z), .ref (aa 29), .int (nI sk), .int (nI th), .ref (aa 30), .int (nI len), .int (nI ta), .int yr, .int ys, .int yo, .int yf, .int ye, .ref (aa 31), .ref (aa 32)])), ((aa 26), .inl (cY 0, 9, .inl (m_nf (m_all f cnt)))), ((aa 27), .inl (cY 0, 9, .inl (m_nf (m_all kf kc)))), ((aa 29), .inl (cY 0, 9, .inl (m_nf (m_all sf sn)))), ((aa 28), .inl (cY 0, 36, .inl (m_nf rv))), ((aa 30), .inl (cY 0, 60, .inl (m_nf tx))), ((aa 31), .inl (cY 0, 16, .inl (m_nf cv))), ((aa 32), .inl (cY 0, 16, .inl (m_nf bv)))]) C0 hl hP hD hS (c_X6_programError_f l D cY (aa 1) (aa 2) (aa 3) (aa 4) (aa 5) (aa 6) (aa 7) (aa 8) sk (aa 11) (aa 12) len sc cur tx sa pt pg pf pe w (by first | assumption | omega) (by first | assumption | omega) (by first | assumption | omega)) (cwV 0 hts gL_law_X6_programError rfl rfl rfl (by decide +kernel) ⟨Nat.le_of_ble_eq_true rfl, Nat.le_of_ble_eq_true rfl⟩) dL_law_556 [1, 6, 7, 8, 33, 34, 35, 36, 37, 38, 39, 40, 41, 42, 43, 44, 45, 46, 47] [0, 2, 3, 4, 5, 9, 10, 11, 12, 13, 14, 15, 16, 17, 18, 19, 20, 21, 22, 23, 24, 25, 26, 27, 28, 29, 30, 31, 32] rfl rfl (by decide) (by decide) (by decide) 1 rfl rfl rfl rfl (Nat.le_of_ble_eq_true rfl) (by omega) (by omega) (fun _ => rfl) (fun r2 u H1 locs hw hP hD hS => ?_)
  obtain ⟨sc9_3, cur9_4, pt9_5, pg9_6, pf9_7, pe9_8⟩ := u
  try dsimp only at hw
  obtain rfl := hw
  have hP : va_P D vwCl (law_w cY aa sa bp ov fr tf len sc9_3 cur9_4 tx f cnt rf rc sf sn z g0 g1 g2 g3 t0 t1 t2 t3 sk pt9_5 pg9_6 pf9_7 pe9_8 th ta yr ys yo yf ye kf kc rv cv bv f cnt sf sn z sk len tx) H1 := hP.sub (ws' := law_w cY aa sa bp ov fr tf len sc9_3 cur9_4 tx f cnt rf rc sf sn z g0 g1 g2 g3 t0 t1 t2 t3 sk pt9_5 pg9_6 pf9_7 pe9_8 th ta yr ys yo yf ye kf kc rv cv bv f cnt sf sn z sk len tx) [0, 29, 1, 2, 3, 4, 30, 31, 32, 5, 6, 7, 8, 9, 10, 11, 12, 13, 14, 15, 16, 17, 18, 19, 20, 21, 22, 23, 24, 25, 26, 27, 28, 33, 34, 35, 36, 37, 38, 39, 40, 41, 42, 43, 44, 45, 46, 47] rfl
  have hD : va_D A (law_w cY aa sa bp ov fr tf len sc9_3 cur9_4 tx f cnt rf rc sf sn z g0 g1 g2 g3 t0 t1 t2 t3 sk pt9_5 pg9_6 pf9_7 pe9_8 th ta yr ys yo yf ye kf kc rv cv bv f cnt sf sn z sk len tx) := hD.sub (ws' := law_w cY aa sa bp ov fr tf len sc9_3 cur9_4 tx f cnt rf rc sf sn z g0 g1 g2 g3 t0 t1 t2 t3 sk pt9_5 pg9_6 pf9_7 pe9_8 th ta yr ys yo yf ye kf kc rv cv bv f cnt sf sn z sk len tx) [0, 29, 1, 2, 3, 4, 30, 31, 32, 5, 6, 7, 8, 9, 10, 11, 12, 13, 14, 15, 16, 17, 18, 19, 20, 21, 22, 23, 24, 25, 26, 27, 28, 33, 34, 35, 36, 37, 38, 39, 40, 41, 42, 43, 44, 45, 46, 47] (by decide) rfl
  refine lv_aload_n hx hb dL_law_559 rfl (lv_at hl 2 rfl) ?_
  refine m_callVi (As := []) (rest := [.int (nI w)]) C0 hl hP hD hS (c_X7_programError_f l D cY (aa 25) (aa 26) (aa 27) (aa 28) (aa 29) (aa 30) (aa 31) (aa 32) z sk th len ta yr ys yo yf ye tx w (by first | assumption | omega) (by first | assumption | omega) (by first | assumption | omega)) (cwV 0 hts gL_law_X7_programError rfl rfl rfl (by decide +kernel) ⟨Nat.le_of_ble_eq_true rfl, Nat.le_of_ble_eq_true rfl⟩) dL_law_560 [25, 30] rfl rfl 25 rfl rfl rfl rfl (Nat.le_of_ble_eq_true rfl) (by omega) (by omega) (fun _ => rfl) (fun r10 u H9 locs hw hP hD hS => ?_)
  obtain ⟨ta9_11, yr9_12, ys9_13, yo9_14, yf9_15, ye9_16⟩ := u
  try dsimp only at hw
  obtain rfl := hw
  have hP : va_P D vwCl (law_w cY aa sa bp ov fr tf len sc9_3 cur9_4 tx f cnt rf rc sf sn z g0 g1 g2 g3 t0 t1 t2 t3 sk pt9_5 pg9_6 pf9_7 pe9_8 0 ta9_11 yr9_12 ys9_13 yo9_14 yf9_15 ye9_16 kf kc rv cv bv f cnt sf sn z sk len tx) H9 := hP
  have hD : va_D A (law_w cY aa sa bp ov fr tf len sc9_3 cur9_4 tx f cnt rf rc sf sn z g0 g1 g2 g3 t0 t1 t2 t3 sk pt9_5 pg9_6 pf9_7 pe9_8 0 ta9_11 yr9_12 ys9_13 yo9_14 yf9_15 ye9_16 kf kc rv cv bv f cnt sf sn z sk len tx) := hD
  refine lv_icmp_eq (tgt := 1541) hx hb dL_law_563 (by decide) (fun c563 => ?_) (fun c563 => ?_)
  rotate_left
  · exact absurd rfl c563
  refine W.widen (k := cells + 1) (n := slots + 6) (by omega) (by omega) ?_
  exact kk ov fr tf len sc9_3 cur9_4 tx f cnt rf rc sf sn z g0 g1 g2 g3 t0 t1 t2 t3 sk pt9_5 pg9_6 pf9_7 pe9_8 0 ta9_11 yr9_12 ys9_13 yo9_14 yf9_15 ye9_16 kf kc rv cv bv _ _ ls (hI) hP hD hS (lv_sub hl [0, 1, 2, 3, 4] rfl)
set_option maxHeartbeats 4000000 in
set_option maxRecDepth 100000 in
theorem v_programError_ok {p : Program} {l : Launch} {e : Env} {s : State} {m : MethodId} {below : List Frame} {meth : Method} {c : Code} {b L : Nat} {xs : Nat → Int32} {D : va_G} {cY : Nat → ClassId} {A : Nat → Prop} {eS : Nat → Nat} {eO : Nat} {Q : State → Prop} {aa sa bp : Nat → Nat} (F : law_F p l e s m meth c b L xs D cY A eS eO bp) {ov : Nat → Int64} {fr : Nat} {tf : Nat → Nat} {len : Nat} {sc : Nat} {cur : Nat} {tx : Nat → Nat} {f : Nat → Nat} {cnt : Nat} {rf : Nat → Nat} {rc : Nat} {sf : Nat → Nat} {sn : Nat} {z : Nat} {g0 : Nat → Nat} {g1 : Nat → Nat} {g2 : Nat → Nat} {g3 : Nat → Nat} {t0 : Nat} {t1 : Nat} {t2 : Nat} {t3 : Nat} {sk : Nat} {pt : Nat → Int32} {pg : Nat → Int32} {pf : Nat → Int32} {pe : Nat → Int32} {th : Nat} {ta : Nat} {yr : Int32} {ys : Int32} {yo : Int32} {yf : Int32} {ye : Int32} {kf : Nat → Nat} {kc : Nat} {rv : Nat → Nat} {cv : Nat → Nat} {bv : Nat → Nat} {i : Nat} (hi : i + 2 < L) {H : Heap} {locs : List Loc} {ls : Array Slot} {cells slots : Nat} (hcl : cells + 1 ≤ room_1.cells) (hsl : slots + 6 ≤ room_1.slots) (ps : List p_St) (hv : p_prog tx len 15 0 = .inr ps)
    (hI : law_I fr tf len tx f rf sf z g0 g1 g2 g3 t0 t1 t2 t3 sk rv) (hP : va_P D vwCl (law_w cY aa sa bp ov fr tf len sc cur tx f cnt rf rc sf sn z g0 g1 g2 g3 t0 t1 t2 t3 sk pt pg pf pe th ta yr ys yo yf ye kf kc rv cv bv f cnt sf sn z sk len tx) H) (hD : va_D A (law_w cY aa sa bp ov fr tf len sc cur tx f cnt rf rc sf sn z g0 g1 g2 g3 t0 t1 t2 t3 sk pt pg pf pe th ta yr ys yo yf ye kf kc rv cv bv f cnt sf sn z sk len tx)) (hS : va_S A s.heap H locs) (hl : lv_has ls 7 [(0, .ref b), (1, .ref (aa 1)), (2, .ref (aa 25)), (3, .ref (aa 0)), (4, .int (nI i))]) (kk : law_K p l e s m below meth c b D cY A Q aa sa bp i (cells + 1) (slots + 6)) :
    W p l e room_1 s m #[.ref b] below meth c H locs cells slots Q (F0 m 555 ls []) := by
  obtain ⟨C0, hE, hX, hbl, hbA, hL, hB, hfl⟩ := id F
  obtain ⟨hx, hb, hr, hml, hts, hown, hlocks, hK, hA⟩ := id C0
  obtain ⟨⟨hf8, hf16⟩, hrf8, ⟨hsf8, hsf16⟩, ⟨⟨hg0, hg0b⟩, ⟨hg1, hg1b⟩, ⟨hg2, hg2b⟩, ⟨hg3, hg3b⟩⟩, hz4, ⟨hfr, htf⟩, ⟨hlen, htx⟩, hsk, hh, hrec, hH⟩ := id hI
  refine lv_aload_n hx hb dL_law_555 rfl (lv_at hl 1 rfl) ?_
  refine m_callVj (As := []) (rest := []) (wr := [((aa 0), .inl (cY 2, 1, .inr (.inl ov))), ((aa 2), .inr (2, [.ref (aa 9)])), ((aa 9), .inl (cY 0, 256, .inl (m_nf bp))), ((aa 3), .inr (1, [.ref (aa 10), .int (nI fr)])), ((aa 10), .inl (cY 0, 256, .inl (m_nf tf))), ((aa 5), .inr (4, [.ref (aa 13), .int (nI cnt)])), ((aa 13), .inl (cY 0, 8, .inl (m_nf f))), ((aa 6), .inr (4, [.ref (aa 14), .int (nI rc)])), ((aa 14), .inl (cY 0, 8, .inl (m_nf rf))), ((aa 7), .inr (4, [.ref (aa 15), .int (nI sn)])), ((aa 15), .inl (cY 0, 8, .inl (m_nf sf))), ((aa 8), .inr (0, [.ref (aa 16), .int (nI z)])), ((aa 16), .inl (cY 3, 4, .inr (.inr (.inr (.inr (m_k4 (aa 17) (aa 18) (aa 19) (aa 20))))))), ((aa 17), .inr (4, [.ref (aa 21), .int (nI t0)])), ((aa 21), .inl (cY 0, 8, .inl (m_nf g0))), ((aa 18), .inr (4, [.ref (aa 22), .int (nI t1)])), ((aa 22), .inl (cY 0, 8, .inl (m_nf g1))), ((aa 19), .inr (4, [.ref (aa 23), .int (nI t2)])), ((aa 23), .inl (cY 0, 8, .inl (m_nf g2))), ((aa 20), .inr (4, [.ref (aa 24), .int (nI t3)])), ((aa 24), .inl (cY 0, 8, .inl (m_nf g3))), ((aa 25), .inr (7, [.ref (aa 26), .ref (aa 27), .ref (aa 28), .int (nI z), .ref (aa 29), .int (nI sk), .int (nI th), .ref (aa 30), .int (nI len), .int (nI ta), .int yr, .int ys, .int yo, .int yf, .int ye, .ref (aa 31), .ref (aa 32)])), ((aa 26), .inl (cY 0, 9, .inl (m_nf (m_all f cnt)))), ((aa 27), .inl (cY 0, 9, .inl (m_nf (m_all kf kc)))), ((aa 29), .inl (cY 0, 9, .inl (m_nf (m_all sf sn)))), ((aa 28), .inl (cY 0, 36, .inl (m_nf rv))), ((aa 30), .inl (cY 0, 60, .inl (m_nf tx))), ((aa 31), .inl (cY 0, 16, .inl (m_nf cv))), ((aa 32), .inl (cY 0, 16, .inl (m_nf bv)))]) C0 hl hP hD hS (c_X6_programError_ok l D cY (aa 1) (aa 2) (aa 3) (aa 4) (aa 5) (aa 6) (aa 7) (aa 8) sk (aa 11) (aa 12) len sc cur tx sa pt pg pf pe ps (by first | assumption | omega) (by first | assumption | omega) (by first | assumption | omega)) (cwV 0 hts gL_law_X6_programError rfl rfl rfl (by decide +kernel) ⟨Nat.le_of_ble_eq_true rfl, Nat.le_of_ble_eq_true rfl⟩) dL_law_556 [1, 6, 7, 8, 33, 34, 35, 36, 37, 38, 39, 40, 41, 42, 43, 44, 45, 46, 47] [0, 2, 3, 4, 5, 9, 10, 11, 12, 13, 14, 15, 16, 17, 18, 19, 20, 21, 22, 23, 24, 25, 26, 27, 28, 29, 30, 31, 32] rfl rfl (by decide) (by decide) (by decide) 1 rfl rfl rfl rfl (Nat.le_of_ble_eq_true rfl) (by omega) (by omega) (fun _ => rfl) (fun r2 u H1 locs hw hP hD hS => ?_)
  obtain ⟨sc9_3, cur9_4, pt9_5, pg9_6, pf9_7, pe9_8⟩ := u
  try dsimp only at hw
  obtain rfl := hw
  have hP : va_P D vwCl (law_w cY aa sa bp ov fr tf len sc9_3 cur9_4 tx f cnt rf rc sf sn z g0 g1 g2 g3 t0 t1 t2 t3 sk pt9_5 pg9_6 pf9_7 pe9_8 th ta yr ys yo yf ye kf kc rv cv bv f cnt sf sn z sk len tx) H1 := hP.sub (ws' := law_w cY aa sa bp ov fr tf len sc9_3 cur9_4 tx f cnt rf rc sf sn z g0 g1 g2 g3 t0 t1 t2 t3 sk pt9_5 pg9_6 pf9_7 pe9_8 th ta yr ys yo yf ye kf kc rv cv bv f cnt sf sn z sk len tx) [0, 29, 1, 2, 3, 4, 30, 31, 32, 5, 6, 7, 8, 9, 10, 11, 12, 13, 14, 15, 16, 17, 18, 19, 20, 21, 22, 23, 24, 25, 26, 27, 28, 33, 34, 35, 36, 37, 38, 39, 40, 41, 42, 43, 44, 45, 46, 47] rfl
  have hD : va_D A (law_w cY aa sa bp ov fr tf len sc9_3 cur9_4 tx f cnt rf rc sf sn z g0 g1 g2 g3 t0 t1 t2 t3 sk pt9_5 pg9_6 pf9_7 pe9_8 th ta yr ys yo yf ye kf kc rv cv bv f cnt sf sn z sk len tx) := hD.sub (ws' := law_w cY aa sa bp ov fr tf len sc9_3 cur9_4 tx f cnt rf rc sf sn z g0 g1 g2 g3 t0 t1 t2 t3 sk pt9_5 pg9_6 pf9_7 pe9_8 th ta yr ys yo yf ye kf kc rv cv bv f cnt sf sn z sk len tx) [0, 29, 1, 2, 3, 4, 30, 31, 32, 5, 6, 7, 8, 9, 10, 11, 12, 13, 14, 15, 16, 17, 18, 19, 20, 21, 22, 23, 24, 25, 26, 27, 28, 33, 34, 35, 36, 37, 38, 39, 40, 41, 42, 43, 44, 45, 46, 47] (by decide) rfl
  refine lv_aload_n hx hb dL_law_559 rfl (lv_at hl 2 rfl) ?_
  refine m_callVi (As := []) (rest := [.int (-1)]) C0 hl hP hD hS (c_X7_programError_ok l D cY (aa 25) (aa 26) (aa 27) (aa 28) (aa 29) (aa 30) (aa 31) (aa 32) z sk th len ta yr ys yo yf ye tx ps (by first | assumption | omega) (by first | assumption | omega) (by first | assumption | omega)) (cwV 0 hts gL_law_X7_programError rfl rfl rfl (by decide +kernel) ⟨Nat.le_of_ble_eq_true rfl, Nat.le_of_ble_eq_true rfl⟩) dL_law_560 [25, 30] rfl rfl 25 rfl rfl rfl rfl (Nat.le_of_ble_eq_true rfl) (by omega) (by omega) (fun _ => rfl) (fun r10 u H9 locs hw hP hD hS => ?_)
  obtain ⟨ta9_11, yr9_12, ys9_13, yo9_14, yf9_15, ye9_16⟩ := u
  try dsimp only at hw
  obtain rfl := hw
  have hP : va_P D vwCl (law_w cY aa sa bp ov fr tf len sc9_3 cur9_4 tx f cnt rf rc sf sn z g0 g1 g2 g3 t0 t1 t2 t3 sk pt9_5 pg9_6 pf9_7 pe9_8 0 ta9_11 yr9_12 ys9_13 yo9_14 yf9_15 ye9_16 kf kc rv cv bv f cnt sf sn z sk len tx) H9 := hP
  have hD : va_D A (law_w cY aa sa bp ov fr tf len sc9_3 cur9_4 tx f cnt rf rc sf sn z g0 g1 g2 g3 t0 t1 t2 t3 sk pt9_5 pg9_6 pf9_7 pe9_8 0 ta9_11 yr9_12 ys9_13 yo9_14 yf9_15 ye9_16 kf kc rv cv bv f cnt sf sn z sk len tx) := hD
  refine lv_icmp_eq (tgt := 1541) hx hb dL_law_563 (by decide) (fun c563 => ?_) (fun c563 => ?_)
  rotate_left
  · exact absurd rfl c563
  refine W.widen (k := cells + 1) (n := slots + 6) (by omega) (by omega) ?_
  exact kk ov fr tf len sc9_3 cur9_4 tx f cnt rf rc sf sn z g0 g1 g2 g3 t0 t1 t2 t3 sk pt9_5 pg9_6 pf9_7 pe9_8 0 ta9_11 yr9_12 ys9_13 yo9_14 yf9_15 ye9_16 kf kc rv cv bv _ _ ls (hI) hP hD hS (lv_sub hl [0, 1, 2, 3, 4] rfl)
set_option maxHeartbeats 4000000 in
set_option maxRecDepth 100000 in
theorem v_trappedStep_x1 {p : Program} {l : Launch} {e : Env} {s : State} {m : MethodId} {below : List Frame} {meth : Method} {c : Code} {b L : Nat} {xs : Nat → Int32} {D : va_G} {cY : Nat → ClassId} {A : Nat → Prop} {eS : Nat → Nat} {eO : Nat} {Q : State → Prop} {aa sa bp : Nat → Nat} (F : law_F p l e s m meth c b L xs D cY A eS eO bp) {ov : Nat → Int64} {fr : Nat} {tf : Nat → Nat} {len : Nat} {sc : Nat} {cur : Nat} {tx : Nat → Nat} {f : Nat → Nat} {cnt : Nat} {rf : Nat → Nat} {rc : Nat} {sf : Nat → Nat} {sn : Nat} {z : Nat} {g0 : Nat → Nat} {g1 : Nat → Nat} {g2 : Nat → Nat} {g3 : Nat → Nat} {t0 : Nat} {t1 : Nat} {t2 : Nat} {t3 : Nat} {sk : Nat} {pt : Nat → Int32} {pg : Nat → Int32} {pf : Nat → Int32} {pe : Nat → Int32} {th : Nat} {ta : Nat} {yr : Int32} {ys : Int32} {yo : Int32} {yf : Int32} {ye : Int32} {kf : Nat → Nat} {kc : Nat} {rv : Nat → Nat} {cv : Nat → Nat} {bv : Nat → Nat} {i : Nat} (hi : i + 2 < L) {H : Heap} {locs : List Loc} {ls : Array Slot} {cells slots : Nat} (hcl : cells + 1 ≤ room_1.cells) (hsl : slots + 6 ≤ room_1.slots) (w : Nat) (hv : p_prog tx len 15 0 = .inl w)
    (hI : law_I fr tf len tx f rf sf z g0 g1 g2 g3 t0 t1 t2 t3 sk rv) (hP : va_P D vwCl (law_w cY aa sa bp ov fr tf len sc cur tx f cnt rf rc sf sn z g0 g1 g2 g3 t0 t1 t2 t3 sk pt pg pf pe th ta yr ys yo yf ye kf kc rv cv bv f cnt sf sn z sk len tx) H) (hD : va_D A (law_w cY aa sa bp ov fr tf len sc cur tx f cnt rf rc sf sn z g0 g1 g2 g3 t0 t1 t2 t3 sk pt pg pf pe th ta yr ys yo yf ye kf kc rv cv bv f cnt sf sn z sk len tx)) (hS : va_S A s.heap H locs) (hl : lv_has ls 7 [(0, .ref b), (1, .ref (aa 1)), (2, .ref (aa 25)), (3, .ref (aa 0)), (4, .int (nI i))]) (kk : law_K p l e s m below meth c b D cY A Q aa sa bp i (cells + 1) (slots + 6)) :
    W p l e room_1 s m #[.ref b] below meth c H locs cells slots Q (F0 m 568 ls []) := by
  obtain ⟨C0, hE, hX, hbl, hbA, hL, hB, hfl⟩ := id F
  obtain ⟨hx, hb, hr, hml, hts, hown, hlocks, hK, hA⟩ := id C0
  obtain ⟨⟨hf8, hf16⟩, hrf8, ⟨hsf8, hsf16⟩, ⟨⟨hg0, hg0b⟩, ⟨hg1, hg1b⟩, ⟨hg2, hg2b⟩, ⟨hg3, hg3b⟩⟩, hz4, ⟨hfr, htf⟩, ⟨hlen, htx⟩, hsk, hh, hrec, hH⟩ := id hI
  refine lv_aload_n hx hb dL_law_568 rfl (lv_at hl 1 rfl) ?_
  refine lv_aload_n hx hb dL_law_569 rfl (lv_at hl 3 rfl) ?_
  refine m_callTje (As := [.ref (aa 1), .ref (aa 0)]) (rest := []) (wr := [((aa 2), .inr (2, [.ref (aa 9)])), ((aa 9), .inl (cY 0, 256, .inl (m_nf bp))), ((aa 3), .inr (1, [.ref (aa 10), .int (nI fr)])), ((aa 10), .inl (cY 0, 256, .inl (m_nf tf))), ((aa 5), .inr (4, [.ref (aa 13), .int (nI cnt)])), ((aa 13), .inl (cY 0, 8, .inl (m_nf f))), ((aa 6), .inr (4, [.ref (aa 14), .int (nI rc)])), ((aa 14), .inl (cY 0, 8, .inl (m_nf rf))), ((aa 7), .inr (4, [.ref (aa 15), .int (nI sn)])), ((aa 15), .inl (cY 0, 8, .inl (m_nf sf))), ((aa 8), .inr (0, [.ref (aa 16), .int (nI z)])), ((aa 16), .inl (cY 3, 4, .inr (.inr (.inr (.inr (m_k4 (aa 17) (aa 18) (aa 19) (aa 20))))))), ((aa 17), .inr (4, [.ref (aa 21), .int (nI t0)])), ((aa 21), .inl (cY 0, 8, .inl (m_nf g0))), ((aa 18), .inr (4, [.ref (aa 22), .int (nI t1)])), ((aa 22), .inl (cY 0, 8, .inl (m_nf g1))), ((aa 19), .inr (4, [.ref (aa 23), .int (nI t2)])), ((aa 23), .inl (cY 0, 8, .inl (m_nf g2))), ((aa 20), .inr (4, [.ref (aa 24), .int (nI t3)])), ((aa 24), .inl (cY 0, 8, .inl (m_nf g3))), ((aa 25), .inr (7, [.ref (aa 26), .ref (aa 27), .ref (aa 28), .int (nI z), .ref (aa 29), .int (nI sk), .int (nI th), .ref (aa 30), .int (nI len), .int (nI ta), .int yr, .int ys, .int yo, .int yf, .int ye, .ref (aa 31), .ref (aa 32)])), ((aa 26), .inl (cY 0, 9, .inl (m_nf (m_all f cnt)))), ((aa 27), .inl (cY 0, 9, .inl (m_nf (m_all kf kc)))), ((aa 29), .inl (cY 0, 9, .inl (m_nf (m_all sf sn)))), ((aa 28), .inl (cY 0, 36, .inl (m_nf rv))), ((aa 30), .inl (cY 0, 60, .inl (m_nf tx))), ((aa 31), .inl (cY 0, 16, .inl (m_nf cv))), ((aa 32), .inl (cY 0, 16, .inl (m_nf bv)))]) C0 hE hl hP hD hS (c_L_trappedStep_x1 l hfl D cY eS eO (aa 1) (aa 2) (aa 3) (aa 4) (aa 5) (aa 6) (aa 7) (aa 8) sk (aa 11) (aa 12) len sc cur tx sa pt pg pf pe w (aa 0) ov (by first | assumption | omega) (by first | assumption | omega) (by first | assumption | omega)) (vx_cwSW 2 hts gL_law_L_trappedStep rfl rfl rfl (by decide +kernel) ⟨Nat.le_of_ble_eq_true rfl, Nat.le_of_ble_eq_true rfl⟩) dL_law_570 [0, 1, 6, 7, 8, 33, 34, 35, 36, 37, 38, 39, 40, 41, 42, 43, 44, 45, 46, 47] [2, 3, 4, 5, 9, 10, 11, 12, 13, 14, 15, 16, 17, 18, 19, 20, 21, 22, 23, 24, 25, 26, 27, 28, 29, 30, 31, 32] rfl rfl (by decide) (by decide) (by decide) rfl (Nat.le_of_ble_eq_true rfl) (by omega) (by omega) (fun _ => rfl) (fun r2 u H1 locs hw hP hD hS => ?_)
  obtain ⟨sc9_3, cur9_4, pt9_5, pg9_6, pf9_7, pe9_8⟩ := u
  try dsimp only at hw
  obtain rfl := hw
  have hP : va_P D vwCl (law_w cY aa sa bp ov fr tf len sc9_3 cur9_4 tx f cnt rf rc sf sn z g0 g1 g2 g3 t0 t1 t2 t3 sk pt9_5 pg9_6 pf9_7 pe9_8 th ta yr ys yo yf ye kf kc rv cv bv f cnt sf sn z sk len tx) H1 := hP.sub (ws' := law_w cY aa sa bp ov fr tf len sc9_3 cur9_4 tx f cnt rf rc sf sn z g0 g1 g2 g3 t0 t1 t2 t3 sk pt9_5 pg9_6 pf9_7 pe9_8 th ta yr ys yo yf ye kf kc rv cv bv f cnt sf sn z sk len tx) [28, 29, 0, 1, 2, 3, 30, 31, 32, 4, 5, 6, 7, 8, 9, 10, 11, 12, 13, 14, 15, 16, 17, 18, 19, 20, 21, 22, 23, 24, 25, 26, 27, 33, 34, 35, 36, 37, 38, 39, 40, 41, 42, 43, 44, 45, 46, 47] rfl
  have hD : va_D A (law_w cY aa sa bp ov fr tf len sc9_3 cur9_4 tx f cnt rf rc sf sn z g0 g1 g2 g3 t0 t1 t2 t3 sk pt9_5 pg9_6 pf9_7 pe9_8 th ta yr ys yo yf ye kf kc rv cv bv f cnt sf sn z sk len tx) := hD.sub (ws' := law_w cY aa sa bp ov fr tf len sc9_3 cur9_4 tx f cnt rf rc sf sn z g0 g1 g2 g3 t0 t1 t2 t3 sk pt9_5 pg9_6 pf9_7 pe9_8 th ta yr ys yo yf ye kf kc rv cv bv f cnt sf sn z sk len tx) [28, 29, 0, 1, 2, 3, 30, 31, 32, 4, 5, 6, 7, 8, 9, 10, 11, 12, 13, 14, 15, 16, 17, 18, 19, 20, 21, 22, 23, 24, 25, 26, 27, 33, 34, 35, 36, 37, 38, 39, 40, 41, 42, 43, 44, 45, 46, 47] (by decide) rfl
  refine lv_istore (lv' := [(5, .int (nI 1)), (0, .ref b), (1, .ref (aa 1)), (2, .ref (aa 25)), (3, .ref (aa 0)), (4, .int (nI i))]) hx hb dL_law_573 hl (by decide) rfl (fun ls hl => ?_)
  refine lv_aload_n hx hb dL_law_575 rfl (lv_at hl 3 rfl) ?_
  refine m_callVi (As := []) (rest := []) C0 hl hP hD hS (c_X7_trappedStep_f l D cY (aa 25) (aa 26) (aa 27) (aa 28) (aa 29) (aa 30) (aa 31) (aa 32) z sk th len ta yr ys yo yf ye tx w (by first | assumption | omega) (by first | assumption | omega) (by first | assumption | omega)) (cwV 0 hts gL_law_X7_trappedStep rfl rfl rfl (by decide +kernel) ⟨Nat.le_of_ble_eq_true rfl, Nat.le_of_ble_eq_true rfl⟩) dL_law_576 [25, 30] rfl rfl 25 rfl rfl rfl rfl (Nat.le_of_ble_eq_true rfl) (by omega) (by omega) (fun _ => rfl) (fun r10 u H9 locs hw hP hD hS => ?_)
  obtain ⟨ta9_11, yr9_12, ys9_13, yo9_14, yf9_15, ye9_16⟩ := u
  try dsimp only at hw
  obtain rfl := hw
  have hP : va_P D vwCl (law_w cY aa sa bp ov fr tf len sc9_3 cur9_4 tx f cnt rf rc sf sn z g0 g1 g2 g3 t0 t1 t2 t3 sk pt9_5 pg9_6 pf9_7 pe9_8 1 ta9_11 yr9_12 ys9_13 yo9_14 yf9_15 ye9_16 kf kc rv cv bv f cnt sf sn z sk len tx) H9 := hP
  have hD : va_D A (law_w cY aa sa bp ov fr tf len sc9_3 cur9_4 tx f cnt rf rc sf sn z g0 g1 g2 g3 t0 t1 t2 t3 sk pt9_5 pg9_6 pf9_7 pe9_8 1 ta9_11 yr9_12 ys9_13 yo9_14 yf9_15 ye9_16 kf kc rv cv bv f cnt sf sn z sk len tx) := hD
  refine lv_istore (lv' := [(6, .int (nI 0)), (5, .int (nI 1)), (0, .ref b), (1, .ref (aa 1)), (2, .ref (aa 25)), (3, .ref (aa 0)), (4, .int (nI i))]) hx hb dL_law_579 hl (by decide) rfl (fun ls hl => ?_)
  refine lv_aload_n hx hb dL_law_581 rfl (lv_at hl 4 rfl) ?_
  refine m_callVi (As := []) (rest := []) C0 hl hP hD hS (c_X7_thrown l D cY (aa 25) (aa 26) (aa 27) (aa 28) (aa 29) (aa 30) (aa 31) (aa 32) z sk 1 len ta9_11 yr9_12 ys9_13 yo9_14 yf9_15 ye9_16 ) (cwV 0 hts gL_law_X7_thrown rfl rfl rfl (by decide +kernel) ⟨Nat.le_of_ble_eq_true rfl, Nat.le_of_ble_eq_true rfl⟩) dL_law_582 [25] rfl rfl 25 rfl rfl rfl rfl (Nat.le_of_ble_eq_true rfl) (by omega) (by omega) (fun _ => rfl) (fun r18 u H17 locs hw hP hD hS => ?_)
  try dsimp only at hw
  obtain rfl := hw
  have hP : va_P D vwCl (law_w cY aa sa bp ov fr tf len sc9_3 cur9_4 tx f cnt rf rc sf sn z g0 g1 g2 g3 t0 t1 t2 t3 sk pt9_5 pg9_6 pf9_7 pe9_8 1 ta9_11 yr9_12 ys9_13 yo9_14 yf9_15 ye9_16 kf kc rv cv bv f cnt sf sn z sk len tx) H17 := hP
  have hD : va_D A (law_w cY aa sa bp ov fr tf len sc9_3 cur9_4 tx f cnt rf rc sf sn z g0 g1 g2 g3 t0 t1 t2 t3 sk pt9_5 pg9_6 pf9_7 pe9_8 1 ta9_11 yr9_12 ys9_13 yo9_14 yf9_15 ye9_16 kf kc rv cv bv f cnt sf sn z sk len tx) := hD
  refine lv_iload hx hb dL_law_585 (lv_at hl 1 rfl) ?_
  refine lv_icmp_eq (tgt := 592) hx hb dL_law_587 (by decide) (fun c587 => ?_) (fun c587 => ?_)
  rotate_left
  · exact absurd rfl c587
  refine lv_iload hx hb dL_law_592 (lv_at hl 1 rfl) ?_
  refine lv_if_ne (tgt := 609) hx hb dL_law_594 (by decide) (fun c594 => ?_) (fun c594 => ?_)
  rotate_left
  · exact absurd c594 (by decide)
  refine lv_goto (tgt := 1541) hx hb dL_law_609 (by decide) ?_
  refine W.widen (k := cells + 1) (n := slots + 6) (by omega) (by omega) ?_
  exact kk ov fr tf len sc9_3 cur9_4 tx f cnt rf rc sf sn z g0 g1 g2 g3 t0 t1 t2 t3 sk pt9_5 pg9_6 pf9_7 pe9_8 1 ta9_11 yr9_12 ys9_13 yo9_14 yf9_15 ye9_16 kf kc rv cv bv _ _ ls (hI) hP hD hS (lv_sub hl [2, 3, 4, 5, 6] rfl)
set_option maxHeartbeats 4000000 in
set_option maxRecDepth 100000 in
theorem v_trappedStep_ok {p : Program} {l : Launch} {e : Env} {s : State} {m : MethodId} {below : List Frame} {meth : Method} {c : Code} {b L : Nat} {xs : Nat → Int32} {D : va_G} {cY : Nat → ClassId} {A : Nat → Prop} {eS : Nat → Nat} {eO : Nat} {Q : State → Prop} {aa sa bp : Nat → Nat} (F : law_F p l e s m meth c b L xs D cY A eS eO bp) {ov : Nat → Int64} {fr : Nat} {tf : Nat → Nat} {len : Nat} {sc : Nat} {cur : Nat} {tx : Nat → Nat} {f : Nat → Nat} {cnt : Nat} {rf : Nat → Nat} {rc : Nat} {sf : Nat → Nat} {sn : Nat} {z : Nat} {g0 : Nat → Nat} {g1 : Nat → Nat} {g2 : Nat → Nat} {g3 : Nat → Nat} {t0 : Nat} {t1 : Nat} {t2 : Nat} {t3 : Nat} {sk : Nat} {pt : Nat → Int32} {pg : Nat → Int32} {pf : Nat → Int32} {pe : Nat → Int32} {th : Nat} {ta : Nat} {yr : Int32} {ys : Int32} {yo : Int32} {yf : Int32} {ye : Int32} {kf : Nat → Nat} {kc : Nat} {rv : Nat → Nat} {cv : Nat → Nat} {bv : Nat → Nat} {i : Nat} (hi : i + 2 < L) {H : Heap} {locs : List Loc} {ls : Array Slot} {cells slots : Nat} (hcl : cells + 1 ≤ room_1.cells) (hsl : slots + 6 ≤ room_1.slots) (ps : List p_St) (hv : p_prog tx len 15 0 = .inr ps)
    (hI : law_I fr tf len tx f rf sf z g0 g1 g2 g3 t0 t1 t2 t3 sk rv) (hP : va_P D vwCl (law_w cY aa sa bp ov fr tf len sc cur tx f cnt rf rc sf sn z g0 g1 g2 g3 t0 t1 t2 t3 sk pt pg pf pe th ta yr ys yo yf ye kf kc rv cv bv f cnt sf sn z sk len tx) H) (hD : va_D A (law_w cY aa sa bp ov fr tf len sc cur tx f cnt rf rc sf sn z g0 g1 g2 g3 t0 t1 t2 t3 sk pt pg pf pe th ta yr ys yo yf ye kf kc rv cv bv f cnt sf sn z sk len tx)) (hS : va_S A s.heap H locs) (hl : lv_has ls 7 [(0, .ref b), (1, .ref (aa 1)), (2, .ref (aa 25)), (3, .ref (aa 0)), (4, .int (nI i))]) (kk : law_K p l e s m below meth c b D cY A Q aa sa bp i (cells + 1) (slots + 6)) :
    W p l e room_1 s m #[.ref b] below meth c H locs cells slots Q (F0 m 568 ls []) := by
  obtain ⟨C0, hE, hX, hbl, hbA, hL, hB, hfl⟩ := id F
  obtain ⟨hx, hb, hr, hml, hts, hown, hlocks, hK, hA⟩ := id C0
  obtain ⟨⟨hf8, hf16⟩, hrf8, ⟨hsf8, hsf16⟩, ⟨⟨hg0, hg0b⟩, ⟨hg1, hg1b⟩, ⟨hg2, hg2b⟩, ⟨hg3, hg3b⟩⟩, hz4, ⟨hfr, htf⟩, ⟨hlen, htx⟩, hsk, hh, hrec, hH⟩ := id hI
  refine lv_aload_n hx hb dL_law_568 rfl (lv_at hl 1 rfl) ?_
  refine lv_aload_n hx hb dL_law_569 rfl (lv_at hl 3 rfl) ?_
  refine m_callTji (As := [.ref (aa 1), .ref (aa 0)]) (rest := []) (wr := [((aa 3), .inr (1, [.ref (aa 10), .int (nI fr)])), ((aa 10), .inl (cY 0, 256, .inl (m_nf tf))), ((aa 7), .inr (4, [.ref (aa 15), .int (nI sn)])), ((aa 15), .inl (cY 0, 8, .inl (m_nf sf))), ((aa 8), .inr (0, [.ref (aa 16), .int (nI z)])), ((aa 16), .inl (cY 3, 4, .inr (.inr (.inr (.inr (m_k4 (aa 17) (aa 18) (aa 19) (aa 20))))))), ((aa 17), .inr (4, [.ref (aa 21), .int (nI t0)])), ((aa 21), .inl (cY 0, 8, .inl (m_nf g0))), ((aa 18), .inr (4, [.ref (aa 22), .int (nI t1)])), ((aa 22), .inl (cY 0, 8, .inl (m_nf g1))), ((aa 19), .inr (4, [.ref (aa 23), .int (nI t2)])), ((aa 23), .inl (cY 0, 8, .inl (m_nf g2))), ((aa 20), .inr (4, [.ref (aa 24), .int (nI t3)])), ((aa 24), .inl (cY 0, 8, .inl (m_nf g3))), ((aa 25), .inr (7, [.ref (aa 26), .ref (aa 27), .ref (aa 28), .int (nI z), .ref (aa 29), .int (nI sk), .int (nI th), .ref (aa 30), .int (nI len), .int (nI ta), .int yr, .int ys, .int yo, .int yf, .int ye, .ref (aa 31), .ref (aa 32)])), ((aa 26), .inl (cY 0, 9, .inl (m_nf (m_all f cnt)))), ((aa 27), .inl (cY 0, 9, .inl (m_nf (m_all kf kc)))), ((aa 29), .inl (cY 0, 9, .inl (m_nf (m_all sf sn)))), ((aa 28), .inl (cY 0, 36, .inl (m_nf rv))), ((aa 30), .inl (cY 0, 60, .inl (m_nf tx))), ((aa 31), .inl (cY 0, 16, .inl (m_nf cv))), ((aa 32), .inl (cY 0, 16, .inl (m_nf bv)))]) C0 hl hP hD hS (c_L_trappedStep_ok l D cY (aa 1) (aa 2) (aa 3) (aa 4) (aa 5) (aa 6) (aa 7) (aa 8) sk (aa 11) (aa 12) len sc cur tx sa pt pg pf pe (aa 13) cnt f (aa 14) rc rf (aa 9) bp ps (aa 0) ov (by first | assumption | omega) (by first | assumption | omega) (by first | assumption | omega) (by first | assumption | omega) (by first | assumption | omega) (by first | assumption | omega) (by first | assumption | omega)) (vx_cwSW 2 hts gL_law_L_trappedStep rfl rfl rfl (by decide +kernel) ⟨Nat.le_of_ble_eq_true rfl, Nat.le_of_ble_eq_true rfl⟩) dL_law_570 [0, 1, 6, 7, 8, 9, 10, 11, 12, 2, 3, 33, 34, 35, 36, 37, 38, 39, 40, 41, 42, 43, 44, 45, 46, 47] [4, 5, 13, 14, 15, 16, 17, 18, 19, 20, 21, 22, 23, 24, 25, 26, 27, 28, 29, 30, 31, 32] rfl rfl (by decide) (by decide) (by decide) rfl (Nat.le_of_ble_eq_true rfl) (by omega) (by omega) (fun _ => rfl) (fun r2 u H1 locs hw hP hD hS => ?_)
  obtain ⟨sc9_3, cur9_4, pt9_5, pg9_6, pf9_7, pe9_8, rf9_9, rc9_10⟩ := u
  try dsimp only at hw
  obtain ⟨rfl, hq11⟩ := hw
  have hP : va_P D vwCl (law_w cY aa sa bp (vp_updL ov 0 (Int32.toInt64 ((p_run ps 0 f cnt).1))) fr tf len sc9_3 cur9_4 tx f cnt rf9_9 rc9_10 sf sn z g0 g1 g2 g3 t0 t1 t2 t3 sk pt9_5 pg9_6 pf9_7 pe9_8 th ta yr ys yo yf ye kf kc rv cv bv f cnt sf sn z sk len tx) H1 := hP.sub (ws' := law_w cY aa sa bp (vp_updL ov 0 (Int32.toInt64 ((p_run ps 0 f cnt).1))) fr tf len sc9_3 cur9_4 tx f cnt rf9_9 rc9_10 sf sn z g0 g1 g2 g3 t0 t1 t2 t3 sk pt9_5 pg9_6 pf9_7 pe9_8 th ta yr ys yo yf ye kf kc rv cv bv f cnt sf sn z sk len tx) [22, 23, 31, 32, 0, 1, 24, 25, 26, 27, 28, 29, 30, 2, 3, 4, 5, 6, 7, 8, 9, 10, 11, 12, 13, 14, 15, 16, 17, 18, 19, 20, 21, 33, 34, 35, 36, 37, 38, 39, 40, 41, 42, 43, 44, 45, 46, 47] rfl
  have hD : va_D A (law_w cY aa sa bp (vp_updL ov 0 (Int32.toInt64 ((p_run ps 0 f cnt).1))) fr tf len sc9_3 cur9_4 tx f cnt rf9_9 rc9_10 sf sn z g0 g1 g2 g3 t0 t1 t2 t3 sk pt9_5 pg9_6 pf9_7 pe9_8 th ta yr ys yo yf ye kf kc rv cv bv f cnt sf sn z sk len tx) := hD.sub (ws' := law_w cY aa sa bp (vp_updL ov 0 (Int32.toInt64 ((p_run ps 0 f cnt).1))) fr tf len sc9_3 cur9_4 tx f cnt rf9_9 rc9_10 sf sn z g0 g1 g2 g3 t0 t1 t2 t3 sk pt9_5 pg9_6 pf9_7 pe9_8 th ta yr ys yo yf ye kf kc rv cv bv f cnt sf sn z sk len tx) [22, 23, 31, 32, 0, 1, 24, 25, 26, 27, 28, 29, 30, 2, 3, 4, 5, 6, 7, 8, 9, 10, 11, 12, 13, 14, 15, 16, 17, 18, 19, 20, 21, 33, 34, 35, 36, 37, 38, 39, 40, 41, 42, 43, 44, 45, 46, 47] (by decide) rfl
  refine lv_istore (lv' := [(5, .int (nI 0)), (0, .ref b), (1, .ref (aa 1)), (2, .ref (aa 25)), (3, .ref (aa 0)), (4, .int (nI i))]) hx hb dL_law_573 hl (by decide) rfl (fun ls hl => ?_)
  refine lv_aload_n hx hb dL_law_575 rfl (lv_at hl 3 rfl) ?_
  refine m_callVj (As := []) (rest := []) (wr := ([((aa 0), .inl (cY 2, 1, .inr (.inl (vp_updL ov 0 (Int32.toInt64 ((p_run ps 0 f cnt).1)))))), ((aa 1), .inr (6, [.ref (aa 2), .ref (aa 3), .ref (aa 4), .ref (aa 5), .ref (aa 6), .ref (aa 7), .ref (aa 8), .int (nI sk)])), ((aa 2), .inr (2, [.ref (aa 9)])), ((aa 9), .inl (cY 0, 256, .inl (m_nf bp))), ((aa 3), .inr (1, [.ref (aa 10), .int (nI fr)])), ((aa 10), .inl (cY 0, 256, .inl (m_nf tf))), ((aa 4), .inr (3, [.ref (aa 11), .ref (aa 12), .int (nI len), .int (nI sc9_3), .int (nI cur9_4)])), ((aa 11), .inl (cY 1, 60, .inl (m_nf tx))), ((aa 12), .inl (cY 4, 15, .inr (.inr (.inr (.inr (m_sa sa)))))), ((aa 5), .inr (4, [.ref (aa 13), .int (nI cnt)])), ((aa 13), .inl (cY 0, 8, .inl (m_nf f))), ((aa 6), .inr (4, [.ref (aa 14), .int (nI rc9_10)])), ((aa 14), .inl (cY 0, 8, .inl (m_nf rf9_9))), ((aa 7), .inr (4, [.ref (aa 15), .int (nI sn)])), ((aa 15), .inl (cY 0, 8, .inl (m_nf sf))), ((aa 8), .inr (0, [.ref (aa 16), .int (nI z)])), ((aa 16), .inl (cY 3, 4, .inr (.inr (.inr (.inr (m_k4 (aa 17) (aa 18) (aa 19) (aa 20))))))), ((aa 17), .inr (4, [.ref (aa 21), .int (nI t0)])), ((aa 21), .inl (cY 0, 8, .inl (m_nf g0))), ((aa 18), .inr (4, [.ref (aa 22), .int (nI t1)])), ((aa 22), .inl (cY 0, 8, .inl (m_nf g1))), ((aa 19), .inr (4, [.ref (aa 23), .int (nI t2)])), ((aa 23), .inl (cY 0, 8, .inl (m_nf g2))), ((aa 20), .inr (4, [.ref (aa 24), .int (nI t3)])), ((aa 24), .inl (cY 0, 8, .inl (m_nf g3))), ((aa 29), .inl (cY 0, 9, .inl (m_nf (m_all sf sn)))), ((aa 28), .inl (cY 0, 36, .inl (m_nf rv))), ((aa 31), .inl (cY 0, 16, .inl (m_nf cv))), ((aa 32), .inl (cY 0, 16, .inl (m_nf bv)))] ++ m_pool sa pt9_5 pg9_6 pf9_7 pe9_8)) C0 hl hP hD hS (c_X7_trappedStep_ok l D cY (aa 25) (aa 26) (aa 27) (aa 28) (aa 29) (aa 30) (aa 31) (aa 32) z sk th len ta yr ys yo yf ye tx f cnt ps kf kc (by first | assumption | omega) (by first | assumption | omega) (by first | assumption | omega) (by first | assumption | omega) (by first | assumption | omega)) (cwV 0 hts gL_law_X7_trappedStep rfl rfl rfl (by decide +kernel) ⟨Nat.le_of_ble_eq_true rfl, Nat.le_of_ble_eq_true rfl⟩) dL_law_576 [25, 26, 27, 30] [0, 1, 2, 3, 4, 5, 6, 7, 8, 9, 10, 11, 12, 13, 14, 15, 16, 17, 18, 19, 20, 21, 22, 23, 24, 28, 29, 31, 32, 33, 34, 35, 36, 37, 38, 39, 40, 41, 42, 43, 44, 45, 46, 47] rfl rfl (by decide) (by decide) (by decide) 25 rfl rfl rfl rfl (Nat.le_of_ble_eq_true rfl) (by omega) (by omega) (fun _ => rfl) (fun r13 u H12 locs hw hP hD hS => ?_)
  obtain ⟨ta9_14, yr9_15, ys9_16, yo9_17, yf9_18, ye9_19⟩ := u
  try dsimp only at hw
  obtain rfl := hw
  have hP : va_P D vwCl (law_w cY aa sa bp (vp_updL ov 0 (Int32.toInt64 ((p_run ps 0 f cnt).1))) fr tf len sc9_3 cur9_4 tx f cnt rf9_9 rc9_10 sf sn z g0 g1 g2 g3 t0 t1 t2 t3 sk pt9_5 pg9_6 pf9_7 pe9_8 0 ta9_14 yr9_15 ys9_16 yo9_17 yf9_18 ye9_19 f cnt rv cv bv f cnt sf sn z sk len tx) H12 := hP.sub (ws' := law_w cY aa sa bp (vp_updL ov 0 (Int32.toInt64 ((p_run ps 0 f cnt).1))) fr tf len sc9_3 cur9_4 tx f cnt rf9_9 rc9_10 sf sn z g0 g1 g2 g3 t0 t1 t2 t3 sk pt9_5 pg9_6 pf9_7 pe9_8 0 ta9_14 yr9_15 ys9_16 yo9_17 yf9_18 ye9_19 f cnt rv cv bv f cnt sf sn z sk len tx) [0, 1, 2, 3, 4, 5, 6, 7, 8, 9, 10, 11, 12, 13, 14, 15, 16, 17, 18, 19, 20, 21, 22, 23, 24, 44, 45, 46, 25, 26, 47, 27, 28, 29, 30, 31, 32, 33, 34, 35, 36, 37, 38, 39, 40, 41, 42, 43] rfl
  have hD : va_D A (law_w cY aa sa bp (vp_updL ov 0 (Int32.toInt64 ((p_run ps 0 f cnt).1))) fr tf len sc9_3 cur9_4 tx f cnt rf9_9 rc9_10 sf sn z g0 g1 g2 g3 t0 t1 t2 t3 sk pt9_5 pg9_6 pf9_7 pe9_8 0 ta9_14 yr9_15 ys9_16 yo9_17 yf9_18 ye9_19 f cnt rv cv bv f cnt sf sn z sk len tx) := hD.sub (ws' := law_w cY aa sa bp (vp_updL ov 0 (Int32.toInt64 ((p_run ps 0 f cnt).1))) fr tf len sc9_3 cur9_4 tx f cnt rf9_9 rc9_10 sf sn z g0 g1 g2 g3 t0 t1 t2 t3 sk pt9_5 pg9_6 pf9_7 pe9_8 0 ta9_14 yr9_15 ys9_16 yo9_17 yf9_18 ye9_19 f cnt rv cv bv f cnt sf sn z sk len tx) [0, 1, 2, 3, 4, 5, 6, 7, 8, 9, 10, 11, 12, 13, 14, 15, 16, 17, 18, 19, 20, 21, 22, 23, 24, 44, 45, 46, 25, 26, 47, 27, 28, 29, 30, 31, 32, 33, 34, 35, 36, 37, 38, 39, 40, 41, 42, 43] (by decide) rfl
  refine lv_istore (lv' := [(6, .int ((p_run ps 0 f cnt).1)), (5, .int (nI 0)), (0, .ref b), (1, .ref (aa 1)), (2, .ref (aa 25)), (3, .ref (aa 0)), (4, .int (nI i))]) hx hb dL_law_579 hl (by decide) rfl (fun ls hl => ?_)
  refine lv_aload_n hx hb dL_law_581 rfl (lv_at hl 4 rfl) ?_
  refine m_callVi (As := []) (rest := []) C0 hl hP hD hS (c_X7_thrown l D cY (aa 25) (aa 26) (aa 27) (aa 28) (aa 29) (aa 30) (aa 31) (aa 32) z sk 0 len ta9_14 yr9_15 ys9_16 yo9_17 yf9_18 ye9_19 ) (cwV 0 hts gL_law_X7_thrown rfl rfl rfl (by decide +kernel) ⟨Nat.le_of_ble_eq_true rfl, Nat.le_of_ble_eq_true rfl⟩) dL_law_582 [25] rfl rfl 25 rfl rfl rfl rfl (Nat.le_of_ble_eq_true rfl) (by omega) (by omega) (fun _ => rfl) (fun r21 u H20 locs hw hP hD hS => ?_)
  try dsimp only at hw
  obtain rfl := hw
  have hP : va_P D vwCl (law_w cY aa sa bp (vp_updL ov 0 (Int32.toInt64 ((p_run ps 0 f cnt).1))) fr tf len sc9_3 cur9_4 tx f cnt rf9_9 rc9_10 sf sn z g0 g1 g2 g3 t0 t1 t2 t3 sk pt9_5 pg9_6 pf9_7 pe9_8 0 ta9_14 yr9_15 ys9_16 yo9_17 yf9_18 ye9_19 f cnt rv cv bv f cnt sf sn z sk len tx) H20 := hP
  have hD : va_D A (law_w cY aa sa bp (vp_updL ov 0 (Int32.toInt64 ((p_run ps 0 f cnt).1))) fr tf len sc9_3 cur9_4 tx f cnt rf9_9 rc9_10 sf sn z g0 g1 g2 g3 t0 t1 t2 t3 sk pt9_5 pg9_6 pf9_7 pe9_8 0 ta9_14 yr9_15 ys9_16 yo9_17 yf9_18 ye9_19 f cnt rv cv bv f cnt sf sn z sk len tx) := hD
  refine lv_iload hx hb dL_law_585 (lv_at hl 1 rfl) ?_
  refine lv_icmp_eq (tgt := 592) hx hb dL_law_587 (by decide) (fun c587 => ?_) (fun c587 => ?_)
  rotate_left
  · exact absurd rfl c587
  refine lv_iload hx hb dL_law_592 (lv_at hl 1 rfl) ?_
  refine lv_if_ne (tgt := 609) hx hb dL_law_594 (by decide) (fun c594 => ?_) (fun c594 => ?_)
  · exact absurd rfl c594
  refine lv_aload_n hx hb dL_law_597 rfl (lv_at hl 5 rfl) ?_
  refine lv_iconst (v := nI 0) hx hb dL_law_598 (by decide) ?_
  refine va_lald hx hb hK hP 0 2 rfl rfl (m_in (n := 0) (by decide) (by decide)) dL_law_599 ?_
  refine lv_topl (nm_r (show _ = Int32.toInt64 ((p_run ps 0 f cnt).1) from by rw [nI_clamp (by decide)]; exact if_pos rfl) ?_)
  refine lv_iload hx hb dL_law_600 (lv_at hl 0 rfl) ?_
  refine lv_i2l (v := Int32.toInt64 ((p_run ps 0 f cnt).1)) hx hb dL_law_602 rfl ?_
  refine W.lcmp hx hb dL_law_603 ?_
  refine lv_topi (nm_r (m_cmp_self _) ?_)
  refine lv_if_eq (tgt := 609) hx hb dL_law_604 (by decide) (fun c604 => ?_) (fun c604 => ?_)
  rotate_left
  · exact absurd rfl c604
  refine lv_goto (tgt := 1541) hx hb dL_law_609 (by decide) ?_
  refine W.widen (k := cells + 1) (n := slots + 6) (by omega) (by omega) ?_
  exact kk (vp_updL ov 0 (Int32.toInt64 ((p_run ps 0 f cnt).1))) fr tf len sc9_3 cur9_4 tx f cnt rf9_9 rc9_10 sf sn z g0 g1 g2 g3 t0 t1 t2 t3 sk pt9_5 pg9_6 pf9_7 pe9_8 0 ta9_14 yr9_15 ys9_16 yo9_17 yf9_18 ye9_19 f cnt rv cv bv _ _ ls (⟨hI.1, hq11, hI.2.2⟩) hP hD hS (lv_sub hl [2, 3, 4, 5, 6] rfl)
set_option maxHeartbeats 4000000 in
set_option maxRecDepth 100000 in
theorem v_carryOut_x1 {p : Program} {l : Launch} {e : Env} {s : State} {m : MethodId} {below : List Frame} {meth : Method} {c : Code} {b L : Nat} {xs : Nat → Int32} {D : va_G} {cY : Nat → ClassId} {A : Nat → Prop} {eS : Nat → Nat} {eO : Nat} {Q : State → Prop} {aa sa bp : Nat → Nat} (F : law_F p l e s m meth c b L xs D cY A eS eO bp) {ov : Nat → Int64} {fr : Nat} {tf : Nat → Nat} {len : Nat} {sc : Nat} {cur : Nat} {tx : Nat → Nat} {f : Nat → Nat} {cnt : Nat} {rf : Nat → Nat} {rc : Nat} {sf : Nat → Nat} {sn : Nat} {z : Nat} {g0 : Nat → Nat} {g1 : Nat → Nat} {g2 : Nat → Nat} {g3 : Nat → Nat} {t0 : Nat} {t1 : Nat} {t2 : Nat} {t3 : Nat} {sk : Nat} {pt : Nat → Int32} {pg : Nat → Int32} {pf : Nat → Int32} {pe : Nat → Int32} {th : Nat} {ta : Nat} {yr : Int32} {ys : Int32} {yo : Int32} {yf : Int32} {ye : Int32} {kf : Nat → Nat} {kc : Nat} {rv : Nat → Nat} {cv : Nat → Nat} {bv : Nat → Nat} {i : Nat} (hi : i + 2 < L) {H : Heap} {locs : List Loc} {ls : Array Slot} {cells slots : Nat} (hcl : cells + 1 ≤ room_1.cells) (hsl : slots + 6 ≤ room_1.slots) (w : Nat) (hv : p_prog tx len 15 0 = .inl w)
    (hI : law_I fr tf len tx f rf sf z g0 g1 g2 g3 t0 t1 t2 t3 sk rv) (hP : va_P D vwCl (law_w cY aa sa bp ov fr tf len sc cur tx f cnt rf rc sf sn z g0 g1 g2 g3 t0 t1 t2 t3 sk pt pg pf pe th ta yr ys yo yf ye kf kc rv cv bv f cnt sf sn z sk len tx) H) (hD : va_D A (law_w cY aa sa bp ov fr tf len sc cur tx f cnt rf rc sf sn z g0 g1 g2 g3 t0 t1 t2 t3 sk pt pg pf pe th ta yr ys yo yf ye kf kc rv cv bv f cnt sf sn z sk len tx)) (hS : va_S A s.heap H locs) (hl : lv_has ls 7 [(0, .ref b), (1, .ref (aa 1)), (2, .ref (aa 25)), (3, .ref (aa 0)), (4, .int (nI i))]) (kk : law_K p l e s m below meth c b D cY A Q aa sa bp i (cells + 1) (slots + 6)) :
    W p l e room_1 s m #[.ref b] below meth c H locs cells slots Q (F0 m 612 ls []) := by
  obtain ⟨C0, hE, hX, hbl, hbA, hL, hB, hfl⟩ := id F
  obtain ⟨hx, hb, hr, hml, hts, hown, hlocks, hK, hA⟩ := id C0
  obtain ⟨⟨hf8, hf16⟩, hrf8, ⟨hsf8, hsf16⟩, ⟨⟨hg0, hg0b⟩, ⟨hg1, hg1b⟩, ⟨hg2, hg2b⟩, ⟨hg3, hg3b⟩⟩, hz4, ⟨hfr, htf⟩, ⟨hlen, htx⟩, hsk, hh, hrec, hH⟩ := id hI
  refine lv_aload_n hx hb dL_law_612 rfl (lv_at hl 1 rfl) ?_
  refine lv_aload_n hx hb dL_law_613 rfl (lv_at hl 3 rfl) ?_
  refine m_callTje (As := [.ref (aa 1), .ref (aa 0)]) (rest := []) (wr := [((aa 2), .inr (2, [.ref (aa 9)])), ((aa 9), .inl (cY 0, 256, .inl (m_nf bp))), ((aa 3), .inr (1, [.ref (aa 10), .int (nI fr)])), ((aa 10), .inl (cY 0, 256, .inl (m_nf tf))), ((aa 5), .inr (4, [.ref (aa 13), .int (nI cnt)])), ((aa 13), .inl (cY 0, 8, .inl (m_nf f))), ((aa 6), .inr (4, [.ref (aa 14), .int (nI rc)])), ((aa 14), .inl (cY 0, 8, .inl (m_nf rf))), ((aa 7), .inr (4, [.ref (aa 15), .int (nI sn)])), ((aa 15), .inl (cY 0, 8, .inl (m_nf sf))), ((aa 8), .inr (0, [.ref (aa 16), .int (nI z)])), ((aa 16), .inl (cY 3, 4, .inr (.inr (.inr (.inr (m_k4 (aa 17) (aa 18) (aa 19) (aa 20))))))), ((aa 17), .inr (4, [.ref (aa 21), .int (nI t0)])), ((aa 21), .inl (cY 0, 8, .inl (m_nf g0))), ((aa 18), .inr (4, [.ref (aa 22), .int (nI t1)])), ((aa 22), .inl (cY 0, 8, .inl (m_nf g1))), ((aa 19), .inr (4, [.ref (aa 23), .int (nI t2)])), ((aa 23), .inl (cY 0, 8, .inl (m_nf g2))), ((aa 20), .inr (4, [.ref (aa 24), .int (nI t3)])), ((aa 24), .inl (cY 0, 8, .inl (m_nf g3))), ((aa 25), .inr (7, [.ref (aa 26), .ref (aa 27), .ref (aa 28), .int (nI z), .ref (aa 29), .int (nI sk), .int (nI th), .ref (aa 30), .int (nI len), .int (nI ta), .int yr, .int ys, .int yo, .int yf, .int ye, .ref (aa 31), .ref (aa 32)])), ((aa 26), .inl (cY 0, 9, .inl (m_nf (m_all f cnt)))), ((aa 27), .inl (cY 0, 9, .inl (m_nf (m_all kf kc)))), ((aa 29), .inl (cY 0, 9, .inl (m_nf (m_all sf sn)))), ((aa 28), .inl (cY 0, 36, .inl (m_nf rv))), ((aa 30), .inl (cY 0, 60, .inl (m_nf tx))), ((aa 31), .inl (cY 0, 16, .inl (m_nf cv))), ((aa 32), .inl (cY 0, 16, .inl (m_nf bv)))]) C0 hE hl hP hD hS (c_L_carryOut_x1 l hfl D cY eS eO (aa 1) (aa 2) (aa 3) (aa 4) (aa 5) (aa 6) (aa 7) (aa 8) sk (aa 11) (aa 12) len sc cur tx sa pt pg pf pe w (aa 0) ov (by first | assumption | omega) (by first | assumption | omega) (by first | assumption | omega)) (vx_cwSW 2 hts gL_law_L_carryOut rfl rfl rfl (by decide +kernel) ⟨Nat.le_of_ble_eq_true rfl, Nat.le_of_ble_eq_true rfl⟩) dL_law_614 [0, 1, 6, 7, 8, 33, 34, 35, 36, 37, 38, 39, 40, 41, 42, 43, 44, 45, 46, 47] [2, 3, 4, 5, 9, 10, 11, 12, 13, 14, 15, 16, 17, 18, 19, 20, 21, 22, 23, 24, 25, 26, 27, 28, 29, 30, 31, 32] rfl rfl (by decide) (by decide) (by decide) rfl (Nat.le_of_ble_eq_true rfl) (by omega) (by omega) (fun _ => rfl) (fun r2 u H1 locs hw hP hD hS => ?_)
  obtain ⟨sc9_3, cur9_4, pt9_5, pg9_6, pf9_7, pe9_8⟩ := u
  try dsimp only at hw
  obtain rfl := hw
  have hP : va_P D vwCl (law_w cY aa sa bp ov fr tf len sc9_3 cur9_4 tx f cnt rf rc sf sn z g0 g1 g2 g3 t0 t1 t2 t3 sk pt9_5 pg9_6 pf9_7 pe9_8 th ta yr ys yo yf ye kf kc rv cv bv f cnt sf sn z sk len tx) H1 := hP.sub (ws' := law_w cY aa sa bp ov fr tf len sc9_3 cur9_4 tx f cnt rf rc sf sn z g0 g1 g2 g3 t0 t1 t2 t3 sk pt9_5 pg9_6 pf9_7 pe9_8 th ta yr ys yo yf ye kf kc rv cv bv f cnt sf sn z sk len tx) [28, 29, 0, 1, 2, 3, 30, 31, 32, 4, 5, 6, 7, 8, 9, 10, 11, 12, 13, 14, 15, 16, 17, 18, 19, 20, 21, 22, 23, 24, 25, 26, 27, 33, 34, 35, 36, 37, 38, 39, 40, 41, 42, 43, 44, 45, 46, 47] rfl
  have hD : va_D A (law_w cY aa sa bp ov fr tf len sc9_3 cur9_4 tx f cnt rf rc sf sn z g0 g1 g2 g3 t0 t1 t2 t3 sk pt9_5 pg9_6 pf9_7 pe9_8 th ta yr ys yo yf ye kf kc rv cv bv f cnt sf sn z sk len tx) := hD.sub (ws' := law_w cY aa sa bp ov fr tf len sc9_3 cur9_4 tx f cnt rf rc sf sn z g0 g1 g2 g3 t0 t1 t2 t3 sk pt9_5 pg9_6 pf9_7 pe9_8 th ta yr ys yo yf ye kf kc rv cv bv f cnt sf sn z sk len tx) [28, 29, 0, 1, 2, 3, 30, 31, 32, 4, 5, 6, 7, 8, 9, 10, 11, 12, 13, 14, 15, 16, 17, 18, 19, 20, 21, 22, 23, 24, 25, 26, 27, 33, 34, 35, 36, 37, 38, 39, 40, 41, 42, 43, 44, 45, 46, 47] (by decide) rfl
  refine lv_istore (lv' := [(5, .int (nI 1)), (0, .ref b), (1, .ref (aa 1)), (2, .ref (aa 25)), (3, .ref (aa 0)), (4, .int (nI i))]) hx hb dL_law_617 hl (by decide) rfl (fun ls hl => ?_)
  refine lv_aload_n hx hb dL_law_619 rfl (lv_at hl 3 rfl) ?_
  refine m_callVi (As := []) (rest := []) C0 hl hP hD hS (c_X7_carryOut_f1 l D cY (aa 25) (aa 26) (aa 27) (aa 28) (aa 29) (aa 30) (aa 31) (aa 32) z sk th len ta yr ys yo yf ye tx w (by first | assumption | omega) (by first | assumption | omega) (by first | assumption | omega)) (cwV 0 hts gL_law_X7_carryOut rfl rfl rfl (by decide +kernel) ⟨Nat.le_of_ble_eq_true rfl, Nat.le_of_ble_eq_true rfl⟩) dL_law_620 [25, 30] rfl rfl 25 rfl rfl rfl rfl (Nat.le_of_ble_eq_true rfl) (by omega) (by omega) (fun _ => rfl) (fun r10 u H9 locs hw hP hD hS => ?_)
  obtain ⟨ta9_11, yr9_12, ys9_13, yo9_14, yf9_15, ye9_16⟩ := u
  try dsimp only at hw
  obtain rfl := hw
  have hP : va_P D vwCl (law_w cY aa sa bp ov fr tf len sc9_3 cur9_4 tx f cnt rf rc sf sn z g0 g1 g2 g3 t0 t1 t2 t3 sk pt9_5 pg9_6 pf9_7 pe9_8 1 ta9_11 yr9_12 ys9_13 yo9_14 yf9_15 ye9_16 kf kc rv cv bv f cnt sf sn z sk len tx) H9 := hP
  have hD : va_D A (law_w cY aa sa bp ov fr tf len sc9_3 cur9_4 tx f cnt rf rc sf sn z g0 g1 g2 g3 t0 t1 t2 t3 sk pt9_5 pg9_6 pf9_7 pe9_8 1 ta9_11 yr9_12 ys9_13 yo9_14 yf9_15 ye9_16 kf kc rv cv bv f cnt sf sn z sk len tx) := hD
  refine lv_istore (lv' := [(6, .int (nI 0)), (5, .int (nI 1)), (0, .ref b), (1, .ref (aa 1)), (2, .ref (aa 25)), (3, .ref (aa 0)), (4, .int (nI i))]) hx hb dL_law_623 hl (by decide) rfl (fun ls hl => ?_)
  refine lv_aload_n hx hb dL_law_625 rfl (lv_at hl 4 rfl) ?_
  refine m_callVi (As := []) (rest := []) C0 hl hP hD hS (c_X7_thrown l D cY (aa 25) (aa 26) (aa 27) (aa 28) (aa 29) (aa 30) (aa 31) (aa 32) z sk 1 len ta9_11 yr9_12 ys9_13 yo9_14 yf9_15 ye9_16 ) (cwV 0 hts gL_law_X7_thrown rfl rfl rfl (by decide +kernel) ⟨Nat.le_of_ble_eq_true rfl, Nat.le_of_ble_eq_true rfl⟩) dL_law_626 [25] rfl rfl 25 rfl rfl rfl rfl (Nat.le_of_ble_eq_true rfl) (by omega) (by omega) (fun _ => rfl) (fun r18 u H17 locs hw hP hD hS => ?_)
  try dsimp only at hw
  obtain rfl := hw
  have hP : va_P D vwCl (law_w cY aa sa bp ov fr tf len sc9_3 cur9_4 tx f cnt rf rc sf sn z g0 g1 g2 g3 t0 t1 t2 t3 sk pt9_5 pg9_6 pf9_7 pe9_8 1 ta9_11 yr9_12 ys9_13 yo9_14 yf9_15 ye9_16 kf kc rv cv bv f cnt sf sn z sk len tx) H17 := hP
  have hD : va_D A (law_w cY aa sa bp ov fr tf len sc9_3 cur9_4 tx f cnt rf rc sf sn z g0 g1 g2 g3 t0 t1 t2 t3 sk pt9_5 pg9_6 pf9_7 pe9_8 1 ta9_11 yr9_12 ys9_13 yo9_14 yf9_15 ye9_16 kf kc rv cv bv f cnt sf sn z sk len tx) := hD
  refine lv_iload hx hb dL_law_629 (lv_at hl 1 rfl) ?_
  refine lv_icmp_eq (tgt := 636) hx hb dL_law_631 (by decide) (fun c631 => ?_) (fun c631 => ?_)
  rotate_left
  · exact absurd rfl c631
  refine lv_iload hx hb dL_law_636 (lv_at hl 1 rfl) ?_
  refine lv_if_ne (tgt := 653) hx hb dL_law_638 (by decide) (fun c638 => ?_) (fun c638 => ?_)
  rotate_left
  · exact absurd c638 (by decide)
  refine lv_goto (tgt := 1541) hx hb dL_law_653 (by decide) ?_
  refine W.widen (k := cells + 1) (n := slots + 6) (by omega) (by omega) ?_
  exact kk ov fr tf len sc9_3 cur9_4 tx f cnt rf rc sf sn z g0 g1 g2 g3 t0 t1 t2 t3 sk pt9_5 pg9_6 pf9_7 pe9_8 1 ta9_11 yr9_12 ys9_13 yo9_14 yf9_15 ye9_16 kf kc rv cv bv _ _ ls (hI) hP hD hS (lv_sub hl [2, 3, 4, 5, 6] rfl)
