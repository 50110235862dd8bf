/-! The law's variants. -/
set_option maxHeartbeats 4000000 in
set_option maxRecDepth 100000 in
theorem v_carryOut_x2 {p : Program} {l : Launch} {e : Env} {s : State} {m : MethodId} {below : List Frame} {meth : Method} {c : Code} {b L : Nat} {xs : Nat → Int32} {D : va_G} {cY : Nat → ClassId} {A : Nat → Prop} {eS : Nat → Nat} {eO : Nat} {Q : State → Prop} {aa sa bp : Nat → Nat} (F : law_F p l e s m meth c b L xs D cY A eS eO bp) {ov : Nat → Int64} {fr : Nat} {tf : Nat → Nat} {len : Nat} {sc : Nat} {cur : Nat} {tx : Nat → Nat} {f : Nat → Nat} {cnt : Nat} {rf : Nat → Nat} {rc : Nat} {sf : Nat → Nat} {sn : Nat} {z : Nat} {g0 : Nat → Nat} {g1 : Nat → Nat} {g2 : Nat → Nat} {g3 : Nat → Nat} {t0 : Nat} {t1 : Nat} {t2 : Nat} {t3 : Nat} {sk : Nat} {pt : Nat → Int32} {pg : Nat → Int32} {pf : Nat → Int32} {pe : Nat → Int32} {th : Nat} {ta : Nat} {yr : Int32} {ys : Int32} {yo : Int32} {yf : Int32} {ye : Int32} {kf : Nat → Nat} {kc : Nat} {rv : Nat → Nat} {cv : Nat → Nat} {bv : Nat → Nat} {i : Nat} (hi : i + 2 < L) {H : Heap} {locs : List Loc} {ls : Array Slot} {cells slots : Nat} (hcl : cells + 1 ≤ room_1.cells) (hsl : slots + 6 ≤ room_1.slots) (ps : List p_St) (tv : Int32) (uf : Nat → Nat) (uc : Nat) (hv : p_prog tx len 15 0 = .inr ps) (hrun : p_run ps 0 f cnt = (tv, uf, uc)) (htr : ¬ tv = -1)
    (hI : law_I fr tf len tx f rf sf z g0 g1 g2 g3 t0 t1 t2 t3 sk rv) (hP : va_P D vwCl (law_w cY aa sa bp ov fr tf len sc cur tx f cnt rf rc sf sn z g0 g1 g2 g3 t0 t1 t2 t3 sk pt pg pf pe th ta yr ys yo yf ye kf kc rv cv bv f cnt sf sn z sk len tx) H) (hD : va_D A (law_w cY aa sa bp ov fr tf len sc cur tx f cnt rf rc sf sn z g0 g1 g2 g3 t0 t1 t2 t3 sk pt pg pf pe th ta yr ys yo yf ye kf kc rv cv bv f cnt sf sn z sk len tx)) (hS : va_S A s.heap H locs) (hl : lv_has ls 7 [(0, .ref b), (1, .ref (aa 1)), (2, .ref (aa 25)), (3, .ref (aa 0)), (4, .int (nI i))]) (kk : law_K p l e s m below meth c b D cY A Q aa sa bp i (cells + 1) (slots + 6)) :
    W p l e room_1 s m #[.ref b] below meth c H locs cells slots Q (F0 m 612 ls []) := by
  obtain ⟨C0, hE, hX, hbl, hbA, hL, hB, hfl⟩ := id F
  obtain ⟨hx, hb, hr, hml, hts, hown, hlocks, hK, hA⟩ := id C0
  obtain ⟨⟨hf8, hf16⟩, hrf8, ⟨hsf8, hsf16⟩, ⟨⟨hg0, hg0b⟩, ⟨hg1, hg1b⟩, ⟨hg2, hg2b⟩, ⟨hg3, hg3b⟩⟩, hz4, ⟨hfr, htf⟩, ⟨hlen, htx⟩, hsk, hh, hrec, hH⟩ := id hI
  have hpr := p_run_g ps 0 f cnt (p_prog_8 15 0 ps hv).2 ⟨hf8, hf16⟩
  rw [hrun] at hpr
  have hpr : law_g uf := hpr
  refine lv_aload_n hx hb dL_law_612 rfl (lv_at hl 1 rfl) ?_
  refine lv_aload_n hx hb dL_law_613 rfl (lv_at hl 3 rfl) ?_
  have hP : va_P D vwCl ([((aa 0), .inl (cY 2, 1, .inr (.inl ov))), ((aa 1), .inr (6, [.ref (aa 2), .ref (aa 3), .ref (aa 4), .ref (aa 5), .ref (aa 6), .ref (aa 7), .ref (aa 8), .int (nI sk)])), ((aa 2), .inr (2, [.ref (aa 9)])), ((aa 9), .inl (cY 0, 256, .inl (m_nf bp))), ((aa 3), .inr (1, [.ref (aa 10), .int (nI fr)])), ((aa 10), .inl (cY 0, 256, .inl (m_nf tf))), ((aa 4), .inr (3, [.ref (aa 11), .ref (aa 12), .int (nI len), .int (nI sc), .int (nI cur)])), ((aa 11), .inl (cY 1, 60, .inl (m_nf tx))), ((aa 12), .inl (cY 4, 15, .inr (.inr (.inr (.inr (m_sa sa)))))), ((aa 5), .inr (4, [.ref (aa 13), .int (nI cnt)])), ((aa 13), .inl (cY 0, 8, .inl (m_nf f))), ((aa 6), .inr (4, [.ref (aa 14), .int (nI rc)])), ((aa 14), .inl (cY 0, 8, .inl (m_nf rf))), ((aa 7), .inr (4, [.ref (aa 15), .int (nI sn)])), ((aa 15), .inl (cY 0, 8, .inl (m_nf sf))), ((aa 8), .inr (0, [.ref (aa 16), .int (nI z)])), ((aa 16), .inl (cY 3, 4, .inr (.inr (.inr (.inr (m_k4 (aa 17) (aa 18) (aa 19) (aa 20))))))), ((aa 17), .inr (4, [.ref (aa 21), .int (nI t0)])), ((aa 21), .inl (cY 0, 8, .inl (m_nf g0))), ((aa 18), .inr (4, [.ref (aa 22), .int (nI t1)])), ((aa 22), .inl (cY 0, 8, .inl (m_nf g1))), ((aa 19), .inr (4, [.ref (aa 23), .int (nI t2)])), ((aa 23), .inl (cY 0, 8, .inl (m_nf g2))), ((aa 20), .inr (4, [.ref (aa 24), .int (nI t3)])), ((aa 24), .inl (cY 0, 8, .inl (m_nf g3))), ((aa 25), .inr (7, [.ref (aa 26), .ref (aa 27), .ref (aa 28), .int (nI z), .ref (aa 29), .int (nI sk), .int (nI th), .ref (aa 30), .int (nI len), .int (nI ta), .int yr, .int ys, .int yo, .int yf, .int ye, .ref (aa 31), .ref (aa 32)])), ((aa 26), .inl (cY 0, 9, .inl (m_nf (m_all f cnt)))), ((aa 27), .inl (cY 0, 9, .inl (m_nf (m_all kf kc)))), ((aa 29), .inl (cY 0, 9, .inl (m_nf (m_all sf sn)))), ((aa 28), .inl (cY 0, 36, .inl (m_nf rv))), ((aa 30), .inl (cY 0, 60, .inl (m_nf tx))), ((aa 31), .inl (cY 0, 16, .inl (m_nf cv))), ((aa 32), .inl (cY 0, 16, .inl (m_nf bv)))] ++ m_pool sa pt pg pf pe) H := hP
  have hD : va_D A ([((aa 0), .inl (cY 2, 1, .inr (.inl ov))), ((aa 1), .inr (6, [.ref (aa 2), .ref (aa 3), .ref (aa 4), .ref (aa 5), .ref (aa 6), .ref (aa 7), .ref (aa 8), .int (nI sk)])), ((aa 2), .inr (2, [.ref (aa 9)])), ((aa 9), .inl (cY 0, 256, .inl (m_nf bp))), ((aa 3), .inr (1, [.ref (aa 10), .int (nI fr)])), ((aa 10), .inl (cY 0, 256, .inl (m_nf tf))), ((aa 4), .inr (3, [.ref (aa 11), .ref (aa 12), .int (nI len), .int (nI sc), .int (nI cur)])), ((aa 11), .inl (cY 1, 60, .inl (m_nf tx))), ((aa 12), .inl (cY 4, 15, .inr (.inr (.inr (.inr (m_sa sa)))))), ((aa 5), .inr (4, [.ref (aa 13), .int (nI cnt)])), ((aa 13), .inl (cY 0, 8, .inl (m_nf f))), ((aa 6), .inr (4, [.ref (aa 14), .int (nI rc)])), ((aa 14), .inl (cY 0, 8, .inl (m_nf rf))), ((aa 7), .inr (4, [.ref (aa 15), .int (nI sn)])), ((aa 15), .inl (cY 0, 8, .inl (m_nf sf))), ((aa 8), .inr (0, [.ref (aa 16), .int (nI z)])), ((aa 16), .inl (cY 3, 4, .inr (.inr (.inr (.inr (m_k4 (aa 17) (aa 18) (aa 19) (aa 20))))))), ((aa 17), .inr (4, [.ref (aa 21), .int (nI t0)])), ((aa 21), .inl (cY 0, 8, .inl (m_nf g0))), ((aa 18), .inr (4, [.ref (aa 22), .int (nI t1)])), ((aa 22), .inl (cY 0, 8, .inl (m_nf g1))), ((aa 19), .inr (4, [.ref (aa 23), .int (nI t2)])), ((aa 23), .inl (cY 0, 8, .inl (m_nf g2))), ((aa 20), .inr (4, [.ref (aa 24), .int (nI t3)])), ((aa 24), .inl (cY 0, 8, .inl (m_nf g3))), ((aa 25), .inr (7, [.ref (aa 26), .ref (aa 27), .ref (aa 28), .int (nI z), .ref (aa 29), .int (nI sk), .int (nI th), .ref (aa 30), .int (nI len), .int (nI ta), .int yr, .int ys, .int yo, .int yf, .int ye, .ref (aa 31), .ref (aa 32)])), ((aa 26), .inl (cY 0, 9, .inl (m_nf (m_all f cnt)))), ((aa 27), .inl (cY 0, 9, .inl (m_nf (m_all kf kc)))), ((aa 29), .inl (cY 0, 9, .inl (m_nf (m_all sf sn)))), ((aa 28), .inl (cY 0, 36, .inl (m_nf rv))), ((aa 30), .inl (cY 0, 60, .inl (m_nf tx))), ((aa 31), .inl (cY 0, 16, .inl (m_nf cv))), ((aa 32), .inl (cY 0, 16, .inl (m_nf bv)))] ++ m_pool sa pt pg pf pe) := hD
  refine m_callTPe (As := [.ref (aa 1), .ref (aa 0)]) (rest := []) C0 hE hl hP hD hS (c_L_carryOut_x2r l hfl D cY eS eO (aa 1) (aa 2) (aa 3) (aa 4) (aa 5) (aa 6) (aa 7) (aa 8) sk (aa 11) (aa 12) len sc cur tx sa pt pg pf pe (aa 13) cnt f (aa 14) rc rf (aa 9) bp ps tv uf uc (aa 0) ov (by first | assumption | omega) (by first | assumption | omega) (by first | assumption | omega) (by first | assumption | omega) (by first | assumption | omega) (by first | assumption | omega) (by first | assumption | omega) (by first | assumption | omega) (by first | assumption | omega)) (vx_cwSW 2 hts gL_law_L_carryOut rfl rfl rfl (by decide +kernel) ⟨Nat.le_of_ble_eq_true rfl, Nat.le_of_ble_eq_true rfl⟩) dL_law_614 [0, 1, 6, 7, 8, 9, 10, 11, 12, 2, 3] rfl rfl rfl (Nat.le_of_ble_eq_true rfl) (by omega) (by omega) (fun _ => rfl) (fun _ => m_pool_fst) (fun r2 u H1 locs hw hP hD hS => ?_)
  obtain ⟨sc9_3, cur9_4, pt9_5, pg9_6, pf9_7, pe9_8⟩ := u
  try dsimp only at hw
  obtain rfl := hw
  have hP : va_P D vwCl (law_w cY aa sa bp ov fr tf len sc9_3 cur9_4 tx f cnt uf uc sf sn z g0 g1 g2 g3 t0 t1 t2 t3 sk pt9_5 pg9_6 pf9_7 pe9_8 th ta yr ys yo yf ye kf kc rv cv bv f cnt sf sn z sk len tx) H1 := hP
  have hD : va_D A (law_w cY aa sa bp ov fr tf len sc9_3 cur9_4 tx f cnt uf uc sf sn z g0 g1 g2 g3 t0 t1 t2 t3 sk pt9_5 pg9_6 pf9_7 pe9_8 th ta yr ys yo yf ye kf kc rv cv bv f cnt sf sn z sk len tx) := hD
  refine lv_istore (lv' := [(5, .int (nI 1)), (0, .ref b), (1, .ref (aa 1)), (2, .ref (aa 25)), (3, .ref (aa 0)), (4, .int (nI i))]) hx hb dL_law_617 hl (by decide) rfl (fun ls hl => ?_)
  refine lv_aload_n hx hb dL_law_619 rfl (lv_at hl 3 rfl) ?_
  refine m_callVi (As := []) (rest := []) C0 hl hP hD hS (c_X7_carryOut_f2r l D cY (aa 25) (aa 26) (aa 27) (aa 28) (aa 29) (aa 30) (aa 31) (aa 32) z sk th len ta yr ys yo yf ye tx f cnt ps kf kc tv uf uc (by first | assumption | omega) (by first | assumption | omega) (by first | assumption | omega) (by first | assumption | omega) (by first | assumption | omega) (by first | assumption | omega) (by first | assumption | omega)) (cwV 0 hts gL_law_X7_carryOut rfl rfl rfl (by decide +kernel) ⟨Nat.le_of_ble_eq_true rfl, Nat.le_of_ble_eq_true rfl⟩) dL_law_620 [25, 26, 27, 30] rfl rfl 25 rfl rfl rfl rfl (Nat.le_of_ble_eq_true rfl) (by omega) (by omega) (fun _ => rfl) (fun r10 u H9 locs hw hP hD hS => ?_)
  obtain ⟨ta9_11, yr9_12, ys9_13, yo9_14, yf9_15, ye9_16⟩ := u
  try dsimp only at hw
  obtain rfl := hw
  have hP : va_P D vwCl (law_w cY aa sa bp ov fr tf len sc9_3 cur9_4 tx f cnt uf uc sf sn z g0 g1 g2 g3 t0 t1 t2 t3 sk pt9_5 pg9_6 pf9_7 pe9_8 1 ta9_11 yr9_12 ys9_13 yo9_14 yf9_15 ye9_16 f cnt rv cv bv f cnt sf sn z sk len tx) H9 := hP
  have hD : va_D A (law_w cY aa sa bp ov fr tf len sc9_3 cur9_4 tx f cnt uf uc sf sn z g0 g1 g2 g3 t0 t1 t2 t3 sk pt9_5 pg9_6 pf9_7 pe9_8 1 ta9_11 yr9_12 ys9_13 yo9_14 yf9_15 ye9_16 f cnt rv cv bv f cnt sf sn z sk len tx) := hD
  refine lv_istore (lv' := [(6, .int (nI 0)), (5, .int (nI 1)), (0, .ref b), (1, .ref (aa 1)), (2, .ref (aa 25)), (3, .ref (aa 0)), (4, .int (nI i))]) hx hb dL_law_623 hl (by decide) rfl (fun ls hl => ?_)
  refine lv_aload_n hx hb dL_law_625 rfl (lv_at hl 4 rfl) ?_
  refine m_callVi (As := []) (rest := []) C0 hl hP hD hS (c_X7_thrown l D cY (aa 25) (aa 26) (aa 27) (aa 28) (aa 29) (aa 30) (aa 31) (aa 32) z sk 1 len ta9_11 yr9_12 ys9_13 yo9_14 yf9_15 ye9_16 ) (cwV 0 hts gL_law_X7_thrown rfl rfl rfl (by decide +kernel) ⟨Nat.le_of_ble_eq_true rfl, Nat.le_of_ble_eq_true rfl⟩) dL_law_626 [25] rfl rfl 25 rfl rfl rfl rfl (Nat.le_of_ble_eq_true rfl) (by omega) (by omega) (fun _ => rfl) (fun r18 u H17 locs hw hP hD hS => ?_)
  try dsimp only at hw
  obtain rfl := hw
  have hP : va_P D vwCl (law_w cY aa sa bp ov fr tf len sc9_3 cur9_4 tx f cnt uf uc sf sn z g0 g1 g2 g3 t0 t1 t2 t3 sk pt9_5 pg9_6 pf9_7 pe9_8 1 ta9_11 yr9_12 ys9_13 yo9_14 yf9_15 ye9_16 f cnt rv cv bv f cnt sf sn z sk len tx) H17 := hP
  have hD : va_D A (law_w cY aa sa bp ov fr tf len sc9_3 cur9_4 tx f cnt uf uc sf sn z g0 g1 g2 g3 t0 t1 t2 t3 sk pt9_5 pg9_6 pf9_7 pe9_8 1 ta9_11 yr9_12 ys9_13 yo9_14 yf9_15 ye9_16 f cnt rv cv bv f cnt sf sn z sk len tx) := hD
  refine lv_iload hx hb dL_law_629 (lv_at hl 1 rfl) ?_
  refine lv_icmp_eq (tgt := 636) hx hb dL_law_631 (by decide) (fun c631 => ?_) (fun c631 => ?_)
  rotate_left
  · exact absurd rfl c631
  refine lv_iload hx hb dL_law_636 (lv_at hl 1 rfl) ?_
  refine lv_if_ne (tgt := 653) hx hb dL_law_638 (by decide) (fun c638 => ?_) (fun c638 => ?_)
  rotate_left
  · exact absurd c638 (by decide)
  refine lv_goto (tgt := 1541) hx hb dL_law_653 (by decide) ?_
  refine W.widen (k := cells + 1) (n := slots + 6) (by omega) (by omega) ?_
  exact kk ov fr tf len sc9_3 cur9_4 tx f cnt uf uc sf sn z g0 g1 g2 g3 t0 t1 t2 t3 sk pt9_5 pg9_6 pf9_7 pe9_8 1 ta9_11 yr9_12 ys9_13 yo9_14 yf9_15 ye9_16 f cnt rv cv bv _ _ ls (⟨hI.1, hpr.1, hI.2.2⟩) hP hD hS (lv_sub hl [2, 3, 4, 5, 6] rfl)
set_option maxHeartbeats 4000000 in
set_option maxRecDepth 100000 in
theorem v_carryOut_ok {p : Program} {l : Launch} {e : Env} {s : State} {m : MethodId} {below : List Frame} {meth : Method} {c : Code} {b L : Nat} {xs : Nat → Int32} {D : va_G} {cY : Nat → ClassId} {A : Nat → Prop} {eS : Nat → Nat} {eO : Nat} {Q : State → Prop} {aa sa bp : Nat → Nat} (F : law_F p l e s m meth c b L xs D cY A eS eO bp) {ov : Nat → Int64} {fr : Nat} {tf : Nat → Nat} {len : Nat} {sc : Nat} {cur : Nat} {tx : Nat → Nat} {f : Nat → Nat} {cnt : Nat} {rf : Nat → Nat} {rc : Nat} {sf : Nat → Nat} {sn : Nat} {z : Nat} {g0 : Nat → Nat} {g1 : Nat → Nat} {g2 : Nat → Nat} {g3 : Nat → Nat} {t0 : Nat} {t1 : Nat} {t2 : Nat} {t3 : Nat} {sk : Nat} {pt : Nat → Int32} {pg : Nat → Int32} {pf : Nat → Int32} {pe : Nat → Int32} {th : Nat} {ta : Nat} {yr : Int32} {ys : Int32} {yo : Int32} {yf : Int32} {ye : Int32} {kf : Nat → Nat} {kc : Nat} {rv : Nat → Nat} {cv : Nat → Nat} {bv : Nat → Nat} {i : Nat} (hi : i + 2 < L) {H : Heap} {locs : List Loc} {ls : Array Slot} {cells slots : Nat} (hcl : cells + 1 ≤ room_1.cells) (hsl : slots + 6 ≤ room_1.slots) (ps : List p_St) (lx : p_St) (tv : Int32) (uf : Nat → Nat) (uc : Nat) (hv : p_prog tx len 15 0 = .inr ps) (hrun : p_run ps 0 f cnt = (tv, uf, uc)) (htr : tv = -1) (hlx : ps.getLast? = some lx) (hl8 : lx.1 < 8)
    (hI : law_I fr tf len tx f rf sf z g0 g1 g2 g3 t0 t1 t2 t3 sk rv) (hP : va_P D vwCl (law_w cY aa sa bp ov fr tf len sc cur tx f cnt rf rc sf sn z g0 g1 g2 g3 t0 t1 t2 t3 sk pt pg pf pe th ta yr ys yo yf ye kf kc rv cv bv f cnt sf sn z sk len tx) H) (hD : va_D A (law_w cY aa sa bp ov fr tf len sc cur tx f cnt rf rc sf sn z g0 g1 g2 g3 t0 t1 t2 t3 sk pt pg pf pe th ta yr ys yo yf ye kf kc rv cv bv f cnt sf sn z sk len tx)) (hS : va_S A s.heap H locs) (hl : lv_has ls 7 [(0, .ref b), (1, .ref (aa 1)), (2, .ref (aa 25)), (3, .ref (aa 0)), (4, .int (nI i))]) (kk : law_K p l e s m below meth c b D cY A Q aa sa bp i (cells + 1) (slots + 6)) :
    W p l e room_1 s m #[.ref b] below meth c H locs cells slots Q (F0 m 612 ls []) := by
  obtain ⟨C0, hE, hX, hbl, hbA, hL, hB, hfl⟩ := id F
  obtain ⟨hx, hb, hr, hml, hts, hown, hlocks, hK, hA⟩ := id C0
  obtain ⟨⟨hf8, hf16⟩, hrf8, ⟨hsf8, hsf16⟩, ⟨⟨hg0, hg0b⟩, ⟨hg1, hg1b⟩, ⟨hg2, hg2b⟩, ⟨hg3, hg3b⟩⟩, hz4, ⟨hfr, htf⟩, ⟨hlen, htx⟩, hsk, hh, hrec, hH⟩ := id hI
  have hpr := p_run_g ps 0 f cnt (p_prog_8 15 0 ps hv).2 ⟨hf8, hf16⟩
  rw [hrun] at hpr
  have hpr : law_g uf := hpr
  refine lv_aload_n hx hb dL_law_612 rfl (lv_at hl 1 rfl) ?_
  refine lv_aload_n hx hb dL_law_613 rfl (lv_at hl 3 rfl) ?_
  have hP : va_P D vwCl ([((aa 0), .inl (cY 2, 1, .inr (.inl ov))), ((aa 1), .inr (6, [.ref (aa 2), .ref (aa 3), .ref (aa 4), .ref (aa 5), .ref (aa 6), .ref (aa 7), .ref (aa 8), .int (nI sk)])), ((aa 2), .inr (2, [.ref (aa 9)])), ((aa 9), .inl (cY 0, 256, .inl (m_nf bp))), ((aa 3), .inr (1, [.ref (aa 10), .int (nI fr)])), ((aa 10), .inl (cY 0, 256, .inl (m_nf tf))), ((aa 4), .inr (3, [.ref (aa 11), .ref (aa 12), .int (nI len), .int (nI sc), .int (nI cur)])), ((aa 11), .inl (cY 1, 60, .inl (m_nf tx))), ((aa 12), .inl (cY 4, 15, .inr (.inr (.inr (.inr (m_sa sa)))))), ((aa 5), .inr (4, [.ref (aa 13), .int (nI cnt)])), ((aa 13), .inl (cY 0, 8, .inl (m_nf f))), ((aa 6), .inr (4, [.ref (aa 14), .int (nI rc)])), ((aa 14), .inl (cY 0, 8, .inl (m_nf rf))), ((aa 7), .inr (4, [.ref (aa 15), .int (nI sn)])), ((aa 15), .inl (cY 0, 8, .inl (m_nf sf))), ((aa 8), .inr (0, [.ref (aa 16), .int (nI z)])), ((aa 16), .inl (cY 3, 4, .inr (.inr (.inr (.inr (m_k4 (aa 17) (aa 18) (aa 19) (aa 20))))))), ((aa 17), .inr (4, [.ref (aa 21), .int (nI t0)])), ((aa 21), .inl (cY 0, 8, .inl (m_nf g0))), ((aa 18), .inr (4, [.ref (aa 22), .int (nI t1)])), ((aa 22), .inl (cY 0, 8, .inl (m_nf g1))), ((aa 19), .inr (4, [.ref (aa 23), .int (nI t2)])), ((aa 23), .inl (cY 0, 8, .inl (m_nf g2))), ((aa 20), .inr (4, [.ref (aa 24), .int (nI t3)])), ((aa 24), .inl (cY 0, 8, .inl (m_nf g3))), ((aa 25), .inr (7, [.ref (aa 26), .ref (aa 27), .ref (aa 28), .int (nI z), .ref (aa 29), .int (nI sk), .int (nI th), .ref (aa 30), .int (nI len), .int (nI ta), .int yr, .int ys, .int yo, .int yf, .int ye, .ref (aa 31), .ref (aa 32)])), ((aa 26), .inl (cY 0, 9, .inl (m_nf (m_all f cnt)))), ((aa 27), .inl (cY 0, 9, .inl (m_nf (m_all kf kc)))), ((aa 29), .inl (cY 0, 9, .inl (m_nf (m_all sf sn)))), ((aa 28), .inl (cY 0, 36, .inl (m_nf rv))), ((aa 30), .inl (cY 0, 60, .inl (m_nf tx))), ((aa 31), .inl (cY 0, 16, .inl (m_nf cv))), ((aa 32), .inl (cY 0, 16, .inl (m_nf bv)))] ++ m_pool sa pt pg pf pe) H := hP
  have hD : va_D A ([((aa 0), .inl (cY 2, 1, .inr (.inl ov))), ((aa 1), .inr (6, [.ref (aa 2), .ref (aa 3), .ref (aa 4), .ref (aa 5), .ref (aa 6), .ref (aa 7), .ref (aa 8), .int (nI sk)])), ((aa 2), .inr (2, [.ref (aa 9)])), ((aa 9), .inl (cY 0, 256, .inl (m_nf bp))), ((aa 3), .inr (1, [.ref (aa 10), .int (nI fr)])), ((aa 10), .inl (cY 0, 256, .inl (m_nf tf))), ((aa 4), .inr (3, [.ref (aa 11), .ref (aa 12), .int (nI len), .int (nI sc), .int (nI cur)])), ((aa 11), .inl (cY 1, 60, .inl (m_nf tx))), ((aa 12), .inl (cY 4, 15, .inr (.inr (.inr (.inr (m_sa sa)))))), ((aa 5), .inr (4, [.ref (aa 13), .int (nI cnt)])), ((aa 13), .inl (cY 0, 8, .inl (m_nf f))), ((aa 6), .inr (4, [.ref (aa 14), .int (nI rc)])), ((aa 14), .inl (cY 0, 8, .inl (m_nf rf))), ((aa 7), .inr (4, [.ref (aa 15), .int (nI sn)])), ((aa 15), .inl (cY 0, 8, .inl (m_nf sf))), ((aa 8), .inr (0, [.ref (aa 16), .int (nI z)])), ((aa 16), .inl (cY 3, 4, .inr (.inr (.inr (.inr (m_k4 (aa 17) (aa 18) (aa 19) (aa 20))))))), ((aa 17), .inr (4, [.ref (aa 21), .int (nI t0)])), ((aa 21), .inl (cY 0, 8, .inl (m_nf g0))), ((aa 18), .inr (4, [.ref (aa 22), .int (nI t1)])), ((aa 22), .inl (cY 0, 8, .inl (m_nf g1))), ((aa 19), .inr (4, [.ref (aa 23), .int (nI t2)])), ((aa 23), .inl (cY 0, 8, .inl (m_nf g2))), ((aa 20), .inr (4, [.ref (aa 24), .int (nI t3)])), ((aa 24), .inl (cY 0, 8, .inl (m_nf g3))), ((aa 25), .inr (7, [.ref (aa 26), .ref (aa 27), .ref (aa 28), .int (nI z), .ref (aa 29), .int (nI sk), .int (nI th), .ref (aa 30), .int (nI len), .int (nI ta), .int yr, .int ys, .int yo, .int yf, .int ye, .ref (aa 31), .ref (aa 32)])), ((aa 26), .inl (cY 0, 9, .inl (m_nf (m_all f cnt)))), ((aa 27), .inl (cY 0, 9, .inl (m_nf (m_all kf kc)))), ((aa 29), .inl (cY 0, 9, .inl (m_nf (m_all sf sn)))), ((aa 28), .inl (cY 0, 36, .inl (m_nf rv))), ((aa 30), .inl (cY 0, 60, .inl (m_nf tx))), ((aa 31), .inl (cY 0, 16, .inl (m_nf cv))), ((aa 32), .inl (cY 0, 16, .inl (m_nf bv)))] ++ m_pool sa pt pg pf pe) := hD
  refine m_callTPi (As := [.ref (aa 1), .ref (aa 0)]) (rest := []) C0 hl hP hD hS (c_L_carryOut_okr l D cY (aa 1) (aa 2) (aa 3) (aa 4) (aa 5) (aa 6) (aa 7) (aa 8) sk (aa 11) (aa 12) len sc cur tx sa pt pg pf pe (aa 13) cnt f (aa 14) rc rf (aa 9) bp ps (aa 16) z (aa 17) (aa 18) (aa 19) (aa 20) (aa 21) (aa 22) (aa 23) (aa 24) t0 t1 t2 t3 g0 g1 g2 g3 lx tv uf uc (aa 0) ov (by first | assumption | omega) (by first | assumption | omega) (by first | assumption | omega) (by first | assumption | omega) (by first | assumption | omega) (by first | assumption | omega) (by first | assumption | omega) (by first | assumption | omega) (by first | assumption | omega) (by first | assumption | omega) (by first | assumption | omega) (by first | assumption | omega) (by first | assumption | omega) (by first | assumption | omega) (by first | assumption | omega) (by first | assumption | omega)) (vx_cwSW 2 hts gL_law_L_carryOut rfl rfl rfl (by decide +kernel) ⟨Nat.le_of_ble_eq_true rfl, Nat.le_of_ble_eq_true rfl⟩) dL_law_614 [0, 1, 6, 7, 8, 9, 10, 11, 12, 2, 3, 15, 16, 17, 18, 19, 20, 21, 22, 23, 24] rfl rfl rfl (Nat.le_of_ble_eq_true rfl) (by omega) (by omega) (fun _ => rfl) (fun _ => m_pool_fst) (fun r2 u H1 locs hw hP hD hS => ?_)
  obtain ⟨sc9_3, cur9_4, pt9_5, pg9_6, pf9_7, pe9_8⟩ := u
  try dsimp only at hw
  obtain rfl := hw
  have hP : va_P D vwCl (law_w cY aa sa bp (vp_updL ov 0 (Int32.toInt64 (nI (uf lx.1)))) fr tf len sc9_3 cur9_4 tx uf uc uf uc sf sn (min (z + 1) 4) f g0 g1 g2 cnt t0 t1 t2 sk pt9_5 pg9_6 pf9_7 pe9_8 th ta yr ys yo yf ye kf kc rv cv bv f cnt sf sn z sk len tx) H1 := hP
  have hD : va_D A (law_w cY aa sa bp (vp_updL ov 0 (Int32.toInt64 (nI (uf lx.1)))) fr tf len sc9_3 cur9_4 tx uf uc uf uc sf sn (min (z + 1) 4) f g0 g1 g2 cnt t0 t1 t2 sk pt9_5 pg9_6 pf9_7 pe9_8 th ta yr ys yo yf ye kf kc rv cv bv f cnt sf sn z sk len tx) := hD
  refine lv_istore (lv' := [(5, .int (nI 0)), (0, .ref b), (1, .ref (aa 1)), (2, .ref (aa 25)), (3, .ref (aa 0)), (4, .int (nI i))]) hx hb dL_law_617 hl (by decide) rfl (fun ls hl => ?_)
  refine lv_aload_n hx hb dL_law_619 rfl (lv_at hl 3 rfl) ?_
  refine m_callVi (As := []) (rest := []) C0 hl hP hD hS (c_X7_carryOut_okr l D cY (aa 25) (aa 26) (aa 27) (aa 28) (aa 29) (aa 30) (aa 31) (aa 32) z sk th len ta yr ys yo yf ye tx f cnt ps kf kc rv hh lx tv uf uc (by first | assumption | omega) (by first | assumption | omega) (by first | assumption | omega) (by first | assumption | omega) (by first | assumption | omega) (by first | assumption | omega) (by first | assumption | omega) (by first | assumption | omega) (by first | assumption | omega) (by first | assumption | omega) (by first | assumption | omega)) (cwV 0 hts gL_law_X7_carryOut rfl rfl rfl (by decide +kernel) ⟨Nat.le_of_ble_eq_true rfl, Nat.le_of_ble_eq_true rfl⟩) dL_law_620 [25, 26, 27, 30, 29] rfl rfl 25 rfl rfl rfl rfl (Nat.le_of_ble_eq_true rfl) (by omega) (by omega) (fun _ => rfl) (fun r10 u H9 locs hw hP hD hS => ?_)
  obtain ⟨ta9_11, yr9_12, ys9_13, yo9_14, yf9_15, ye9_16, rv9_17⟩ := u
  try dsimp only at hw
  obtain ⟨rfl, hq18⟩ := hw
  have hP : va_P D vwCl (law_w cY aa sa bp (vp_updL ov 0 (Int32.toInt64 (nI (uf lx.1)))) fr tf len sc9_3 cur9_4 tx uf uc uf uc sf sn (min (z + 1) 4) f g0 g1 g2 cnt t0 t1 t2 sk pt9_5 pg9_6 pf9_7 pe9_8 0 ta9_11 yr9_12 ys9_13 yo9_14 yf9_15 ye9_16 f cnt rv9_17 cv bv uf uc sf sn (min (z + 1) 4) sk len tx) H9 := hP
  have hD : va_D A (law_w cY aa sa bp (vp_updL ov 0 (Int32.toInt64 (nI (uf lx.1)))) fr tf len sc9_3 cur9_4 tx uf uc uf uc sf sn (min (z + 1) 4) f g0 g1 g2 cnt t0 t1 t2 sk pt9_5 pg9_6 pf9_7 pe9_8 0 ta9_11 yr9_12 ys9_13 yo9_14 yf9_15 ye9_16 f cnt rv9_17 cv bv uf uc sf sn (min (z + 1) 4) sk len tx) := hD
  refine lv_istore (lv' := [(6, .int (nI (uf lx.1))), (5, .int (nI 0)), (0, .ref b), (1, .ref (aa 1)), (2, .ref (aa 25)), (3, .ref (aa 0)), (4, .int (nI i))]) hx hb dL_law_623 hl (by decide) rfl (fun ls hl => ?_)
  refine lv_aload_n hx hb dL_law_625 rfl (lv_at hl 4 rfl) ?_
  refine m_callVi (As := []) (rest := []) C0 hl hP hD hS (c_X7_thrown l D cY (aa 25) (aa 26) (aa 27) (aa 28) (aa 29) (aa 30) (aa 31) (aa 32) (min (z + 1) 4) sk 0 len ta9_11 yr9_12 ys9_13 yo9_14 yf9_15 ye9_16 ) (cwV 0 hts gL_law_X7_thrown rfl rfl rfl (by decide +kernel) ⟨Nat.le_of_ble_eq_true rfl, Nat.le_of_ble_eq_true rfl⟩) dL_law_626 [25] rfl rfl 25 rfl rfl rfl rfl (Nat.le_of_ble_eq_true rfl) (by omega) (by omega) (fun _ => rfl) (fun r20 u H19 locs hw hP hD hS => ?_)
  try dsimp only at hw
  obtain rfl := hw
  have hP : va_P D vwCl (law_w cY aa sa bp (vp_updL ov 0 (Int32.toInt64 (nI (uf lx.1)))) fr tf len sc9_3 cur9_4 tx uf uc uf uc sf sn (min (z + 1) 4) f g0 g1 g2 cnt t0 t1 t2 sk pt9_5 pg9_6 pf9_7 pe9_8 0 ta9_11 yr9_12 ys9_13 yo9_14 yf9_15 ye9_16 f cnt rv9_17 cv bv uf uc sf sn (min (z + 1) 4) sk len tx) H19 := hP
  have hD : va_D A (law_w cY aa sa bp (vp_updL ov 0 (Int32.toInt64 (nI (uf lx.1)))) fr tf len sc9_3 cur9_4 tx uf uc uf uc sf sn (min (z + 1) 4) f g0 g1 g2 cnt t0 t1 t2 sk pt9_5 pg9_6 pf9_7 pe9_8 0 ta9_11 yr9_12 ys9_13 yo9_14 yf9_15 ye9_16 f cnt rv9_17 cv bv uf uc sf sn (min (z + 1) 4) sk len tx) := hD
  refine lv_iload hx hb dL_law_629 (lv_at hl 1 rfl) ?_
  refine lv_icmp_eq (tgt := 636) hx hb dL_law_631 (by decide) (fun c631 => ?_) (fun c631 => ?_)
  rotate_left
  · exact absurd rfl c631
  refine lv_iload hx hb dL_law_636 (lv_at hl 1 rfl) ?_
  refine lv_if_ne (tgt := 653) hx hb dL_law_638 (by decide) (fun c638 => ?_) (fun c638 => ?_)
  · exact absurd rfl c638
  refine lv_aload_n hx hb dL_law_641 rfl (lv_at hl 5 rfl) ?_
  refine lv_iconst (v := nI 0) hx hb dL_law_642 (by decide) ?_
  refine va_lald hx hb hK hP 0 2 rfl rfl (m_in (n := 0) (by decide) (by decide)) dL_law_643 ?_
  refine lv_topl (nm_r (show _ = Int32.toInt64 (nI (uf lx.1)) from by rw [nI_clamp (by decide)]; exact if_pos rfl) ?_)
  refine lv_iload hx hb dL_law_644 (lv_at hl 0 rfl) ?_
  refine lv_i2l (v := Int32.toInt64 (nI (uf lx.1))) hx hb dL_law_646 rfl ?_
  refine W.lcmp hx hb dL_law_647 ?_
  refine lv_topi (nm_r (m_cmp_self _) ?_)
  refine lv_if_eq (tgt := 653) hx hb dL_law_648 (by decide) (fun c648 => ?_) (fun c648 => ?_)
  rotate_left
  · exact absurd rfl c648
  refine lv_goto (tgt := 1541) hx hb dL_law_653 (by decide) ?_
  refine W.widen (k := cells + 1) (n := slots + 6) (by omega) (by omega) ?_
  exact kk (vp_updL ov 0 (Int32.toInt64 (nI (uf lx.1)))) fr tf len sc9_3 cur9_4 tx uf uc uf uc sf sn (min (z + 1) 4) f g0 g1 g2 cnt t0 t1 t2 sk pt9_5 pg9_6 pf9_7 pe9_8 0 ta9_11 yr9_12 ys9_13 yo9_14 yf9_15 ye9_16 f cnt rv9_17 cv bv _ _ ls (law_I_rec hI hH (hpr) (hpr.1) hq18) hP hD hS (lv_sub hl [2, 3, 4, 5, 6] rfl)
set_option maxHeartbeats 4000000 in
set_option maxRecDepth 100000 in
theorem v_undo_x1 {p : Program} {l : Launch} {e : Env} {s : State} {m : MethodId} {below : List Frame} {meth : Method} {c : Code} {b L : Nat} {xs : Nat → Int32} {D : va_G} {cY : Nat → ClassId} {A : Nat → Prop} {eS : Nat → Nat} {eO : Nat} {Q : State → Prop} {aa sa bp : Nat → Nat} (F : law_F p l e s m meth c b L xs D cY A eS eO bp) {ov : Nat → Int64} {fr : Nat} {tf : Nat → Nat} {len : Nat} {sc : Nat} {cur : Nat} {tx : Nat → Nat} {f : Nat → Nat} {cnt : Nat} {rf : Nat → Nat} {rc : Nat} {sf : Nat → Nat} {sn : Nat} {z : Nat} {g0 : Nat → Nat} {g1 : Nat → Nat} {g2 : Nat → Nat} {g3 : Nat → Nat} {t0 : Nat} {t1 : Nat} {t2 : Nat} {t3 : Nat} {sk : Nat} {pt : Nat → Int32} {pg : Nat → Int32} {pf : Nat → Int32} {pe : Nat → Int32} {th : Nat} {ta : Nat} {yr : Int32} {ys : Int32} {yo : Int32} {yf : Int32} {ye : Int32} {kf : Nat → Nat} {kc : Nat} {rv : Nat → Nat} {cv : Nat → Nat} {bv : Nat → Nat} {i : Nat} (hi : i + 2 < L) {H : Heap} {locs : List Loc} {ls : Array Slot} {cells slots : Nat} (hcl : cells + 1 ≤ room_1.cells) (hsl : slots + 6 ≤ room_1.slots)  (hz : z = 0)
    (hI : law_I fr tf len tx f rf sf z g0 g1 g2 g3 t0 t1 t2 t3 sk rv) (hP : va_P D vwCl (law_w cY aa sa bp ov fr tf len sc cur tx f cnt rf rc sf sn z g0 g1 g2 g3 t0 t1 t2 t3 sk pt pg pf pe th ta yr ys yo yf ye kf kc rv cv bv f cnt sf sn z sk len tx) H) (hD : va_D A (law_w cY aa sa bp ov fr tf len sc cur tx f cnt rf rc sf sn z g0 g1 g2 g3 t0 t1 t2 t3 sk pt pg pf pe th ta yr ys yo yf ye kf kc rv cv bv f cnt sf sn z sk len tx)) (hS : va_S A s.heap H locs) (hl : lv_has ls 7 [(0, .ref b), (1, .ref (aa 1)), (2, .ref (aa 25)), (3, .ref (aa 0)), (4, .int (nI i))]) (kk : law_K p l e s m below meth c b D cY A Q aa sa bp i (cells + 1) (slots + 6)) :
    W p l e room_1 s m #[.ref b] below meth c H locs cells slots Q (F0 m 656 ls []) := by
  obtain ⟨C0, hE, hX, hbl, hbA, hL, hB, hfl⟩ := id F
  obtain ⟨hx, hb, hr, hml, hts, hown, hlocks, hK, hA⟩ := id C0
  obtain ⟨⟨hf8, hf16⟩, hrf8, ⟨hsf8, hsf16⟩, ⟨⟨hg0, hg0b⟩, ⟨hg1, hg1b⟩, ⟨hg2, hg2b⟩, ⟨hg3, hg3b⟩⟩, hz4, ⟨hfr, htf⟩, ⟨hlen, htx⟩, hsk, hh, hrec, hH⟩ := id hI
  refine lv_aload_n hx hb dL_law_656 rfl (lv_at hl 1 rfl) ?_
  refine lv_aload_n hx hb dL_law_657 rfl (lv_at hl 3 rfl) ?_
  refine m_callTe (As := [.ref (aa 1), .ref (aa 0)]) (rest := []) C0 hE hl hP hD hS (c_L_undo_x1 l hfl D cY eS eO (aa 1) (aa 2) (aa 3) (aa 4) (aa 5) (aa 6) (aa 7) (aa 8) sk (aa 16) z (aa 17) (aa 18) (aa 19) (aa 20) (aa 21) (aa 22) (aa 23) (aa 24) t0 t1 t2 t3 g0 g1 g2 g3 (aa 0) ov (by first | assumption | omega)) (vx_cwSW 2 hts gL_law_L_undo rfl rfl rfl (by decide +kernel) ⟨Nat.le_of_ble_eq_true rfl, Nat.le_of_ble_eq_true rfl⟩) dL_law_658 [0, 1, 15, 16, 17, 18, 19, 20, 21, 22, 23, 24] rfl rfl rfl (Nat.le_of_ble_eq_true rfl) (by omega) (by omega) (fun _ => rfl) (fun r2 u H1 locs hw hP hD hS => ?_)
  try dsimp only at hw
  obtain rfl := hw
  have hP : va_P D vwCl (law_w cY aa sa bp ov fr tf len sc cur tx f cnt rf rc sf sn z g0 g1 g2 g3 t0 t1 t2 t3 sk pt pg pf pe th ta yr ys yo yf ye kf kc rv cv bv f cnt sf sn z sk len tx) H1 := hP
  have hD : va_D A (law_w cY aa sa bp ov fr tf len sc cur tx f cnt rf rc sf sn z g0 g1 g2 g3 t0 t1 t2 t3 sk pt pg pf pe th ta yr ys yo yf ye kf kc rv cv bv f cnt sf sn z sk len tx) := hD
  refine lv_istore (lv' := [(5, .int (nI 1)), (0, .ref b), (1, .ref (aa 1)), (2, .ref (aa 25)), (3, .ref (aa 0)), (4, .int (nI i))]) hx hb dL_law_661 hl (by decide) rfl (fun ls hl => ?_)
  refine lv_aload_n hx hb dL_law_663 rfl (lv_at hl 3 rfl) ?_
  refine m_callVi (As := []) (rest := []) C0 hl hP hD hS (c_X7_undo_f1 l D cY (aa 25) (aa 26) (aa 27) (aa 28) (aa 29) (aa 30) (aa 31) (aa 32) z sk th len ta yr ys yo yf ye (by first | assumption | omega)) (cwV 0 hts gL_law_X7_undo rfl rfl rfl (by decide +kernel) ⟨Nat.le_of_ble_eq_true rfl, Nat.le_of_ble_eq_true rfl⟩) dL_law_664 [25] rfl rfl 25 rfl rfl rfl rfl (Nat.le_of_ble_eq_true rfl) (by omega) (by omega) (fun _ => rfl) (fun r4 u H3 locs hw hP hD hS => ?_)
  try dsimp only at hw
  obtain rfl := hw
  have hP : va_P D vwCl (law_w cY aa sa bp ov fr tf len sc cur tx f cnt rf rc sf sn z g0 g1 g2 g3 t0 t1 t2 t3 sk pt pg pf pe 1 ta yr ys yo yf ye kf kc rv cv bv f cnt sf sn z sk len tx) H3 := hP
  have hD : va_D A (law_w cY aa sa bp ov fr tf len sc cur tx f cnt rf rc sf sn z g0 g1 g2 g3 t0 t1 t2 t3 sk pt pg pf pe 1 ta yr ys yo yf ye kf kc rv cv bv f cnt sf sn z sk len tx) := hD
  refine lv_istore (lv' := [(6, .int (nI 0)), (5, .int (nI 1)), (0, .ref b), (1, .ref (aa 1)), (2, .ref (aa 25)), (3, .ref (aa 0)), (4, .int (nI i))]) hx hb dL_law_667 hl (by decide) rfl (fun ls hl => ?_)
  refine lv_aload_n hx hb dL_law_669 rfl (lv_at hl 4 rfl) ?_
  refine m_callVi (As := []) (rest := []) C0 hl hP hD hS (c_X7_thrown l D cY (aa 25) (aa 26) (aa 27) (aa 28) (aa 29) (aa 30) (aa 31) (aa 32) z sk 1 len ta yr ys yo yf ye ) (cwV 0 hts gL_law_X7_thrown rfl rfl rfl (by decide +kernel) ⟨Nat.le_of_ble_eq_true rfl, Nat.le_of_ble_eq_true rfl⟩) dL_law_670 [25] rfl rfl 25 rfl rfl rfl rfl (Nat.le_of_ble_eq_true rfl) (by omega) (by omega) (fun _ => rfl) (fun r6 u H5 locs hw hP hD hS => ?_)
  try dsimp only at hw
  obtain rfl := hw
  have hP : va_P D vwCl (law_w cY aa sa bp ov fr tf len sc cur tx f cnt rf rc sf sn z g0 g1 g2 g3 t0 t1 t2 t3 sk pt pg pf pe 1 ta yr ys yo yf ye kf kc rv cv bv f cnt sf sn z sk len tx) H5 := hP
  have hD : va_D A (law_w cY aa sa bp ov fr tf len sc cur tx f cnt rf rc sf sn z g0 g1 g2 g3 t0 t1 t2 t3 sk pt pg pf pe 1 ta yr ys yo yf ye kf kc rv cv bv f cnt sf sn z sk len tx) := hD
  refine lv_iload hx hb dL_law_673 (lv_at hl 1 rfl) ?_
  refine lv_icmp_eq (tgt := 680) hx hb dL_law_675 (by decide) (fun c675 => ?_) (fun c675 => ?_)
  rotate_left
  · exact absurd rfl c675
  refine lv_iload hx hb dL_law_680 (lv_at hl 1 rfl) ?_
  refine lv_if_ne (tgt := 697) hx hb dL_law_682 (by decide) (fun c682 => ?_) (fun c682 => ?_)
  rotate_left
  · exact absurd c682 (by decide)
  refine lv_goto (tgt := 1541) hx hb dL_law_697 (by decide) ?_
  refine W.widen (k := cells + 1) (n := slots + 6) (by omega) (by omega) ?_
  exact kk ov fr tf len sc cur tx f cnt rf rc sf sn z g0 g1 g2 g3 t0 t1 t2 t3 sk pt pg pf pe 1 ta yr ys yo yf ye kf kc rv cv bv _ _ ls (hI) hP hD hS (lv_sub hl [2, 3, 4, 5, 6] rfl)
set_option maxHeartbeats 4000000 in
set_option maxRecDepth 100000 in
theorem v_undo_ok {p : Program} {l : Launch} {e : Env} {s : State} {m : MethodId} {below : List Frame} {meth : Method} {c : Code} {b L : Nat} {xs : Nat → Int32} {D : va_G} {cY : Nat → ClassId} {A : Nat → Prop} {eS : Nat → Nat} {eO : Nat} {Q : State → Prop} {aa sa bp : Nat → Nat} (F : law_F p l e s m meth c b L xs D cY A eS eO bp) {ov : Nat → Int64} {fr : Nat} {tf : Nat → Nat} {len : Nat} {sc : Nat} {cur : Nat} {tx : Nat → Nat} {f : Nat → Nat} {cnt : Nat} {rf : Nat → Nat} {rc : Nat} {sf : Nat → Nat} {sn : Nat} {z : Nat} {g0 : Nat → Nat} {g1 : Nat → Nat} {g2 : Nat → Nat} {g3 : Nat → Nat} {t0 : Nat} {t1 : Nat} {t2 : Nat} {t3 : Nat} {sk : Nat} {pt : Nat → Int32} {pg : Nat → Int32} {pf : Nat → Int32} {pe : Nat → Int32} {th : Nat} {ta : Nat} {yr : Int32} {ys : Int32} {yo : Int32} {yf : Int32} {ye : Int32} {kf : Nat → Nat} {kc : Nat} {rv : Nat → Nat} {cv : Nat → Nat} {bv : Nat → Nat} {i : Nat} (hi : i + 2 < L) {H : Heap} {locs : List Loc} {ls : Array Slot} {cells slots : Nat} (hcl : cells + 1 ≤ room_1.cells) (hsl : slots + 6 ≤ room_1.slots)  (hz : 0 < z)
    (hI : law_I fr tf len tx f rf sf z g0 g1 g2 g3 t0 t1 t2 t3 sk rv) (hP : va_P D vwCl (law_w cY aa sa bp ov fr tf len sc cur tx f cnt rf rc sf sn z g0 g1 g2 g3 t0 t1 t2 t3 sk pt pg pf pe th ta yr ys yo yf ye kf kc rv cv bv f cnt sf sn z sk len tx) H) (hD : va_D A (law_w cY aa sa bp ov fr tf len sc cur tx f cnt rf rc sf sn z g0 g1 g2 g3 t0 t1 t2 t3 sk pt pg pf pe th ta yr ys yo yf ye kf kc rv cv bv f cnt sf sn z sk len tx)) (hS : va_S A s.heap H locs) (hl : lv_has ls 7 [(0, .ref b), (1, .ref (aa 1)), (2, .ref (aa 25)), (3, .ref (aa 0)), (4, .int (nI i))]) (kk : law_K p l e s m below meth c b D cY A Q aa sa bp i (cells + 1) (slots + 6)) :
    W p l e room_1 s m #[.ref b] below meth c H locs cells slots Q (F0 m 656 ls []) := by
  obtain ⟨C0, hE, hX, hbl, hbA, hL, hB, hfl⟩ := id F
  obtain ⟨hx, hb, hr, hml, hts, hown, hlocks, hK, hA⟩ := id C0
  obtain ⟨⟨hf8, hf16⟩, hrf8, ⟨hsf8, hsf16⟩, ⟨⟨hg0, hg0b⟩, ⟨hg1, hg1b⟩, ⟨hg2, hg2b⟩, ⟨hg3, hg3b⟩⟩, hz4, ⟨hfr, htf⟩, ⟨hlen, htx⟩, hsk, hh, hrec, hH⟩ := id hI
  have hH0 := hH.1 hz
  refine lv_aload_n hx hb dL_law_656 rfl (lv_at hl 1 rfl) ?_
  refine lv_aload_n hx hb dL_law_657 rfl (lv_at hl 3 rfl) ?_
  refine m_callTi (As := [.ref (aa 1), .ref (aa 0)]) (rest := []) C0 hl hP hD hS (c_L_undo_ok l D cY (aa 1) (aa 2) (aa 3) (aa 4) (aa 5) (aa 6) (aa 7) (aa 8) sk (aa 13) cnt f (aa 16) z (aa 17) (aa 18) (aa 19) (aa 20) (aa 21) (aa 22) (aa 23) (aa 24) t0 t1 t2 t3 g0 g1 g2 g3 (aa 0) ov (by first | assumption | omega) (by first | assumption | omega) (by first | assumption | omega) (by first | assumption | omega) (by first | assumption | omega) (by first | assumption | omega) (by first | assumption | omega) (by first | assumption | omega)) (vx_cwSW 2 hts gL_law_L_undo rfl rfl rfl (by decide +kernel) ⟨Nat.le_of_ble_eq_true rfl, Nat.le_of_ble_eq_true rfl⟩) dL_law_658 [0, 1, 9, 10, 15, 16, 17, 18, 19, 20, 21, 22, 23, 24] rfl rfl rfl (Nat.le_of_ble_eq_true rfl) (by omega) (by omega) (fun _ => rfl) (fun r2 u H1 locs hw hP hD hS => ?_)
  try dsimp only at hw
  obtain rfl := hw
  have hP : va_P D vwCl (law_w cY aa sa bp (vp_updL ov 0 (Int32.toInt64 (nI (z - 1)))) fr tf len sc cur tx g0 t0 rf rc sf sn (z - 1) g1 g2 g3 g3 t1 t2 t3 t3 sk pt pg pf pe th ta yr ys yo yf ye kf kc rv cv bv f cnt sf sn z sk len tx) H1 := hP
  have hD : va_D A (law_w cY aa sa bp (vp_updL ov 0 (Int32.toInt64 (nI (z - 1)))) fr tf len sc cur tx g0 t0 rf rc sf sn (z - 1) g1 g2 g3 g3 t1 t2 t3 t3 sk pt pg pf pe th ta yr ys yo yf ye kf kc rv cv bv f cnt sf sn z sk len tx) := hD
  refine lv_istore (lv' := [(5, .int (nI 0)), (0, .ref b), (1, .ref (aa 1)), (2, .ref (aa 25)), (3, .ref (aa 0)), (4, .int (nI i))]) hx hb dL_law_661 hl (by decide) rfl (fun ls hl => ?_)
  refine lv_aload_n hx hb dL_law_663 rfl (lv_at hl 3 rfl) ?_
  refine m_callVi (As := []) (rest := []) C0 hl hP hD hS (c_X7_undo_ok l D cY (aa 25) (aa 26) (aa 27) (aa 28) (aa 29) (aa 30) (aa 31) (aa 32) z sk th len ta yr ys yo yf ye f cnt rv hh g0 t0 (by first | assumption | omega) (by first | assumption | omega) (by first | assumption | omega) (by first | assumption | omega)) (cwV 0 hts gL_law_X7_undo rfl rfl rfl (by decide +kernel) ⟨Nat.le_of_ble_eq_true rfl, Nat.le_of_ble_eq_true rfl⟩) dL_law_664 [25, 26, 29] rfl rfl 25 rfl rfl rfl rfl (Nat.le_of_ble_eq_true rfl) (by omega) (by omega) (fun _ => rfl) (fun r4 u H3 locs hw hP hD hS => ?_)
  try dsimp only at hw
  obtain ⟨rfl, hq5⟩ := hw
  have hP : va_P D vwCl (law_w cY aa sa bp (vp_updL ov 0 (Int32.toInt64 (nI (z - 1)))) fr tf len sc cur tx g0 t0 rf rc sf sn (z - 1) g1 g2 g3 g3 t1 t2 t3 t3 sk pt pg pf pe 0 ta yr ys yo yf ye kf kc rv cv bv g0 t0 sf sn (z - 1) sk len tx) H3 := hP
  have hD : va_D A (law_w cY aa sa bp (vp_updL ov 0 (Int32.toInt64 (nI (z - 1)))) fr tf len sc cur tx g0 t0 rf rc sf sn (z - 1) g1 g2 g3 g3 t1 t2 t3 t3 sk pt pg pf pe 0 ta yr ys yo yf ye kf kc rv cv bv g0 t0 sf sn (z - 1) sk len tx) := hD
  refine lv_istore (lv' := [(6, .int (nI (z - 1))), (5, .int (nI 0)), (0, .ref b), (1, .ref (aa 1)), (2, .ref (aa 25)), (3, .ref (aa 0)), (4, .int (nI i))]) hx hb dL_law_667 hl (by decide) rfl (fun ls hl => ?_)
  refine lv_aload_n hx hb dL_law_669 rfl (lv_at hl 4 rfl) ?_
  refine m_callVi (As := []) (rest := []) C0 hl hP hD hS (c_X7_thrown l D cY (aa 25) (aa 26) (aa 27) (aa 28) (aa 29) (aa 30) (aa 31) (aa 32) (z - 1) sk 0 len ta yr ys yo yf ye ) (cwV 0 hts gL_law_X7_thrown rfl rfl rfl (by decide +kernel) ⟨Nat.le_of_ble_eq_true rfl, Nat.le_of_ble_eq_true rfl⟩) dL_law_670 [25] rfl rfl 25 rfl rfl rfl rfl (Nat.le_of_ble_eq_true rfl) (by omega) (by omega) (fun _ => rfl) (fun r7 u H6 locs hw hP hD hS => ?_)
  try dsimp only at hw
  obtain rfl := hw
  have hP : va_P D vwCl (law_w cY aa sa bp (vp_updL ov 0 (Int32.toInt64 (nI (z - 1)))) fr tf len sc cur tx g0 t0 rf rc sf sn (z - 1) g1 g2 g3 g3 t1 t2 t3 t3 sk pt pg pf pe 0 ta yr ys yo yf ye kf kc rv cv bv g0 t0 sf sn (z - 1) sk len tx) H6 := hP
  have hD : va_D A (law_w cY aa sa bp (vp_updL ov 0 (Int32.toInt64 (nI (z - 1)))) fr tf len sc cur tx g0 t0 rf rc sf sn (z - 1) g1 g2 g3 g3 t1 t2 t3 t3 sk pt pg pf pe 0 ta yr ys yo yf ye kf kc rv cv bv g0 t0 sf sn (z - 1) sk len tx) := hD
  refine lv_iload hx hb dL_law_673 (lv_at hl 1 rfl) ?_
  refine lv_icmp_eq (tgt := 680) hx hb dL_law_675 (by decide) (fun c675 => ?_) (fun c675 => ?_)
  rotate_left
  · exact absurd rfl c675
  refine lv_iload hx hb dL_law_680 (lv_at hl 1 rfl) ?_
  refine lv_if_ne (tgt := 697) hx hb dL_law_682 (by decide) (fun c682 => ?_) (fun c682 => ?_)
  · exact absurd rfl c682
  refine lv_aload_n hx hb dL_law_685 rfl (lv_at hl 5 rfl) ?_
  refine lv_iconst (v := nI 0) hx hb dL_law_686 (by decide) ?_
  refine va_lald hx hb hK hP 0 2 rfl rfl (m_in (n := 0) (by decide) (by decide)) dL_law_687 ?_
  refine lv_topl (nm_r (show _ = Int32.toInt64 (nI (z - 1)) from by rw [nI_clamp (by decide)]; exact if_pos rfl) ?_)
  refine lv_iload hx hb dL_law_688 (lv_at hl 0 rfl) ?_
  refine lv_i2l (v := Int32.toInt64 (nI (z - 1))) hx hb dL_law_690 rfl ?_
  refine W.lcmp hx hb dL_law_691 ?_
  refine lv_topi (nm_r (m_cmp_self _) ?_)
  refine lv_if_eq (tgt := 697) hx hb dL_law_692 (by decide) (fun c692 => ?_) (fun c692 => ?_)
  rotate_left
  · exact absurd rfl c692
  refine lv_goto (tgt := 1541) hx hb dL_law_697 (by decide) ?_
  refine W.widen (k := cells + 1) (n := slots + 6) (by omega) (by omega) ?_
  exact kk (vp_updL ov 0 (Int32.toInt64 (nI (z - 1)))) fr tf len sc cur tx g0 t0 rf rc sf sn (z - 1) g1 g2 g3 g3 t1 t2 t3 t3 sk pt pg pf pe 0 ta yr ys yo yf ye kf kc rv cv bv _ _ ls (law_I_undo hI hH hq5) hP hD hS (lv_sub hl [2, 3, 4, 5, 6] rfl)
set_option maxHeartbeats 4000000 in
set_option maxRecDepth 100000 in
theorem v_takeSnapshot_ok {p : Program} {l : Launch} {e : Env} {s : State} {m : MethodId} {below : List Frame} {meth : Method} {c : Code} {b L : Nat} {xs : Nat → Int32} {D : va_G} {cY : Nat → ClassId} {A : Nat → Prop} {eS : Nat → Nat} {eO : Nat} {Q : State → Prop} {aa sa bp : Nat → Nat} (F : law_F p l e s m meth c b L xs D cY A eS eO bp) {ov : Nat → Int64} {fr : Nat} {tf : Nat → Nat} {len : Nat} {sc : Nat} {cur : Nat} {tx : Nat → Nat} {f : Nat → Nat} {cnt : Nat} {rf : Nat → Nat} {rc : Nat} {sf : Nat → Nat} {sn : Nat} {z : Nat} {g0 : Nat → Nat} {g1 : Nat → Nat} {g2 : Nat → Nat} {g3 : Nat → Nat} {t0 : Nat} {t1 : Nat} {t2 : Nat} {t3 : Nat} {sk : Nat} {pt : Nat → Int32} {pg : Nat → Int32} {pf : Nat → Int32} {pe : Nat → Int32} {th : Nat} {ta : Nat} {yr : Int32} {ys : Int32} {yo : Int32} {yf : Int32} {ye : Int32} {kf : Nat → Nat} {kc : Nat} {rv : Nat → Nat} {cv : Nat → Nat} {bv : Nat → Nat} {i : Nat} (hi : i + 2 < L) {H : Heap} {locs : List Loc} {ls : Array Slot} {cells slots : Nat} (hcl : cells + 1 ≤ room_1.cells) (hsl : slots + 6 ≤ room_1.slots)  
    (hI : law_I fr tf len tx f rf sf z g0 g1 g2 g3 t0 t1 t2 t3 sk rv) (hP : va_P D vwCl (law_w cY aa sa bp ov fr tf len sc cur tx f cnt rf rc sf sn z g0 g1 g2 g3 t0 t1 t2 t3 sk pt pg pf pe th ta yr ys yo yf ye kf kc rv cv bv f cnt sf sn z sk len tx) H) (hD : va_D A (law_w cY aa sa bp ov fr tf len sc cur tx f cnt rf rc sf sn z g0 g1 g2 g3 t0 t1 t2 t3 sk pt pg pf pe th ta yr ys yo yf ye kf kc rv cv bv f cnt sf sn z sk len tx)) (hS : va_S A s.heap H locs) (hl : lv_has ls 7 [(0, .ref b), (1, .ref (aa 1)), (2, .ref (aa 25)), (3, .ref (aa 0)), (4, .int (nI i))]) (kk : law_K p l e s m below meth c b D cY A Q aa sa bp i (cells + 1) (slots + 6)) :
    W p l e room_1 s m #[.ref b] below meth c H locs cells slots Q (F0 m 700 ls []) := by
  obtain ⟨C0, hE, hX, hbl, hbA, hL, hB, hfl⟩ := id F
  obtain ⟨hx, hb, hr, hml, hts, hown, hlocks, hK, hA⟩ := id C0
  obtain ⟨⟨hf8, hf16⟩, hrf8, ⟨hsf8, hsf16⟩, ⟨⟨hg0, hg0b⟩, ⟨hg1, hg1b⟩, ⟨hg2, hg2b⟩, ⟨hg3, hg3b⟩⟩, hz4, ⟨hfr, htf⟩, ⟨hlen, htx⟩, hsk, hh, hrec, hH⟩ := id hI
  refine lv_aload_n hx hb dL_law_700 rfl (lv_at hl 1 rfl) ?_
  refine m_callVi (As := []) (rest := []) C0 hl hP hD hS (c_X6_takeSnapshot l D cY (aa 1) (aa 2) (aa 3) (aa 4) (aa 5) (aa 6) (aa 7) (aa 8) sk (aa 13) cnt f (aa 15) sn sf (by first | assumption | omega) (by first | assumption | omega) (by first | assumption | omega)) (cwV 0 hts gL_law_X6_takeSnapshot rfl rfl rfl (by decide +kernel) ⟨Nat.le_of_ble_eq_true rfl, Nat.le_of_ble_eq_true rfl⟩) dL_law_701 [1, 9, 10, 13, 14] rfl rfl 1 rfl rfl rfl rfl (Nat.le_of_ble_eq_true rfl) (by omega) (by omega) (fun _ => rfl) (fun r2 u H1 locs hw hP hD hS => ?_)
  try dsimp only at hw
  obtain rfl := hw
  have hP : va_P D vwCl (law_w cY aa sa bp ov fr tf len sc cur tx f cnt rf rc f cnt z g0 g1 g2 g3 t0 t1 t2 t3 1 pt pg pf pe th ta yr ys yo yf ye kf kc rv cv bv f cnt sf sn z sk len tx) H1 := hP
  have hD : va_D A (law_w cY aa sa bp ov fr tf len sc cur tx f cnt rf rc f cnt z g0 g1 g2 g3 t0 t1 t2 t3 1 pt pg pf pe th ta yr ys yo yf ye kf kc rv cv bv f cnt sf sn z sk len tx) := hD
  refine lv_aload_n hx hb dL_law_704 rfl (lv_at hl 2 rfl) ?_
  refine m_callVi (As := []) (rest := [.int (nI (m_xr f 8))]) C0 hl hP hD hS (c_X7_takeSnapshot l D cY (aa 25) (aa 26) (aa 27) (aa 28) (aa 29) (aa 30) (aa 31) (aa 32) z sk th len ta yr ys yo yf ye f cnt sf sn ) (cwV 0 hts gL_law_X7_takeSnapshot rfl rfl rfl (by decide +kernel) ⟨Nat.le_of_ble_eq_true rfl, Nat.le_of_ble_eq_true rfl⟩) dL_law_705 [25, 26, 28] rfl rfl 25 rfl rfl rfl rfl (Nat.le_of_ble_eq_true rfl) (by omega) (by omega) (fun _ => rfl) (fun r4 u H3 locs hw hP hD hS => ?_)
  try dsimp only at hw
  obtain rfl := hw
  have hP : va_P D vwCl (law_w cY aa sa bp ov fr tf len sc cur tx f cnt rf rc f cnt z g0 g1 g2 g3 t0 t1 t2 t3 1 pt pg pf pe 0 ta yr ys yo yf ye kf kc rv cv bv f cnt f cnt z 1 len tx) H3 := hP
  have hD : va_D A (law_w cY aa sa bp ov fr tf len sc cur tx f cnt rf rc f cnt z g0 g1 g2 g3 t0 t1 t2 t3 1 pt pg pf pe 0 ta yr ys yo yf ye kf kc rv cv bv f cnt f cnt z 1 len tx) := hD
  refine lv_icmp_eq (tgt := 1541) hx hb dL_law_708 (by decide) (fun c708 => ?_) (fun c708 => ?_)
  rotate_left
  · exact absurd rfl c708
  refine W.widen (k := cells + 1) (n := slots + 6) (by omega) (by omega) ?_
  exact kk ov fr tf len sc cur tx f cnt rf rc f cnt z g0 g1 g2 g3 t0 t1 t2 t3 1 pt pg pf pe 0 ta yr ys yo yf ye kf kc rv cv bv _ _ ls (⟨⟨hf8, hf16⟩, hrf8, ⟨hf8, hf16⟩, hI.2.2.2.1, hz4, ⟨hfr, htf⟩, ⟨hlen, htx⟩, Or.inr rfl, hh, hrec, hH⟩) hP hD hS (lv_sub hl [0, 1, 2, 3, 4] rfl)
set_option maxHeartbeats 4000000 in
set_option maxRecDepth 100000 in
theorem v_restoreSnapshot_x1 {p : Program} {l : Launch} {e : Env} {s : State} {m : MethodId} {below : List Frame} {meth : Method} {c : Code} {b L : Nat} {xs : Nat → Int32} {D : va_G} {cY : Nat → ClassId} {A : Nat → Prop} {eS : Nat → Nat} {eO : Nat} {Q : State → Prop} {aa sa bp : Nat → Nat} (F : law_F p l e s m meth c b L xs D cY A eS eO bp) {ov : Nat → Int64} {fr : Nat} {tf : Nat → Nat} {len : Nat} {sc : Nat} {cur : Nat} {tx : Nat → Nat} {f : Nat → Nat} {cnt : Nat} {rf : Nat → Nat} {rc : Nat} {sf : Nat → Nat} {sn : Nat} {z : Nat} {g0 : Nat → Nat} {g1 : Nat → Nat} {g2 : Nat → Nat} {g3 : Nat → Nat} {t0 : Nat} {t1 : Nat} {t2 : Nat} {t3 : Nat} {sk : Nat} {pt : Nat → Int32} {pg : Nat → Int32} {pf : Nat → Int32} {pe : Nat → Int32} {th : Nat} {ta : Nat} {yr : Int32} {ys : Int32} {yo : Int32} {yf : Int32} {ye : Int32} {kf : Nat → Nat} {kc : Nat} {rv : Nat → Nat} {cv : Nat → Nat} {bv : Nat → Nat} {i : Nat} (hi : i + 2 < L) {H : Heap} {locs : List Loc} {ls : Array Slot} {cells slots : Nat} (hcl : cells + 1 ≤ room_1.cells) (hsl : slots + 6 ≤ room_1.slots)  (hz : sk = 0)
    (hI : law_I fr tf len tx f rf sf z g0 g1 g2 g3 t0 t1 t2 t3 sk rv) (hP : va_P D vwCl (law_w cY aa sa bp ov fr tf len sc cur tx f cnt rf rc sf sn z g0 g1 g2 g3 t0 t1 t2 t3 sk pt pg pf pe th ta yr ys yo yf ye kf kc rv cv bv f cnt sf sn z sk len tx) H) (hD : va_D A (law_w cY aa sa bp ov fr tf len sc cur tx f cnt rf rc sf sn z g0 g1 g2 g3 t0 t1 t2 t3 sk pt pg pf pe th ta yr ys yo yf ye kf kc rv cv bv f cnt sf sn z sk len tx)) (hS : va_S A s.heap H locs) (hl : lv_has ls 7 [(0, .ref b), (1, .ref (aa 1)), (2, .ref (aa 25)), (3, .ref (aa 0)), (4, .int (nI i))]) (kk : law_K p l e s m below meth c b D cY A Q aa sa bp i (cells + 1) (slots + 6)) :
    W p l e room_1 s m #[.ref b] below meth c H locs cells slots Q (F0 m 713 ls []) := by
  obtain ⟨C0, hE, hX, hbl, hbA, hL, hB, hfl⟩ := id F
  obtain ⟨hx, hb, hr, hml, hts, hown, hlocks, hK, hA⟩ := id C0
  obtain ⟨⟨hf8, hf16⟩, hrf8, ⟨hsf8, hsf16⟩, ⟨⟨hg0, hg0b⟩, ⟨hg1, hg1b⟩, ⟨hg2, hg2b⟩, ⟨hg3, hg3b⟩⟩, hz4, ⟨hfr, htf⟩, ⟨hlen, htx⟩, hsk, hh, hrec, hH⟩ := id hI
  refine lv_aload_n hx hb dL_law_713 rfl (lv_at hl 1 rfl) ?_
  refine lv_aload_n hx hb dL_law_714 rfl (lv_at hl 3 rfl) ?_
  refine m_callTe (As := [.ref (aa 1), .ref (aa 0)]) (rest := []) C0 hE hl hP hD hS (c_L_restoreSnapshot_x1 l hfl D cY eS eO (aa 1) (aa 2) (aa 3) (aa 4) (aa 5) (aa 6) (aa 7) (aa 8) sk (aa 0) ov (by first | assumption | omega)) (vx_cwSW 2 hts gL_law_L_restoreSnapshot rfl rfl rfl (by decide +kernel) ⟨Nat.le_of_ble_eq_true rfl, Nat.le_of_ble_eq_true rfl⟩) dL_law_715 [0, 1] rfl rfl rfl (Nat.le_of_ble_eq_true rfl) (by omega) (by omega) (fun _ => rfl) (fun r2 u H1 locs hw hP hD hS => ?_)
  try dsimp only at hw
  obtain rfl := hw
  have hP : va_P D vwCl (law_w cY aa sa bp ov fr tf len sc cur tx f cnt rf rc sf sn z g0 g1 g2 g3 t0 t1 t2 t3 sk pt pg pf pe th ta yr ys yo yf ye kf kc rv cv bv f cnt sf sn z sk len tx) H1 := hP
  have hD : va_D A (law_w cY aa sa bp ov fr tf len sc cur tx f cnt rf rc sf sn z g0 g1 g2 g3 t0 t1 t2 t3 sk pt pg pf pe th ta yr ys yo yf ye kf kc rv cv bv f cnt sf sn z sk len tx) := hD
  refine lv_istore (lv' := [(5, .int (nI 1)), (0, .ref b), (1, .ref (aa 1)), (2, .ref (aa 25)), (3, .ref (aa 0)), (4, .int (nI i))]) hx hb dL_law_718 hl (by decide) rfl (fun ls hl => ?_)
  refine lv_aload_n hx hb dL_law_720 rfl (lv_at hl 3 rfl) ?_
  refine m_callVi (As := []) (rest := []) C0 hl hP hD hS (c_X7_restoreSnapshot_f1 l D cY (aa 25) (aa 26) (aa 27) (aa 28) (aa 29) (aa 30) (aa 31) (aa 32) z sk th len ta yr ys yo yf ye (by first | assumption | omega)) (cwV 0 hts gL_law_X7_restoreSnapshot rfl rfl rfl (by decide +kernel) ⟨Nat.le_of_ble_eq_true rfl, Nat.le_of_ble_eq_true rfl⟩) dL_law_721 [25] rfl rfl 25 rfl rfl rfl rfl (Nat.le_of_ble_eq_true rfl) (by omega) (by omega) (fun _ => rfl) (fun r4 u H3 locs hw hP hD hS => ?_)
  try dsimp only at hw
  obtain rfl := hw
  have hP : va_P D vwCl (law_w cY aa sa bp ov fr tf len sc cur tx f cnt rf rc sf sn z g0 g1 g2 g3 t0 t1 t2 t3 sk pt pg pf pe 1 ta yr ys yo yf ye kf kc rv cv bv f cnt sf sn z sk len tx) H3 := hP
  have hD : va_D A (law_w cY aa sa bp ov fr tf len sc cur tx f cnt rf rc sf sn z g0 g1 g2 g3 t0 t1 t2 t3 sk pt pg pf pe 1 ta yr ys yo yf ye kf kc rv cv bv f cnt sf sn z sk len tx) := hD
  refine lv_istore (lv' := [(6, .int (nI 0)), (5, .int (nI 1)), (0, .ref b), (1, .ref (aa 1)), (2, .ref (aa 25)), (3, .ref (aa 0)), (4, .int (nI i))]) hx hb dL_law_724 hl (by decide) rfl (fun ls hl => ?_)
  refine lv_aload_n hx hb dL_law_726 rfl (lv_at hl 4 rfl) ?_
  refine m_callVi (As := []) (rest := []) C0 hl hP hD hS (c_X7_thrown l D cY (aa 25) (aa 26) (aa 27) (aa 28) (aa 29) (aa 30) (aa 31) (aa 32) z sk 1 len ta yr ys yo yf ye ) (cwV 0 hts gL_law_X7_thrown rfl rfl rfl (by decide +kernel) ⟨Nat.le_of_ble_eq_true rfl, Nat.le_of_ble_eq_true rfl⟩) dL_law_727 [25] rfl rfl 25 rfl rfl rfl rfl (Nat.le_of_ble_eq_true rfl) (by omega) (by omega) (fun _ => rfl) (fun r6 u H5 locs hw hP hD hS => ?_)
  try dsimp only at hw
  obtain rfl := hw
  have hP : va_P D vwCl (law_w cY aa sa bp ov fr tf len sc cur tx f cnt rf rc sf sn z g0 g1 g2 g3 t0 t1 t2 t3 sk pt pg pf pe 1 ta yr ys yo yf ye kf kc rv cv bv f cnt sf sn z sk len tx) H5 := hP
  have hD : va_D A (law_w cY aa sa bp ov fr tf len sc cur tx f cnt rf rc sf sn z g0 g1 g2 g3 t0 t1 t2 t3 sk pt pg pf pe 1 ta yr ys yo yf ye kf kc rv cv bv f cnt sf sn z sk len tx) := hD
  refine lv_iload hx hb dL_law_730 (lv_at hl 1 rfl) ?_
  refine lv_icmp_eq (tgt := 737) hx hb dL_law_732 (by decide) (fun c732 => ?_) (fun c732 => ?_)
  rotate_left
  · exact absurd rfl c732
  refine lv_iload hx hb dL_law_737 (lv_at hl 1 rfl) ?_
  refine lv_if_ne (tgt := 754) hx hb dL_law_739 (by decide) (fun c739 => ?_) (fun c739 => ?_)
  rotate_left
  · exact absurd c739 (by decide)
  refine lv_goto (tgt := 1541) hx hb dL_law_754 (by decide) ?_
  refine W.widen (k := cells + 1) (n := slots + 6) (by omega) (by omega) ?_
  exact kk ov fr tf len sc cur tx f cnt rf rc sf sn z g0 g1 g2 g3 t0 t1 t2 t3 sk pt pg pf pe 1 ta yr ys yo yf ye kf kc rv cv bv _ _ ls (hI) hP hD hS (lv_sub hl [2, 3, 4, 5, 6] rfl)
set_option maxHeartbeats 4000000 in
set_option maxRecDepth 100000 in
theorem v_restoreSnapshot_ok {p : Program} {l : Launch} {e : Env} {s : State} {m : MethodId} {below : List Frame} {meth : Method} {c : Code} {b L : Nat} {xs : Nat → Int32} {D : va_G} {cY : Nat → ClassId} {A : Nat → Prop} {eS : Nat → Nat} {eO : Nat} {Q : State → Prop} {aa sa bp : Nat → Nat} (F : law_F p l e s m meth c b L xs D cY A eS eO bp) {ov : Nat → Int64} {fr : Nat} {tf : Nat → Nat} {len : Nat} {sc : Nat} {cur : Nat} {tx : Nat → Nat} {f : Nat → Nat} {cnt : Nat} {rf : Nat → Nat} {rc : Nat} {sf : Nat → Nat} {sn : Nat} {z : Nat} {g0 : Nat → Nat} {g1 : Nat → Nat} {g2 : Nat → Nat} {g3 : Nat → Nat} {t0 : Nat} {t1 : Nat} {t2 : Nat} {t3 : Nat} {sk : Nat} {pt : Nat → Int32} {pg : Nat → Int32} {pf : Nat → Int32} {pe : Nat → Int32} {th : Nat} {ta : Nat} {yr : Int32} {ys : Int32} {yo : Int32} {yf : Int32} {ye : Int32} {kf : Nat → Nat} {kc : Nat} {rv : Nat → Nat} {cv : Nat → Nat} {bv : Nat → Nat} {i : Nat} (hi : i + 2 < L) {H : Heap} {locs : List Loc} {ls : Array Slot} {cells slots : Nat} (hcl : cells + 1 ≤ room_1.cells) (hsl : slots + 6 ≤ room_1.slots)  (hz : sk = 1)
    (hI : law_I fr tf len tx f rf sf z g0 g1 g2 g3 t0 t1 t2 t3 sk rv) (hP : va_P D vwCl (law_w cY aa sa bp ov fr tf len sc cur tx f cnt rf rc sf sn z g0 g1 g2 g3 t0 t1 t2 t3 sk pt pg pf pe th ta yr ys yo yf ye kf kc rv cv bv f cnt sf sn z sk len tx) H) (hD : va_D A (law_w cY aa sa bp ov fr tf len sc cur tx f cnt rf rc sf sn z g0 g1 g2 g3 t0 t1 t2 t3 sk pt pg pf pe th ta yr ys yo yf ye kf kc rv cv bv f cnt sf sn z sk len tx)) (hS : va_S A s.heap H locs) (hl : lv_has ls 7 [(0, .ref b), (1, .ref (aa 1)), (2, .ref (aa 25)), (3, .ref (aa 0)), (4, .int (nI i))]) (kk : law_K p l e s m below meth c b D cY A Q aa sa bp i (cells + 1) (slots + 6)) :
    W p l e room_1 s m #[.ref b] below meth c H locs cells slots Q (F0 m 713 ls []) := by
  obtain ⟨C0, hE, hX, hbl, hbA, hL, hB, hfl⟩ := id F
  obtain ⟨hx, hb, hr, hml, hts, hown, hlocks, hK, hA⟩ := id C0
  obtain ⟨⟨hf8, hf16⟩, hrf8, ⟨hsf8, hsf16⟩, ⟨⟨hg0, hg0b⟩, ⟨hg1, hg1b⟩, ⟨hg2, hg2b⟩, ⟨hg3, hg3b⟩⟩, hz4, ⟨hfr, htf⟩, ⟨hlen, htx⟩, hsk, hh, hrec, hH⟩ := id hI
  refine lv_aload_n hx hb dL_law_713 rfl (lv_at hl 1 rfl) ?_
  refine lv_aload_n hx hb dL_law_714 rfl (lv_at hl 3 rfl) ?_
  refine m_callTi (As := [.ref (aa 1), .ref (aa 0)]) (rest := []) C0 hl hP hD hS (c_L_restoreSnapshot_ok l D cY (aa 1) (aa 2) (aa 3) (aa 4) (aa 5) (aa 6) (aa 7) (aa 8) sk (aa 13) cnt f (aa 15) sn sf (aa 16) z (aa 17) (aa 18) (aa 19) (aa 20) (aa 21) (aa 22) (aa 23) (aa 24) t0 t1 t2 t3 g0 g1 g2 g3 (aa 0) ov (by first | assumption | omega) (by first | assumption | omega) (by first | assumption | omega) (by first | assumption | omega) (by first | assumption | omega) (by first | assumption | omega) (by first | assumption | omega) (by first | assumption | omega) (by first | assumption | omega)) (vx_cwSW 2 hts gL_law_L_restoreSnapshot rfl rfl rfl (by decide +kernel) ⟨Nat.le_of_ble_eq_true rfl, Nat.le_of_ble_eq_true rfl⟩) dL_law_715 [0, 1, 9, 10, 13, 14, 15, 16, 17, 18, 19, 20, 21, 22, 23, 24] rfl rfl rfl (Nat.le_of_ble_eq_true rfl) (by omega) (by omega) (fun _ => rfl) (fun r2 u H1 locs hw hP hD hS => ?_)
  try dsimp only at hw
  obtain rfl := hw
  have hP : va_P D vwCl (law_w cY aa sa bp (vp_updL ov 0 (Int32.toInt64 (nI (m_xr sf 8)))) fr tf len sc cur tx sf sn rf rc sf sn (min (z + 1) 4) f g0 g1 g2 cnt t0 t1 t2 sk pt pg pf pe th ta yr ys yo yf ye kf kc rv cv bv f cnt sf sn z sk len tx) H1 := hP
  have hD : va_D A (law_w cY aa sa bp (vp_updL ov 0 (Int32.toInt64 (nI (m_xr sf 8)))) fr tf len sc cur tx sf sn rf rc sf sn (min (z + 1) 4) f g0 g1 g2 cnt t0 t1 t2 sk pt pg pf pe th ta yr ys yo yf ye kf kc rv cv bv f cnt sf sn z sk len tx) := hD
  refine lv_istore (lv' := [(5, .int (nI 0)), (0, .ref b), (1, .ref (aa 1)), (2, .ref (aa 25)), (3, .ref (aa 0)), (4, .int (nI i))]) hx hb dL_law_718 hl (by decide) rfl (fun ls hl => ?_)
  refine lv_aload_n hx hb dL_law_720 rfl (lv_at hl 3 rfl) ?_
  refine m_callVi (As := []) (rest := []) C0 hl hP hD hS (c_X7_restoreSnapshot_ok l D cY (aa 25) (aa 26) (aa 27) (aa 28) (aa 29) (aa 30) (aa 31) (aa 32) z sk th len ta yr ys yo yf ye f cnt rv hh sf sn (by first | assumption | omega) (by first | assumption | omega) (by first | assumption | omega)) (cwV 0 hts gL_law_X7_restoreSnapshot rfl rfl rfl (by decide +kernel) ⟨Nat.le_of_ble_eq_true rfl, Nat.le_of_ble_eq_true rfl⟩) dL_law_721 [25, 26, 29, 28] rfl rfl 25 rfl rfl rfl rfl (Nat.le_of_ble_eq_true rfl) (by omega) (by omega) (fun _ => rfl) (fun r4 u H3 locs hw hP hD hS => ?_)
  obtain ⟨rv9_5, rfl⟩ : ∃ z, z = u := ⟨_, rfl⟩
  try dsimp only at hw
  obtain ⟨rfl, hq6⟩ := hw
  have hP : va_P D vwCl (law_w cY aa sa bp (vp_updL ov 0 (Int32.toInt64 (nI (m_xr sf 8)))) fr tf len sc cur tx sf sn rf rc sf sn (min (z + 1) 4) f g0 g1 g2 cnt t0 t1 t2 sk pt pg pf pe 0 ta yr ys yo yf ye kf kc rv9_5 cv bv sf sn sf sn (min (z + 1) 4) sk len tx) H3 := hP
  have hD : va_D A (law_w cY aa sa bp (vp_updL ov 0 (Int32.toInt64 (nI (m_xr sf 8)))) fr tf len sc cur tx sf sn rf rc sf sn (min (z + 1) 4) f g0 g1 g2 cnt t0 t1 t2 sk pt pg pf pe 0 ta yr ys yo yf ye kf kc rv9_5 cv bv sf sn sf sn (min (z + 1) 4) sk len tx) := hD
  refine lv_istore (lv' := [(6, .int (nI (m_xr sf 8))), (5, .int (nI 0)), (0, .ref b), (1, .ref (aa 1)), (2, .ref (aa 25)), (3, .ref (aa 0)), (4, .int (nI i))]) hx hb dL_law_724 hl (by decide) rfl (fun ls hl => ?_)
  refine lv_aload_n hx hb dL_law_726 rfl (lv_at hl 4 rfl) ?_
  refine m_callVi (As := []) (rest := []) C0 hl hP hD hS (c_X7_thrown l D cY (aa 25) (aa 26) (aa 27) (aa 28) (aa 29) (aa 30) (aa 31) (aa 32) (min (z + 1) 4) sk 0 len ta yr ys yo yf ye ) (cwV 0 hts gL_law_X7_thrown rfl rfl rfl (by decide +kernel) ⟨Nat.le_of_ble_eq_true rfl, Nat.le_of_ble_eq_true rfl⟩) dL_law_727 [25] rfl rfl 25 rfl rfl rfl rfl (Nat.le_of_ble_eq_true rfl) (by omega) (by omega) (fun _ => rfl) (fun r8 u H7 locs hw hP hD hS => ?_)
  try dsimp only at hw
  obtain rfl := hw
  have hP : va_P D vwCl (law_w cY aa sa bp (vp_updL ov 0 (Int32.toInt64 (nI (m_xr sf 8)))) fr tf len sc cur tx sf sn rf rc sf sn (min (z + 1) 4) f g0 g1 g2 cnt t0 t1 t2 sk pt pg pf pe 0 ta yr ys yo yf ye kf kc rv9_5 cv bv sf sn sf sn (min (z + 1) 4) sk len tx) H7 := hP
  have hD : va_D A (law_w cY aa sa bp (vp_updL ov 0 (Int32.toInt64 (nI (m_xr sf 8)))) fr tf len sc cur tx sf sn rf rc sf sn (min (z + 1) 4) f g0 g1 g2 cnt t0 t1 t2 sk pt pg pf pe 0 ta yr ys yo yf ye kf kc rv9_5 cv bv sf sn sf sn (min (z + 1) 4) sk len tx) := hD
  refine lv_iload hx hb dL_law_730 (lv_at hl 1 rfl) ?_
  refine lv_icmp_eq (tgt := 737) hx hb dL_law_732 (by decide) (fun c732 => ?_) (fun c732 => ?_)
  rotate_left
  · exact absurd rfl c732
  refine lv_iload hx hb dL_law_737 (lv_at hl 1 rfl) ?_
  refine lv_if_ne (tgt := 754) hx hb dL_law_739 (by decide) (fun c739 => ?_) (fun c739 => ?_)
  · exact absurd rfl c739
  refine lv_aload_n hx hb dL_law_742 rfl (lv_at hl 5 rfl) ?_
  refine lv_iconst (v := nI 0) hx hb dL_law_743 (by decide) ?_
  refine va_lald hx hb hK hP 0 2 rfl rfl (m_in (n := 0) (by decide) (by decide)) dL_law_744 ?_
  refine lv_topl (nm_r (show _ = Int32.toInt64 (nI (m_xr sf 8)) from by rw [nI_clamp (by decide)]; exact if_pos rfl) ?_)
  refine lv_iload hx hb dL_law_745 (lv_at hl 0 rfl) ?_
  refine lv_i2l (v := Int32.toInt64 (nI (m_xr sf 8))) hx hb dL_law_747 rfl ?_
  refine W.lcmp hx hb dL_law_748 ?_
  refine lv_topi (nm_r (m_cmp_self _) ?_)
  refine lv_if_eq (tgt := 754) hx hb dL_law_749 (by decide) (fun c749 => ?_) (fun c749 => ?_)
  rotate_left
  · exact absurd rfl c749
  refine lv_goto (tgt := 1541) hx hb dL_law_754 (by decide) ?_
  refine W.widen (k := cells + 1) (n := slots + 6) (by omega) (by omega) ?_
  exact kk (vp_updL ov 0 (Int32.toInt64 (nI (m_xr sf 8)))) fr tf len sc cur tx sf sn rf rc sf sn (min (z + 1) 4) f g0 g1 g2 cnt t0 t1 t2 sk pt pg pf pe 0 ta yr ys yo yf ye kf kc rv9_5 cv bv _ _ ls (law_I_rec hI hH (⟨hsf8, hsf16⟩) (hrf8) hq6) hP hD hS (lv_sub hl [2, 3, 4, 5, 6] rfl)
set_option maxHeartbeats 4000000 in
set_option maxRecDepth 100000 in
theorem v_nimberOf_x1 {p : Program} {l : Launch} {e : Env} {s : State} {m : MethodId} {below : List Frame} {meth : Method} {c : Code} {b L : Nat} {xs : Nat → Int32} {D : va_G} {cY : Nat → ClassId} {A : Nat → Prop} {eS : Nat → Nat} {eO : Nat} {Q : State → Prop} {aa sa bp : Nat → Nat} (F : law_F p l e s m meth c b L xs D cY A eS eO bp) {ov : Nat → Int64} {fr : Nat} {tf : Nat → Nat} {len : Nat} {sc : Nat} {cur : Nat} {tx : Nat → Nat} {f : Nat → Nat} {cnt : Nat} {rf : Nat → Nat} {rc : Nat} {sf : Nat → Nat} {sn : Nat} {z : Nat} {g0 : Nat → Nat} {g1 : Nat → Nat} {g2 : Nat → Nat} {g3 : Nat → Nat} {t0 : Nat} {t1 : Nat} {t2 : Nat} {t3 : Nat} {sk : Nat} {pt : Nat → Int32} {pg : Nat → Int32} {pf : Nat → Int32} {pe : Nat → Int32} {th : Nat} {ta : Nat} {yr : Int32} {ys : Int32} {yo : Int32} {yf : Int32} {ye : Int32} {kf : Nat → Nat} {kc : Nat} {rv : Nat → Nat} {cv : Nat → Nat} {bv : Nat → Nat} {i : Nat} (hi : i + 2 < L) {H : Heap} {locs : List Loc} {ls : Array Slot} {cells slots : Nat} (hcl : cells + 1 ≤ room_1.cells) (hsl : slots + 6 ≤ room_1.slots) (x : Int32) (hn : ¬ m_isR x) (hv1 : xs (i + 1) = x)
    (hI : law_I fr tf len tx f rf sf z g0 g1 g2 g3 t0 t1 t2 t3 sk rv) (hP : va_P D vwCl (law_w cY aa sa bp ov fr tf len sc cur tx f cnt rf rc sf sn z g0 g1 g2 g3 t0 t1 t2 t3 sk pt pg pf pe th ta yr ys yo yf ye kf kc rv cv bv f cnt sf sn z sk len tx) H) (hD : va_D A (law_w cY aa sa bp ov fr tf len sc cur tx f cnt rf rc sf sn z g0 g1 g2 g3 t0 t1 t2 t3 sk pt pg pf pe th ta yr ys yo yf ye kf kc rv cv bv f cnt sf sn z sk len tx)) (hS : va_S A s.heap H locs) (hl : lv_has ls 7 [(0, .ref b), (1, .ref (aa 1)), (2, .ref (aa 25)), (3, .ref (aa 0)), (4, .int (nI i))]) (kk : law_K p l e s m below meth c b D cY A Q aa sa bp i (cells + 1) (slots + 6)) :
    W p l e room_1 s m #[.ref b] below meth c H locs cells slots Q (F0 m 757 ls []) := by
  obtain ⟨C0, hE, hX, hbl, hbA, hL, hB, hfl⟩ := id F
  obtain ⟨hx, hb, hr, hml, hts, hown, hlocks, hK, hA⟩ := id C0
  obtain ⟨⟨hf8, hf16⟩, hrf8, ⟨hsf8, hsf16⟩, ⟨⟨hg0, hg0b⟩, ⟨hg1, hg1b⟩, ⟨hg2, hg2b⟩, ⟨hg3, hg3b⟩⟩, hz4, ⟨hfr, htf⟩, ⟨hlen, htx⟩, hsk, hh, hrec, hH⟩ := id hI
  refine lv_aload_n hx hb dL_law_757 rfl (lv_at hl 1 rfl) ?_
  refine lv_aload_n hx hb dL_law_758 rfl (lv_at hl 0 rfl) ?_
  refine lv_iload hx hb dL_law_759 (lv_at hl 4 rfl) ?_
  refine lv_iconst (v := nI 1) hx hb dL_law_761 (by decide) ?_
  refine lv_iadd hx hb dL_law_762 ?_
  refine lv_topi (nm_r (nI_add _ _) ?_)
  refine va_sld hx hb hX hbl hbA hS (i := nI (i + 1)) (m_in (n := i + 1) (by omega) (by omega)) dL_law_763 ?_
  refine lv_topi (nm_r (show _ = x from by rw [nI_clamp (by omega)]; exact hv1) ?_)
  refine lv_aload_n hx hb dL_law_764 rfl (lv_at hl 3 rfl) ?_
  refine m_callTe (As := [.ref (aa 1), .int x, .ref (aa 0)]) (rest := []) C0 hE hl hP hD hS (c_L_nimberOf_x1 l hfl D cY eS eO (aa 1) (aa 2) (aa 3) (aa 4) (aa 5) (aa 6) (aa 7) (aa 8) sk x (aa 0) ov (by first | assumption | omega)) (vx_cwSW 3 hts gL_law_L_nimberOf rfl rfl rfl (by decide +kernel) ⟨Nat.le_of_ble_eq_true rfl, Nat.le_of_ble_eq_true rfl⟩) dL_law_765 [0, 1] rfl rfl rfl (Nat.le_of_ble_eq_true rfl) (by omega) (by omega) (fun _ => rfl) (fun r2 u H1 locs hw hP hD hS => ?_)
  try dsimp only at hw
  obtain rfl := hw
  have hP : va_P D vwCl (law_w cY aa sa bp ov fr tf len sc cur tx f cnt rf rc sf sn z g0 g1 g2 g3 t0 t1 t2 t3 sk pt pg pf pe th ta yr ys yo yf ye kf kc rv cv bv f cnt sf sn z sk len tx) H1 := hP
  have hD : va_D A (law_w cY aa sa bp ov fr tf len sc cur tx f cnt rf rc sf sn z g0 g1 g2 g3 t0 t1 t2 t3 sk pt pg pf pe th ta yr ys yo yf ye kf kc rv cv bv f cnt sf sn z sk len tx) := hD
  refine lv_istore (lv' := [(5, .int (nI 1)), (0, .ref b), (1, .ref (aa 1)), (2, .ref (aa 25)), (3, .ref (aa 0)), (4, .int (nI i))]) hx hb dL_law_768 hl (by decide) rfl (fun ls hl => ?_)
  refine lv_aload_n hx hb dL_law_770 rfl (lv_at hl 3 rfl) ?_
  refine lv_aload_n hx hb dL_law_771 rfl (lv_at hl 1 rfl) ?_
  refine lv_iload hx hb dL_law_772 (lv_at hl 5 rfl) ?_
  refine lv_iconst (v := nI 1) hx hb dL_law_774 (by decide) ?_
  refine lv_iadd hx hb dL_law_775 ?_
  refine lv_topi (nm_r (nI_add _ _) ?_)
  refine va_sld hx hb hX hbl hbA hS (i := nI (i + 1)) (m_in (n := i + 1) (by omega) (by omega)) dL_law_776 ?_
  refine lv_topi (nm_r (show _ = x from by rw [nI_clamp (by omega)]; exact hv1) ?_)
  refine m_callVi (As := [.int x]) (rest := []) C0 hl hP hD hS (c_X7_nimberOf_f1 l D cY (aa 25) (aa 26) (aa 27) (aa 28) (aa 29) (aa 30) (aa 31) (aa 32) z sk th len ta yr ys yo yf ye x (by first | assumption | omega)) (cwV 1 hts gL_law_X7_nimberOf rfl rfl rfl (by decide +kernel) ⟨Nat.le_of_ble_eq_true rfl, Nat.le_of_ble_eq_true rfl⟩) dL_law_777 [25] rfl rfl 25 rfl rfl rfl rfl (Nat.le_of_ble_eq_true rfl) (by omega) (by omega) (fun _ => rfl) (fun r4 u H3 locs hw hP hD hS => ?_)
  try dsimp only at hw
  obtain rfl := hw
  have hP : va_P D vwCl (law_w cY aa sa bp ov fr tf len sc cur tx f cnt rf rc sf sn z g0 g1 g2 g3 t0 t1 t2 t3 sk pt pg pf pe 1 ta yr ys yo yf ye kf kc rv cv bv f cnt sf sn z sk len tx) H3 := hP
  have hD : va_D A (law_w cY aa sa bp ov fr tf len sc cur tx f cnt rf rc sf sn z g0 g1 g2 g3 t0 t1 t2 t3 sk pt pg pf pe 1 ta yr ys yo yf ye kf kc rv cv bv f cnt sf sn z sk len tx) := hD
  refine lv_istore (lv' := [(6, .int (nI 0)), (5, .int (nI 1)), (0, .ref b), (1, .ref (aa 1)), (2, .ref (aa 25)), (3, .ref (aa 0)), (4, .int (nI i))]) hx hb dL_law_780 hl (by decide) rfl (fun ls hl => ?_)
  refine lv_aload_n hx hb dL_law_782 rfl (lv_at hl 4 rfl) ?_
  refine m_callVi (As := []) (rest := []) C0 hl hP hD hS (c_X7_thrown l D cY (aa 25) (aa 26) (aa 27) (aa 28) (aa 29) (aa 30) (aa 31) (aa 32) z sk 1 len ta yr ys yo yf ye ) (cwV 0 hts gL_law_X7_thrown rfl rfl rfl (by decide +kernel) ⟨Nat.le_of_ble_eq_true rfl, Nat.le_of_ble_eq_true rfl⟩) dL_law_783 [25] rfl rfl 25 rfl rfl rfl rfl (Nat.le_of_ble_eq_true rfl) (by omega) (by omega) (fun _ => rfl) (fun r6 u H5 locs hw hP hD hS => ?_)
  try dsimp only at hw
  obtain rfl := hw
  have hP : va_P D vwCl (law_w cY aa sa bp ov fr tf len sc cur tx f cnt rf rc sf sn z g0 g1 g2 g3 t0 t1 t2 t3 sk pt pg pf pe 1 ta yr ys yo yf ye kf kc rv cv bv f cnt sf sn z sk len tx) H5 := hP
  have hD : va_D A (law_w cY aa sa bp ov fr tf len sc cur tx f cnt rf rc sf sn z g0 g1 g2 g3 t0 t1 t2 t3 sk pt pg pf pe 1 ta yr ys yo yf ye kf kc rv cv bv f cnt sf sn z sk len tx) := hD
  refine lv_iload hx hb dL_law_786 (lv_at hl 1 rfl) ?_
  refine lv_icmp_eq (tgt := 793) hx hb dL_law_788 (by decide) (fun c788 => ?_) (fun c788 => ?_)
  rotate_left
  · exact absurd rfl c788
  refine lv_iload hx hb dL_law_793 (lv_at hl 1 rfl) ?_
  refine lv_if_ne (tgt := 810) hx hb dL_law_795 (by decide) (fun c795 => ?_) (fun c795 => ?_)
  rotate_left
  · exact absurd c795 (by decide)
  refine lv_goto (tgt := 1541) hx hb dL_law_810 (by decide) ?_
  refine W.widen (k := cells + 1) (n := slots + 6) (by omega) (by omega) ?_
  exact kk ov fr tf len sc cur tx f cnt rf rc sf sn z g0 g1 g2 g3 t0 t1 t2 t3 sk pt pg pf pe 1 ta yr ys yo yf ye kf kc rv cv bv _ _ ls (hI) hP hD hS (lv_sub hl [2, 3, 4, 5, 6] rfl)
set_option maxHeartbeats 4000000 in
set_option maxRecDepth 100000 in
theorem v_nimberOf_ok {p : Program} {l : Launch} {e : Env} {s : State} {m : MethodId} {below : List Frame} {meth : Method} {c : Code} {b L : Nat} {xs : Nat → Int32} {D : va_G} {cY : Nat → ClassId} {A : Nat → Prop} {eS : Nat → Nat} {eO : Nat} {Q : State → Prop} {aa sa bp : Nat → Nat} (F : law_F p l e s m meth c b L xs D cY A eS eO bp) {ov : Nat → Int64} {fr : Nat} {tf : Nat → Nat} {len : Nat} {sc : Nat} {cur : Nat} {tx : Nat → Nat} {f : Nat → Nat} {cnt : Nat} {rf : Nat → Nat} {rc : Nat} {sf : Nat → Nat} {sn : Nat} {z : Nat} {g0 : Nat → Nat} {g1 : Nat → Nat} {g2 : Nat → Nat} {g3 : Nat → Nat} {t0 : Nat} {t1 : Nat} {t2 : Nat} {t3 : Nat} {sk : Nat} {pt : Nat → Int32} {pg : Nat → Int32} {pf : Nat → Int32} {pe : Nat → Int32} {th : Nat} {ta : Nat} {yr : Int32} {ys : Int32} {yo : Int32} {yf : Int32} {ye : Int32} {kf : Nat → Nat} {kc : Nat} {rv : Nat → Nat} {cv : Nat → Nat} {bv : Nat → Nat} {i : Nat} (hi : i + 2 < L) {H : Heap} {locs : List Loc} {ls : Array Slot} {cells slots : Nat} (hcl : cells + 1 ≤ room_1.cells) (hsl : slots + 6 ≤ room_1.slots) (k : Nat) (hk : k < 8) (hv1 : xs (i + 1) = nI k)
    (hI : law_I fr tf len tx f rf sf z g0 g1 g2 g3 t0 t1 t2 t3 sk rv) (hP : va_P D vwCl (law_w cY aa sa bp ov fr tf len sc cur tx f cnt rf rc sf sn z g0 g1 g2 g3 t0 t1 t2 t3 sk pt pg pf pe th ta yr ys yo yf ye kf kc rv cv bv f cnt sf sn z sk len tx) H) (hD : va_D A (law_w cY aa sa bp ov fr tf len sc cur tx f cnt rf rc sf sn z g0 g1 g2 g3 t0 t1 t2 t3 sk pt pg pf pe th ta yr ys yo yf ye kf kc rv cv bv f cnt sf sn z sk len tx)) (hS : va_S A s.heap H locs) (hl : lv_has ls 7 [(0, .ref b), (1, .ref (aa 1)), (2, .ref (aa 25)), (3, .ref (aa 0)), (4, .int (nI i))]) (kk : law_K p l e s m below meth c b D cY A Q aa sa bp i (cells + 1) (slots + 6)) :
    W p l e room_1 s m #[.ref b] below meth c H locs cells slots Q (F0 m 757 ls []) := by
  obtain ⟨C0, hE, hX, hbl, hbA, hL, hB, hfl⟩ := id F
  obtain ⟨hx, hb, hr, hml, hts, hown, hlocks, hK, hA⟩ := id C0
  obtain ⟨⟨hf8, hf16⟩, hrf8, ⟨hsf8, hsf16⟩, ⟨⟨hg0, hg0b⟩, ⟨hg1, hg1b⟩, ⟨hg2, hg2b⟩, ⟨hg3, hg3b⟩⟩, hz4, ⟨hfr, htf⟩, ⟨hlen, htx⟩, hsk, hh, hrec, hH⟩ := id hI
  refine lv_aload_n hx hb dL_law_757 rfl (lv_at hl 1 rfl) ?_
  refine lv_aload_n hx hb dL_law_758 rfl (lv_at hl 0 rfl) ?_
  refine lv_iload hx hb dL_law_759 (lv_at hl 4 rfl) ?_
  refine lv_iconst (v := nI 1) hx hb dL_law_761 (by decide) ?_
  refine lv_iadd hx hb dL_law_762 ?_
  refine lv_topi (nm_r (nI_add _ _) ?_)
  refine va_sld hx hb hX hbl hbA hS (i := nI (i + 1)) (m_in (n := i + 1) (by omega) (by omega)) dL_law_763 ?_
  refine lv_topi (nm_r (show _ = nI k from by rw [nI_clamp (by omega)]; exact hv1) ?_)
  refine lv_aload_n hx hb dL_law_764 rfl (lv_at hl 3 rfl) ?_
  refine m_callTi (As := [.ref (aa 1), .int (nI k), .ref (aa 0)]) (rest := []) C0 hl hP hD hS (c_L_nimberOf_ok l D cY (aa 1) (aa 2) (aa 3) (aa 4) (aa 5) (aa 6) (aa 7) (aa 8) sk (aa 13) cnt f k (aa 0) ov (by first | assumption | omega) (by first | assumption | omega) (by first | assumption | omega)) (vx_cwSW 3 hts gL_law_L_nimberOf rfl rfl rfl (by decide +kernel) ⟨Nat.le_of_ble_eq_true rfl, Nat.le_of_ble_eq_true rfl⟩) dL_law_765 [0, 1, 9, 10] rfl rfl rfl (Nat.le_of_ble_eq_true rfl) (by omega) (by omega) (fun _ => rfl) (fun r2 u H1 locs hw hP hD hS => ?_)
  try dsimp only at hw
  obtain rfl := hw
  have hP : va_P D vwCl (law_w cY aa sa bp (vp_updL ov 0 (Int32.toInt64 (nI (f k)))) fr tf len sc cur tx f cnt rf rc sf sn z g0 g1 g2 g3 t0 t1 t2 t3 sk pt pg pf pe th ta yr ys yo yf ye kf kc rv cv bv f cnt sf sn z sk len tx) H1 := hP
  have hD : va_D A (law_w cY aa sa bp (vp_updL ov 0 (Int32.toInt64 (nI (f k)))) fr tf len sc cur tx f cnt rf rc sf sn z g0 g1 g2 g3 t0 t1 t2 t3 sk pt pg pf pe th ta yr ys yo yf ye kf kc rv cv bv f cnt sf sn z sk len tx) := hD
  refine lv_istore (lv' := [(5, .int (nI 0)), (0, .ref b), (1, .ref (aa 1)), (2, .ref (aa 25)), (3, .ref (aa 0)), (4, .int (nI i))]) hx hb dL_law_768 hl (by decide) rfl (fun ls hl => ?_)
  refine lv_aload_n hx hb dL_law_770 rfl (lv_at hl 3 rfl) ?_
  refine lv_aload_n hx hb dL_law_771 rfl (lv_at hl 1 rfl) ?_
  refine lv_iload hx hb dL_law_772 (lv_at hl 5 rfl) ?_
  refine lv_iconst (v := nI 1) hx hb dL_law_774 (by decide) ?_
  refine lv_iadd hx hb dL_law_775 ?_
  refine lv_topi (nm_r (nI_add _ _) ?_)
  refine va_sld hx hb hX hbl hbA hS (i := nI (i + 1)) (m_in (n := i + 1) (by omega) (by omega)) dL_law_776 ?_
  refine lv_topi (nm_r (show _ = nI k from by rw [nI_clamp (by omega)]; exact hv1) ?_)
  refine m_callVi (As := [.int (nI k)]) (rest := []) C0 hl hP hD hS (c_X7_nimberOf_ok l D cY (aa 25) (aa 26) (aa 27) (aa 28) (aa 29) (aa 30) (aa 31) (aa 32) z sk th len ta yr ys yo yf ye f cnt k (by first | assumption | omega)) (cwV 1 hts gL_law_X7_nimberOf rfl rfl rfl (by decide +kernel) ⟨Nat.le_of_ble_eq_true rfl, Nat.le_of_ble_eq_true rfl⟩) dL_law_777 [25, 26] rfl rfl 25 rfl rfl rfl rfl (Nat.le_of_ble_eq_true rfl) (by omega) (by omega) (fun _ => rfl) (fun r4 u H3 locs hw hP hD hS => ?_)
  try dsimp only at hw
  obtain rfl := hw
  have hP : va_P D vwCl (law_w cY aa sa bp (vp_updL ov 0 (Int32.toInt64 (nI (f k)))) fr tf len sc cur tx f cnt rf rc sf sn z g0 g1 g2 g3 t0 t1 t2 t3 sk pt pg pf pe 0 ta yr ys yo yf ye kf kc rv cv bv f cnt sf sn z sk len tx) H3 := hP
  have hD : va_D A (law_w cY aa sa bp (vp_updL ov 0 (Int32.toInt64 (nI (f k)))) fr tf len sc cur tx f cnt rf rc sf sn z g0 g1 g2 g3 t0 t1 t2 t3 sk pt pg pf pe 0 ta yr ys yo yf ye kf kc rv cv bv f cnt sf sn z sk len tx) := hD
  refine lv_istore (lv' := [(6, .int (nI (f k))), (5, .int (nI 0)), (0, .ref b), (1, .ref (aa 1)), (2, .ref (aa 25)), (3, .ref (aa 0)), (4, .int (nI i))]) hx hb dL_law_780 hl (by decide) rfl (fun ls hl => ?_)
  refine lv_aload_n hx hb dL_law_782 rfl (lv_at hl 4 rfl) ?_
  refine m_callVi (As := []) (rest := []) C0 hl hP hD hS (c_X7_thrown l D cY (aa 25) (aa 26) (aa 27) (aa 28) (aa 29) (aa 30) (aa 31) (aa 32) z sk 0 len ta yr ys yo yf ye ) (cwV 0 hts gL_law_X7_thrown rfl rfl rfl (by decide +kernel) ⟨Nat.le_of_ble_eq_true rfl, Nat.le_of_ble_eq_true rfl⟩) dL_law_783 [25] rfl rfl 25 rfl rfl rfl rfl (Nat.le_of_ble_eq_true rfl) (by omega) (by omega) (fun _ => rfl) (fun r6 u H5 locs hw hP hD hS => ?_)
  try dsimp only at hw
  obtain rfl := hw
  have hP : va_P D vwCl (law_w cY aa sa bp (vp_updL ov 0 (Int32.toInt64 (nI (f k)))) fr tf len sc cur tx f cnt rf rc sf sn z g0 g1 g2 g3 t0 t1 t2 t3 sk pt pg pf pe 0 ta yr ys yo yf ye kf kc rv cv bv f cnt sf sn z sk len tx) H5 := hP
  have hD : va_D A (law_w cY aa sa bp (vp_updL ov 0 (Int32.toInt64 (nI (f k)))) fr tf len sc cur tx f cnt rf rc sf sn z g0 g1 g2 g3 t0 t1 t2 t3 sk pt pg pf pe 0 ta yr ys yo yf ye kf kc rv cv bv f cnt sf sn z sk len tx) := hD
  refine lv_iload hx hb dL_law_786 (lv_at hl 1 rfl) ?_
  refine lv_icmp_eq (tgt := 793) hx hb dL_law_788 (by decide) (fun c788 => ?_) (fun c788 => ?_)
  rotate_left
  · exact absurd rfl c788
  refine lv_iload hx hb dL_law_793 (lv_at hl 1 rfl) ?_
  refine lv_if_ne (tgt := 810) hx hb dL_law_795 (by decide) (fun c795 => ?_) (fun c795 => ?_)
  · exact absurd rfl c795
  refine lv_aload_n hx hb dL_law_798 rfl (lv_at hl 5 rfl) ?_
  refine lv_iconst (v := nI 0) hx hb dL_law_799 (by decide) ?_
  refine va_lald hx hb hK hP 0 2 rfl rfl (m_in (n := 0) (by decide) (by decide)) dL_law_800 ?_
  refine lv_topl (nm_r (show _ = Int32.toInt64 (nI (f k)) from by rw [nI_clamp (by decide)]; exact if_pos rfl) ?_)
  refine lv_iload hx hb dL_law_801 (lv_at hl 0 rfl) ?_
  refine lv_i2l (v := Int32.toInt64 (nI (f k))) hx hb dL_law_803 rfl ?_
  refine W.lcmp hx hb dL_law_804 ?_
  refine lv_topi (nm_r (m_cmp_self _) ?_)
  refine lv_if_eq (tgt := 810) hx hb dL_law_805 (by decide) (fun c805 => ?_) (fun c805 => ?_)
  rotate_left
  · exact absurd rfl c805
  refine lv_goto (tgt := 1541) hx hb dL_law_810 (by decide) ?_
  refine W.widen (k := cells + 1) (n := slots + 6) (by omega) (by omega) ?_
  exact kk (vp_updL ov 0 (Int32.toInt64 (nI (f k)))) fr tf len sc cur tx f cnt rf rc sf sn z g0 g1 g2 g3 t0 t1 t2 t3 sk pt pg pf pe 0 ta yr ys yo yf ye kf kc rv cv bv _ _ ls (hI) hP hD hS (lv_sub hl [2, 3, 4, 5, 6] rfl)
set_option maxHeartbeats 4000000 in
set_option maxRecDepth 100000 in
theorem v_sumOfAll_ok {p : Program} {l : Launch} {e : Env} {s : State} {m : MethodId} {below : List Frame} {meth : Method} {c : Code} {b L : Nat} {xs : Nat → Int32} {D : va_G} {cY : Nat → ClassId} {A : Nat → Prop} {eS : Nat → Nat} {eO : Nat} {Q : State → Prop} {aa sa bp : Nat → Nat} (F : law_F p l e s m meth c b L xs D cY A eS eO bp) {ov : Nat → Int64} {fr : Nat} {tf : Nat → Nat} {len : Nat} {sc : Nat} {cur : Nat} {tx : Nat → Nat} {f : Nat → Nat} {cnt : Nat} {rf : Nat → Nat} {rc : Nat} {sf : Nat → Nat} {sn : Nat} {z : Nat} {g0 : Nat → Nat} {g1 : Nat → Nat} {g2 : Nat → Nat} {g3 : Nat → Nat} {t0 : Nat} {t1 : Nat} {t2 : Nat} {t3 : Nat} {sk : Nat} {pt : Nat → Int32} {pg : Nat → Int32} {pf : Nat → Int32} {pe : Nat → Int32} {th : Nat} {ta : Nat} {yr : Int32} {ys : Int32} {yo : Int32} {yf : Int32} {ye : Int32} {kf : Nat → Nat} {kc : Nat} {rv : Nat → Nat} {cv : Nat → Nat} {bv : Nat → Nat} {i : Nat} (hi : i + 2 < L) {H : Heap} {locs : List Loc} {ls : Array Slot} {cells slots : Nat} (hcl : cells + 1 ≤ room_1.cells) (hsl : slots + 6 ≤ room_1.slots)  
    (hI : law_I fr tf len tx f rf sf z g0 g1 g2 g3 t0 t1 t2 t3 sk rv) (hP : va_P D vwCl (law_w cY aa sa bp ov fr tf len sc cur tx f cnt rf rc sf sn z g0 g1 g2 g3 t0 t1 t2 t3 sk pt pg pf pe th ta yr ys yo yf ye kf kc rv cv bv f cnt sf sn z sk len tx) H) (hD : va_D A (law_w cY aa sa bp ov fr tf len sc cur tx f cnt rf rc sf sn z g0 g1 g2 g3 t0 t1 t2 t3 sk pt pg pf pe th ta yr ys yo yf ye kf kc rv cv bv f cnt sf sn z sk len tx)) (hS : va_S A s.heap H locs) (hl : lv_has ls 7 [(0, .ref b), (1, .ref (aa 1)), (2, .ref (aa 25)), (3, .ref (aa 0)), (4, .int (nI i))]) (kk : law_K p l e s m below meth c b D cY A Q aa sa bp i (cells + 1) (slots + 6)) :
    W p l e room_1 s m #[.ref b] below meth c H locs cells slots Q (F0 m 813 ls []) := by
  obtain ⟨C0, hE, hX, hbl, hbA, hL, hB, hfl⟩ := id F
  obtain ⟨hx, hb, hr, hml, hts, hown, hlocks, hK, hA⟩ := id C0
  obtain ⟨⟨hf8, hf16⟩, hrf8, ⟨hsf8, hsf16⟩, ⟨⟨hg0, hg0b⟩, ⟨hg1, hg1b⟩, ⟨hg2, hg2b⟩, ⟨hg3, hg3b⟩⟩, hz4, ⟨hfr, htf⟩, ⟨hlen, htx⟩, hsk, hh, hrec, hH⟩ := id hI
  refine lv_aload_n hx hb dL_law_813 rfl (lv_at hl 1 rfl) ?_
  refine m_callVi (As := []) (rest := []) C0 hl hP hD hS (c_X6_sumOfAll l D cY (aa 1) (aa 2) (aa 3) (aa 4) (aa 5) (aa 6) (aa 7) (aa 8) sk (aa 13) cnt f (by first | assumption | omega) (by first | assumption | omega)) (cwV 0 hts gL_law_X6_sumOfAll rfl rfl rfl (by decide +kernel) ⟨Nat.le_of_ble_eq_true rfl, Nat.le_of_ble_eq_true rfl⟩) dL_law_814 [1, 9, 10] rfl rfl 1 rfl rfl rfl rfl (Nat.le_of_ble_eq_true rfl) (by omega) (by omega) (fun _ => rfl) (fun r2 u H1 locs hw hP hD hS => ?_)
  try dsimp only at hw
  obtain rfl := hw
  have hP : va_P D vwCl (law_w cY aa sa bp ov fr tf len sc cur tx f cnt rf rc sf sn z g0 g1 g2 g3 t0 t1 t2 t3 sk pt pg pf pe th ta yr ys yo yf ye kf kc rv cv bv f cnt sf sn z sk len tx) H1 := hP
  have hD : va_D A (law_w cY aa sa bp ov fr tf len sc cur tx f cnt rf rc sf sn z g0 g1 g2 g3 t0 t1 t2 t3 sk pt pg pf pe th ta yr ys yo yf ye kf kc rv cv bv f cnt sf sn z sk len tx) := hD
  refine lv_aload_n hx hb dL_law_817 rfl (lv_at hl 2 rfl) ?_
  refine m_callVi (As := []) (rest := [.int (nI (m_xr f 8))]) C0 hl hP hD hS (c_X7_sumOfAll l D cY (aa 25) (aa 26) (aa 27) (aa 28) (aa 29) (aa 30) (aa 31) (aa 32) z sk th len ta yr ys yo yf ye f cnt ) (cwV 0 hts gL_law_X7_sumOfAll rfl rfl rfl (by decide +kernel) ⟨Nat.le_of_ble_eq_true rfl, Nat.le_of_ble_eq_true rfl⟩) dL_law_818 [25, 26] rfl rfl 25 rfl rfl rfl rfl (Nat.le_of_ble_eq_true rfl) (by omega) (by omega) (fun _ => rfl) (fun r4 u H3 locs hw hP hD hS => ?_)
  try dsimp only at hw
  obtain rfl := hw
  have hP : va_P D vwCl (law_w cY aa sa bp ov fr tf len sc cur tx f cnt rf rc sf sn z g0 g1 g2 g3 t0 t1 t2 t3 sk pt pg pf pe 0 ta yr ys yo yf ye kf kc rv cv bv f cnt sf sn z sk len tx) H3 := hP
  have hD : va_D A (law_w cY aa sa bp ov fr tf len sc cur tx f cnt rf rc sf sn z g0 g1 g2 g3 t0 t1 t2 t3 sk pt pg pf pe 0 ta yr ys yo yf ye kf kc rv cv bv f cnt sf sn z sk len tx) := hD
  refine lv_icmp_eq (tgt := 1541) hx hb dL_law_821 (by decide) (fun c821 => ?_) (fun c821 => ?_)
  rotate_left
  · exact absurd rfl c821
  refine W.widen (k := cells + 1) (n := slots + 6) (by omega) (by omega) ?_
  exact kk ov fr tf len sc cur tx f cnt rf rc sf sn z g0 g1 g2 g3 t0 t1 t2 t3 sk pt pg pf pe 0 ta yr ys yo yf ye kf kc rv cv bv _ _ ls (hI) hP hD hS (lv_sub hl [0, 1, 2, 3, 4] rfl)
