/-! The law's variants. -/
set_option maxHeartbeats 4000000 in
set_option maxRecDepth 100000 in
theorem v_registerToLessen_ok {p : Program} {l : Launch} {e : Env} {s : State} {m : MethodId} {below : List Frame} {meth : Method} {c : Code} {b L : Nat} {xs : Nat → Int32} {D : va_G} {cY : Nat → ClassId} {A : Nat → Prop} {eS : Nat → Nat} {eO : Nat} {Q : State → Prop} {aa sa bp : Nat → Nat} (F : law_F p l e s m meth c b L xs D cY A eS eO bp) {ov : Nat → Int64} {fr : Nat} {tf : Nat → Nat} {len : Nat} {sc : Nat} {cur : Nat} {tx : Nat → Nat} {f : Nat → Nat} {cnt : Nat} {rf : Nat → Nat} {rc : Nat} {sf : Nat → Nat} {sn : Nat} {z : Nat} {g0 : Nat → Nat} {g1 : Nat → Nat} {g2 : Nat → Nat} {g3 : Nat → Nat} {t0 : Nat} {t1 : Nat} {t2 : Nat} {t3 : Nat} {sk : Nat} {pt : Nat → Int32} {pg : Nat → Int32} {pf : Nat → Int32} {pe : Nat → Int32} {th : Nat} {ta : Nat} {yr : Int32} {ys : Int32} {yo : Int32} {yf : Int32} {ye : Int32} {kf : Nat → Nat} {kc : Nat} {rv : Nat → Nat} {cv : Nat → Nat} {bv : Nat → Nat} {i : Nat} (hi : i + 2 < L) {H : Heap} {locs : List Loc} {ls : Array Slot} {cells slots : Nat} (hcl : cells + 1 ≤ room_1.cells) (hsl : slots + 6 ≤ room_1.slots)  
    (hI : law_I fr tf len tx f rf sf z g0 g1 g2 g3 t0 t1 t2 t3 sk rv) (hP : va_P D vwCl (law_w cY aa sa bp ov fr tf len sc cur tx f cnt rf rc sf sn z g0 g1 g2 g3 t0 t1 t2 t3 sk pt pg pf pe th ta yr ys yo yf ye kf kc rv cv bv f cnt sf sn z sk len tx) H) (hD : va_D A (law_w cY aa sa bp ov fr tf len sc cur tx f cnt rf rc sf sn z g0 g1 g2 g3 t0 t1 t2 t3 sk pt pg pf pe th ta yr ys yo yf ye kf kc rv cv bv f cnt sf sn z sk len tx)) (hS : va_S A s.heap H locs) (hl : lv_has ls 7 [(0, .ref b), (1, .ref (aa 1)), (2, .ref (aa 25)), (3, .ref (aa 0)), (4, .int (nI i))]) (kk : law_K p l e s m below meth c b D cY A Q aa sa bp i (cells + 1) (slots + 6)) :
    W p l e room_1 s m #[.ref b] below meth c H locs cells slots Q (F0 m 826 ls []) := by
  obtain ⟨C0, hE, hX, hbl, hbA, hL, hB, hfl⟩ := id F
  obtain ⟨hx, hb, hr, hml, hts, hown, hlocks, hK, hA⟩ := id C0
  obtain ⟨⟨hf8, hf16⟩, hrf8, ⟨hsf8, hsf16⟩, ⟨⟨hg0, hg0b⟩, ⟨hg1, hg1b⟩, ⟨hg2, hg2b⟩, ⟨hg3, hg3b⟩⟩, hz4, ⟨hfr, htf⟩, ⟨hlen, htx⟩, hsk, hh, hrec, hH⟩ := id hI
  refine lv_aload_n hx hb dL_law_826 rfl (lv_at hl 1 rfl) ?_
  refine m_callVi (As := []) (rest := []) C0 hl hP hD hS (c_X6_registerToLessen l D cY (aa 1) (aa 2) (aa 3) (aa 4) (aa 5) (aa 6) (aa 7) (aa 8) sk (aa 13) cnt f (by first | assumption | omega) (by first | assumption | omega)) (cwV 0 hts gL_law_X6_registerToLessen rfl rfl rfl (by decide +kernel) ⟨Nat.le_of_ble_eq_true rfl, Nat.le_of_ble_eq_true rfl⟩) dL_law_827 [1, 9, 10] rfl rfl 1 rfl rfl rfl rfl (Nat.le_of_ble_eq_true rfl) (by omega) (by omega) (fun _ => rfl) (fun r2 u H1 locs hw hP hD hS => ?_)
  try dsimp only at hw
  obtain rfl := hw
  have hP : va_P D vwCl (law_w cY aa sa bp ov fr tf len sc cur tx f cnt rf rc sf sn z g0 g1 g2 g3 t0 t1 t2 t3 sk pt pg pf pe th ta yr ys yo yf ye kf kc rv cv bv f cnt sf sn z sk len tx) H1 := hP
  have hD : va_D A (law_w cY aa sa bp ov fr tf len sc cur tx f cnt rf rc sf sn z g0 g1 g2 g3 t0 t1 t2 t3 sk pt pg pf pe th ta yr ys yo yf ye kf kc rv cv bv f cnt sf sn z sk len tx) := hD
  refine lv_aload_n hx hb dL_law_830 rfl (lv_at hl 2 rfl) ?_
  refine m_callVi (As := []) (rest := [.int (m_les f (m_xr f 8) 8 0)]) C0 hl hP hD hS (c_X7_registerToLessen l D cY (aa 25) (aa 26) (aa 27) (aa 28) (aa 29) (aa 30) (aa 31) (aa 32) z sk th len ta yr ys yo yf ye f cnt (by first | assumption | omega) (by first | assumption | omega)) (cwV 0 hts gL_law_X7_registerToLessen rfl rfl rfl (by decide +kernel) ⟨Nat.le_of_ble_eq_true rfl, Nat.le_of_ble_eq_true rfl⟩) dL_law_831 [25, 26] rfl rfl 25 rfl rfl rfl rfl (Nat.le_of_ble_eq_true rfl) (by omega) (by omega) (fun _ => rfl) (fun r4 u H3 locs hw hP hD hS => ?_)
  try dsimp only at hw
  obtain rfl := hw
  have hP : va_P D vwCl (law_w cY aa sa bp ov fr tf len sc cur tx f cnt rf rc sf sn z g0 g1 g2 g3 t0 t1 t2 t3 sk pt pg pf pe 0 ta yr ys yo yf ye kf kc rv cv bv f cnt sf sn z sk len tx) H3 := hP
  have hD : va_D A (law_w cY aa sa bp ov fr tf len sc cur tx f cnt rf rc sf sn z g0 g1 g2 g3 t0 t1 t2 t3 sk pt pg pf pe 0 ta yr ys yo yf ye kf kc rv cv bv f cnt sf sn z sk len tx) := hD
  refine lv_icmp_eq (tgt := 1541) hx hb dL_law_834 (by decide) (fun c834 => ?_) (fun c834 => ?_)
  rotate_left
  · exact absurd rfl c834
  refine W.widen (k := cells + 1) (n := slots + 6) (by omega) (by omega) ?_
  exact kk ov fr tf len sc cur tx f cnt rf rc sf sn z g0 g1 g2 g3 t0 t1 t2 t3 sk pt pg pf pe 0 ta yr ys yo yf ye kf kc rv cv bv _ _ ls (hI) hP hD hS (lv_sub hl [0, 1, 2, 3, 4] rfl)
set_option maxHeartbeats 4000000 in
set_option maxRecDepth 100000 in
theorem v_productByHalves_x1 {p : Program} {l : Launch} {e : Env} {s : State} {m : MethodId} {below : List Frame} {meth : Method} {c : Code} {b L : Nat} {xs : Nat → Int32} {D : va_G} {cY : Nat → ClassId} {A : Nat → Prop} {eS : Nat → Nat} {eO : Nat} {Q : State → Prop} {aa sa bp : Nat → Nat} (F : law_F p l e s m meth c b L xs D cY A eS eO bp) {ov : Nat → Int64} {fr : Nat} {tf : Nat → Nat} {len : Nat} {sc : Nat} {cur : Nat} {tx : Nat → Nat} {f : Nat → Nat} {cnt : Nat} {rf : Nat → Nat} {rc : Nat} {sf : Nat → Nat} {sn : Nat} {z : Nat} {g0 : Nat → Nat} {g1 : Nat → Nat} {g2 : Nat → Nat} {g3 : Nat → Nat} {t0 : Nat} {t1 : Nat} {t2 : Nat} {t3 : Nat} {sk : Nat} {pt : Nat → Int32} {pg : Nat → Int32} {pf : Nat → Int32} {pe : Nat → Int32} {th : Nat} {ta : Nat} {yr : Int32} {ys : Int32} {yo : Int32} {yf : Int32} {ye : Int32} {kf : Nat → Nat} {kc : Nat} {rv : Nat → Nat} {cv : Nat → Nat} {bv : Nat → Nat} {i : Nat} (hi : i + 2 < L) {H : Heap} {locs : List Loc} {ls : Array Slot} {cells slots : Nat} (hcl : cells + 1 ≤ room_1.cells) (hsl : slots + 6 ≤ room_1.slots) (x y : Int32) (hn : ¬ (m_isN x ∧ m_isN y)) (hv1 : xs (i + 1) = x) (hv2 : xs (i + 2) = y)
    (hI : law_I fr tf len tx f rf sf z g0 g1 g2 g3 t0 t1 t2 t3 sk rv) (hP : va_P D vwCl (law_w cY aa sa bp ov fr tf len sc cur tx f cnt rf rc sf sn z g0 g1 g2 g3 t0 t1 t2 t3 sk pt pg pf pe th ta yr ys yo yf ye kf kc rv cv bv f cnt sf sn z sk len tx) H) (hD : va_D A (law_w cY aa sa bp ov fr tf len sc cur tx f cnt rf rc sf sn z g0 g1 g2 g3 t0 t1 t2 t3 sk pt pg pf pe th ta yr ys yo yf ye kf kc rv cv bv f cnt sf sn z sk len tx)) (hS : va_S A s.heap H locs) (hl : lv_has ls 7 [(0, .ref b), (1, .ref (aa 1)), (2, .ref (aa 25)), (3, .ref (aa 0)), (4, .int (nI i))]) (kk : law_K p l e s m below meth c b D cY A Q aa sa bp i (cells + 1) (slots + 6)) :
    W p l e room_1 s m #[.ref b] below meth c H locs cells slots Q (F0 m 839 ls []) := by
  obtain ⟨C0, hE, hX, hbl, hbA, hL, hB, hfl⟩ := id F
  obtain ⟨hx, hb, hr, hml, hts, hown, hlocks, hK, hA⟩ := id C0
  obtain ⟨⟨hf8, hf16⟩, hrf8, ⟨hsf8, hsf16⟩, ⟨⟨hg0, hg0b⟩, ⟨hg1, hg1b⟩, ⟨hg2, hg2b⟩, ⟨hg3, hg3b⟩⟩, hz4, ⟨hfr, htf⟩, ⟨hlen, htx⟩, hsk, hh, hrec, hH⟩ := id hI
  refine lv_aload_n hx hb dL_law_839 rfl (lv_at hl 1 rfl) ?_
  refine lv_aload_n hx hb dL_law_840 rfl (lv_at hl 0 rfl) ?_
  refine lv_iload hx hb dL_law_841 (lv_at hl 4 rfl) ?_
  refine lv_iconst (v := nI 1) hx hb dL_law_843 (by decide) ?_
  refine lv_iadd hx hb dL_law_844 ?_
  refine lv_topi (nm_r (nI_add _ _) ?_)
  refine va_sld hx hb hX hbl hbA hS (i := nI (i + 1)) (m_in (n := i + 1) (by omega) (by omega)) dL_law_845 ?_
  refine lv_topi (nm_r (show _ = x from by rw [nI_clamp (by omega)]; exact hv1) ?_)
  refine lv_aload_n hx hb dL_law_846 rfl (lv_at hl 0 rfl) ?_
  refine lv_iload hx hb dL_law_847 (lv_at hl 4 rfl) ?_
  refine lv_iconst (v := nI 2) hx hb dL_law_849 (by decide) ?_
  refine lv_iadd hx hb dL_law_850 ?_
  refine lv_topi (nm_r (nI_add _ _) ?_)
  refine va_sld hx hb hX hbl hbA hS (i := nI (i + 2)) (m_in (n := i + 2) (by omega) (by omega)) dL_law_851 ?_
  refine lv_topi (nm_r (show _ = y from by rw [nI_clamp (by omega)]; exact hv2) ?_)
  refine lv_aload_n hx hb dL_law_852 rfl (lv_at hl 3 rfl) ?_
  refine m_callTe (As := [.ref (aa 1), .int x, .int y, .ref (aa 0)]) (rest := []) C0 hE hl hP hD hS (c_L_productByHalves_x1 l hfl D cY eS eO (aa 1) (aa 2) (aa 3) (aa 4) (aa 5) (aa 6) (aa 7) (aa 8) sk x y (aa 0) ov (by first | assumption | omega)) (vx_cwSW 4 hts gL_law_L_productByHalves rfl rfl rfl (by decide +kernel) ⟨Nat.le_of_ble_eq_true rfl, Nat.le_of_ble_eq_true rfl⟩) dL_law_853 [0, 1] rfl rfl rfl (Nat.le_of_ble_eq_true rfl) (by omega) (by omega) (fun _ => rfl) (fun r2 u H1 locs hw hP hD hS => ?_)
  try dsimp only at hw
  obtain rfl := hw
  have hP : va_P D vwCl (law_w cY aa sa bp ov fr tf len sc cur tx f cnt rf rc sf sn z g0 g1 g2 g3 t0 t1 t2 t3 sk pt pg pf pe th ta yr ys yo yf ye kf kc rv cv bv f cnt sf sn z sk len tx) H1 := hP
  have hD : va_D A (law_w cY aa sa bp ov fr tf len sc cur tx f cnt rf rc sf sn z g0 g1 g2 g3 t0 t1 t2 t3 sk pt pg pf pe th ta yr ys yo yf ye kf kc rv cv bv f cnt sf sn z sk len tx) := hD
  refine lv_istore (lv' := [(5, .int (nI 1)), (0, .ref b), (1, .ref (aa 1)), (2, .ref (aa 25)), (3, .ref (aa 0)), (4, .int (nI i))]) hx hb dL_law_856 hl (by decide) rfl (fun ls hl => ?_)
  refine lv_aload_n hx hb dL_law_858 rfl (lv_at hl 3 rfl) ?_
  refine lv_aload_n hx hb dL_law_859 rfl (lv_at hl 1 rfl) ?_
  refine lv_iload hx hb dL_law_860 (lv_at hl 5 rfl) ?_
  refine lv_iconst (v := nI 1) hx hb dL_law_862 (by decide) ?_
  refine lv_iadd hx hb dL_law_863 ?_
  refine lv_topi (nm_r (nI_add _ _) ?_)
  refine va_sld hx hb hX hbl hbA hS (i := nI (i + 1)) (m_in (n := i + 1) (by omega) (by omega)) dL_law_864 ?_
  refine lv_topi (nm_r (show _ = x from by rw [nI_clamp (by omega)]; exact hv1) ?_)
  refine lv_aload_n hx hb dL_law_865 rfl (lv_at hl 1 rfl) ?_
  refine lv_iload hx hb dL_law_866 (lv_at hl 5 rfl) ?_
  refine lv_iconst (v := nI 2) hx hb dL_law_868 (by decide) ?_
  refine lv_iadd hx hb dL_law_869 ?_
  refine lv_topi (nm_r (nI_add _ _) ?_)
  refine va_sld hx hb hX hbl hbA hS (i := nI (i + 2)) (m_in (n := i + 2) (by omega) (by omega)) dL_law_870 ?_
  refine lv_topi (nm_r (show _ = y from by rw [nI_clamp (by omega)]; exact hv2) ?_)
  refine m_callVi (As := [.int x, .int y]) (rest := []) C0 hl hP hD hS (c_X7_productByHalves_f1 l D cY (aa 25) (aa 26) (aa 27) (aa 28) (aa 29) (aa 30) (aa 31) (aa 32) z sk th len ta yr ys yo yf ye x y (by first | assumption | omega)) (cwV 2 hts gL_law_X7_productByHalves rfl rfl rfl (by decide +kernel) ⟨Nat.le_of_ble_eq_true rfl, Nat.le_of_ble_eq_true rfl⟩) dL_law_871 [25] rfl rfl 25 rfl rfl rfl rfl (Nat.le_of_ble_eq_true rfl) (by omega) (by omega) (fun _ => rfl) (fun r4 u H3 locs hw hP hD hS => ?_)
  try dsimp only at hw
  obtain rfl := hw
  have hP : va_P D vwCl (law_w cY aa sa bp ov fr tf len sc cur tx f cnt rf rc sf sn z g0 g1 g2 g3 t0 t1 t2 t3 sk pt pg pf pe 1 ta yr ys yo yf ye kf kc rv cv bv f cnt sf sn z sk len tx) H3 := hP
  have hD : va_D A (law_w cY aa sa bp ov fr tf len sc cur tx f cnt rf rc sf sn z g0 g1 g2 g3 t0 t1 t2 t3 sk pt pg pf pe 1 ta yr ys yo yf ye kf kc rv cv bv f cnt sf sn z sk len tx) := hD
  refine lv_istore (lv' := [(6, .int (nI 0)), (5, .int (nI 1)), (0, .ref b), (1, .ref (aa 1)), (2, .ref (aa 25)), (3, .ref (aa 0)), (4, .int (nI i))]) hx hb dL_law_874 hl (by decide) rfl (fun ls hl => ?_)
  refine lv_aload_n hx hb dL_law_876 rfl (lv_at hl 4 rfl) ?_
  refine m_callVi (As := []) (rest := []) C0 hl hP hD hS (c_X7_thrown l D cY (aa 25) (aa 26) (aa 27) (aa 28) (aa 29) (aa 30) (aa 31) (aa 32) z sk 1 len ta yr ys yo yf ye ) (cwV 0 hts gL_law_X7_thrown rfl rfl rfl (by decide +kernel) ⟨Nat.le_of_ble_eq_true rfl, Nat.le_of_ble_eq_true rfl⟩) dL_law_877 [25] rfl rfl 25 rfl rfl rfl rfl (Nat.le_of_ble_eq_true rfl) (by omega) (by omega) (fun _ => rfl) (fun r6 u H5 locs hw hP hD hS => ?_)
  try dsimp only at hw
  obtain rfl := hw
  have hP : va_P D vwCl (law_w cY aa sa bp ov fr tf len sc cur tx f cnt rf rc sf sn z g0 g1 g2 g3 t0 t1 t2 t3 sk pt pg pf pe 1 ta yr ys yo yf ye kf kc rv cv bv f cnt sf sn z sk len tx) H5 := hP
  have hD : va_D A (law_w cY aa sa bp ov fr tf len sc cur tx f cnt rf rc sf sn z g0 g1 g2 g3 t0 t1 t2 t3 sk pt pg pf pe 1 ta yr ys yo yf ye kf kc rv cv bv f cnt sf sn z sk len tx) := hD
  refine lv_iload hx hb dL_law_880 (lv_at hl 1 rfl) ?_
  refine lv_icmp_eq (tgt := 887) hx hb dL_law_882 (by decide) (fun c882 => ?_) (fun c882 => ?_)
  rotate_left
  · exact absurd rfl c882
  refine lv_iload hx hb dL_law_887 (lv_at hl 1 rfl) ?_
  refine lv_if_ne (tgt := 904) hx hb dL_law_889 (by decide) (fun c889 => ?_) (fun c889 => ?_)
  rotate_left
  · exact absurd c889 (by decide)
  refine lv_goto (tgt := 1541) hx hb dL_law_904 (by decide) ?_
  refine W.widen (k := cells + 1) (n := slots + 6) (by omega) (by omega) ?_
  exact kk ov fr tf len sc cur tx f cnt rf rc sf sn z g0 g1 g2 g3 t0 t1 t2 t3 sk pt pg pf pe 1 ta yr ys yo yf ye kf kc rv cv bv _ _ ls (hI) hP hD hS (lv_sub hl [2, 3, 4, 5, 6] rfl)
set_option maxHeartbeats 4000000 in
set_option maxRecDepth 100000 in
theorem v_productByHalves_ok {p : Program} {l : Launch} {e : Env} {s : State} {m : MethodId} {below : List Frame} {meth : Method} {c : Code} {b L : Nat} {xs : Nat → Int32} {D : va_G} {cY : Nat → ClassId} {A : Nat → Prop} {eS : Nat → Nat} {eO : Nat} {Q : State → Prop} {aa sa bp : Nat → Nat} (F : law_F p l e s m meth c b L xs D cY A eS eO bp) {ov : Nat → Int64} {fr : Nat} {tf : Nat → Nat} {len : Nat} {sc : Nat} {cur : Nat} {tx : Nat → Nat} {f : Nat → Nat} {cnt : Nat} {rf : Nat → Nat} {rc : Nat} {sf : Nat → Nat} {sn : Nat} {z : Nat} {g0 : Nat → Nat} {g1 : Nat → Nat} {g2 : Nat → Nat} {g3 : Nat → Nat} {t0 : Nat} {t1 : Nat} {t2 : Nat} {t3 : Nat} {sk : Nat} {pt : Nat → Int32} {pg : Nat → Int32} {pf : Nat → Int32} {pe : Nat → Int32} {th : Nat} {ta : Nat} {yr : Int32} {ys : Int32} {yo : Int32} {yf : Int32} {ye : Int32} {kf : Nat → Nat} {kc : Nat} {rv : Nat → Nat} {cv : Nat → Nat} {bv : Nat → Nat} {i : Nat} (hi : i + 2 < L) {H : Heap} {locs : List Loc} {ls : Array Slot} {cells slots : Nat} (hcl : cells + 1 ≤ room_1.cells) (hsl : slots + 6 ≤ room_1.slots) (x y : Nat) (hxx : x < 65536) (hyy : y < 65536) (hv1 : xs (i + 1) = nI x) (hv2 : xs (i + 2) = nI y)
    (hI : law_I fr tf len tx f rf sf z g0 g1 g2 g3 t0 t1 t2 t3 sk rv) (hP : va_P D vwCl (law_w cY aa sa bp ov fr tf len sc cur tx f cnt rf rc sf sn z g0 g1 g2 g3 t0 t1 t2 t3 sk pt pg pf pe th ta yr ys yo yf ye kf kc rv cv bv f cnt sf sn z sk len tx) H) (hD : va_D A (law_w cY aa sa bp ov fr tf len sc cur tx f cnt rf rc sf sn z g0 g1 g2 g3 t0 t1 t2 t3 sk pt pg pf pe th ta yr ys yo yf ye kf kc rv cv bv f cnt sf sn z sk len tx)) (hS : va_S A s.heap H locs) (hl : lv_has ls 7 [(0, .ref b), (1, .ref (aa 1)), (2, .ref (aa 25)), (3, .ref (aa 0)), (4, .int (nI i))]) (kk : law_K p l e s m below meth c b D cY A Q aa sa bp i (cells + 1) (slots + 6)) :
    W p l e room_1 s m #[.ref b] below meth c H locs cells slots Q (F0 m 839 ls []) := by
  obtain ⟨C0, hE, hX, hbl, hbA, hL, hB, hfl⟩ := id F
  obtain ⟨hx, hb, hr, hml, hts, hown, hlocks, hK, hA⟩ := id C0
  obtain ⟨⟨hf8, hf16⟩, hrf8, ⟨hsf8, hsf16⟩, ⟨⟨hg0, hg0b⟩, ⟨hg1, hg1b⟩, ⟨hg2, hg2b⟩, ⟨hg3, hg3b⟩⟩, hz4, ⟨hfr, htf⟩, ⟨hlen, htx⟩, hsk, hh, hrec, hH⟩ := id hI
  refine lv_aload_n hx hb dL_law_839 rfl (lv_at hl 1 rfl) ?_
  refine lv_aload_n hx hb dL_law_840 rfl (lv_at hl 0 rfl) ?_
  refine lv_iload hx hb dL_law_841 (lv_at hl 4 rfl) ?_
  refine lv_iconst (v := nI 1) hx hb dL_law_843 (by decide) ?_
  refine lv_iadd hx hb dL_law_844 ?_
  refine lv_topi (nm_r (nI_add _ _) ?_)
  refine va_sld hx hb hX hbl hbA hS (i := nI (i + 1)) (m_in (n := i + 1) (by omega) (by omega)) dL_law_845 ?_
  refine lv_topi (nm_r (show _ = nI x from by rw [nI_clamp (by omega)]; exact hv1) ?_)
  refine lv_aload_n hx hb dL_law_846 rfl (lv_at hl 0 rfl) ?_
  refine lv_iload hx hb dL_law_847 (lv_at hl 4 rfl) ?_
  refine lv_iconst (v := nI 2) hx hb dL_law_849 (by decide) ?_
  refine lv_iadd hx hb dL_law_850 ?_
  refine lv_topi (nm_r (nI_add _ _) ?_)
  refine va_sld hx hb hX hbl hbA hS (i := nI (i + 2)) (m_in (n := i + 2) (by omega) (by omega)) dL_law_851 ?_
  refine lv_topi (nm_r (show _ = nI y from by rw [nI_clamp (by omega)]; exact hv2) ?_)
  refine lv_aload_n hx hb dL_law_852 rfl (lv_at hl 3 rfl) ?_
  refine m_callTe (As := [.ref (aa 1), .int (nI x), .int (nI y), .ref (aa 0)]) (rest := []) C0 hE hl hP hD hS (c_L_productByHalves_ok l hfl D cY eS eO (aa 1) (aa 2) (aa 3) (aa 4) (aa 5) (aa 6) (aa 7) (aa 8) sk x y (aa 0) ov (by first | assumption | omega) (by first | assumption | omega)) (vx_cwSW 4 hts gL_law_L_productByHalves rfl rfl rfl (by decide +kernel) ⟨Nat.le_of_ble_eq_true rfl, Nat.le_of_ble_eq_true rfl⟩) dL_law_853 [0, 1] rfl rfl rfl (Nat.le_of_ble_eq_true rfl) (by omega) (by omega) (fun _ => rfl) (fun r2 u H1 locs hw hP hD hS => ?_)
  try dsimp only at hw
  obtain rfl := hw
  have hP : va_P D vwCl (law_w cY aa sa bp (vp_updL ov 0 (Int32.toInt64 (nI (nm x y)))) fr tf len sc cur tx f cnt rf rc sf sn z g0 g1 g2 g3 t0 t1 t2 t3 sk pt pg pf pe th ta yr ys yo yf ye kf kc rv cv bv f cnt sf sn z sk len tx) H1 := hP
  have hD : va_D A (law_w cY aa sa bp (vp_updL ov 0 (Int32.toInt64 (nI (nm x y)))) fr tf len sc cur tx f cnt rf rc sf sn z g0 g1 g2 g3 t0 t1 t2 t3 sk pt pg pf pe th ta yr ys yo yf ye kf kc rv cv bv f cnt sf sn z sk len tx) := hD
  refine lv_istore (lv' := [(5, .int (nI 0)), (0, .ref b), (1, .ref (aa 1)), (2, .ref (aa 25)), (3, .ref (aa 0)), (4, .int (nI i))]) hx hb dL_law_856 hl (by decide) rfl (fun ls hl => ?_)
  refine lv_aload_n hx hb dL_law_858 rfl (lv_at hl 3 rfl) ?_
  refine lv_aload_n hx hb dL_law_859 rfl (lv_at hl 1 rfl) ?_
  refine lv_iload hx hb dL_law_860 (lv_at hl 5 rfl) ?_
  refine lv_iconst (v := nI 1) hx hb dL_law_862 (by decide) ?_
  refine lv_iadd hx hb dL_law_863 ?_
  refine lv_topi (nm_r (nI_add _ _) ?_)
  refine va_sld hx hb hX hbl hbA hS (i := nI (i + 1)) (m_in (n := i + 1) (by omega) (by omega)) dL_law_864 ?_
  refine lv_topi (nm_r (show _ = nI x from by rw [nI_clamp (by omega)]; exact hv1) ?_)
  refine lv_aload_n hx hb dL_law_865 rfl (lv_at hl 1 rfl) ?_
  refine lv_iload hx hb dL_law_866 (lv_at hl 5 rfl) ?_
  refine lv_iconst (v := nI 2) hx hb dL_law_868 (by decide) ?_
  refine lv_iadd hx hb dL_law_869 ?_
  refine lv_topi (nm_r (nI_add _ _) ?_)
  refine va_sld hx hb hX hbl hbA hS (i := nI (i + 2)) (m_in (n := i + 2) (by omega) (by omega)) dL_law_870 ?_
  refine lv_topi (nm_r (show _ = nI y from by rw [nI_clamp (by omega)]; exact hv2) ?_)
  refine m_callVi (As := [.int (nI x), .int (nI y)]) (rest := []) C0 hl hP hD hS (c_X7_productByHalves_ok l D cY (aa 25) (aa 26) (aa 27) (aa 28) (aa 29) (aa 30) (aa 31) (aa 32) z sk th len ta yr ys yo yf ye x y (by first | assumption | omega) (by first | assumption | omega)) (cwV 2 hts gL_law_X7_productByHalves rfl rfl rfl (by decide +kernel) ⟨Nat.le_of_ble_eq_true rfl, Nat.le_of_ble_eq_true rfl⟩) dL_law_871 [25] rfl rfl 25 rfl rfl rfl rfl (Nat.le_of_ble_eq_true rfl) (by omega) (by omega) (fun _ => rfl) (fun r4 u H3 locs hw hP hD hS => ?_)
  try dsimp only at hw
  obtain rfl := hw
  have hP : va_P D vwCl (law_w cY aa sa bp (vp_updL ov 0 (Int32.toInt64 (nI (nm x y)))) fr tf len sc cur tx f cnt rf rc sf sn z g0 g1 g2 g3 t0 t1 t2 t3 sk pt pg pf pe 0 ta yr ys yo yf ye kf kc rv cv bv f cnt sf sn z sk len tx) H3 := hP
  have hD : va_D A (law_w cY aa sa bp (vp_updL ov 0 (Int32.toInt64 (nI (nm x y)))) fr tf len sc cur tx f cnt rf rc sf sn z g0 g1 g2 g3 t0 t1 t2 t3 sk pt pg pf pe 0 ta yr ys yo yf ye kf kc rv cv bv f cnt sf sn z sk len tx) := hD
  refine lv_istore (lv' := [(6, .int (nI (nm x y))), (5, .int (nI 0)), (0, .ref b), (1, .ref (aa 1)), (2, .ref (aa 25)), (3, .ref (aa 0)), (4, .int (nI i))]) hx hb dL_law_874 hl (by decide) rfl (fun ls hl => ?_)
  refine lv_aload_n hx hb dL_law_876 rfl (lv_at hl 4 rfl) ?_
  refine m_callVi (As := []) (rest := []) C0 hl hP hD hS (c_X7_thrown l D cY (aa 25) (aa 26) (aa 27) (aa 28) (aa 29) (aa 30) (aa 31) (aa 32) z sk 0 len ta yr ys yo yf ye ) (cwV 0 hts gL_law_X7_thrown rfl rfl rfl (by decide +kernel) ⟨Nat.le_of_ble_eq_true rfl, Nat.le_of_ble_eq_true rfl⟩) dL_law_877 [25] rfl rfl 25 rfl rfl rfl rfl (Nat.le_of_ble_eq_true rfl) (by omega) (by omega) (fun _ => rfl) (fun r6 u H5 locs hw hP hD hS => ?_)
  try dsimp only at hw
  obtain rfl := hw
  have hP : va_P D vwCl (law_w cY aa sa bp (vp_updL ov 0 (Int32.toInt64 (nI (nm x y)))) fr tf len sc cur tx f cnt rf rc sf sn z g0 g1 g2 g3 t0 t1 t2 t3 sk pt pg pf pe 0 ta yr ys yo yf ye kf kc rv cv bv f cnt sf sn z sk len tx) H5 := hP
  have hD : va_D A (law_w cY aa sa bp (vp_updL ov 0 (Int32.toInt64 (nI (nm x y)))) fr tf len sc cur tx f cnt rf rc sf sn z g0 g1 g2 g3 t0 t1 t2 t3 sk pt pg pf pe 0 ta yr ys yo yf ye kf kc rv cv bv f cnt sf sn z sk len tx) := hD
  refine lv_iload hx hb dL_law_880 (lv_at hl 1 rfl) ?_
  refine lv_icmp_eq (tgt := 887) hx hb dL_law_882 (by decide) (fun c882 => ?_) (fun c882 => ?_)
  rotate_left
  · exact absurd rfl c882
  refine lv_iload hx hb dL_law_887 (lv_at hl 1 rfl) ?_
  refine lv_if_ne (tgt := 904) hx hb dL_law_889 (by decide) (fun c889 => ?_) (fun c889 => ?_)
  · exact absurd rfl c889
  refine lv_aload_n hx hb dL_law_892 rfl (lv_at hl 5 rfl) ?_
  refine lv_iconst (v := nI 0) hx hb dL_law_893 (by decide) ?_
  refine va_lald hx hb hK hP 0 2 rfl rfl (m_in (n := 0) (by decide) (by decide)) dL_law_894 ?_
  refine lv_topl (nm_r (show _ = Int32.toInt64 (nI (nm x y)) from by rw [nI_clamp (by decide)]; exact if_pos rfl) ?_)
  refine lv_iload hx hb dL_law_895 (lv_at hl 0 rfl) ?_
  refine lv_i2l (v := Int32.toInt64 (nI (nm x y))) hx hb dL_law_897 rfl ?_
  refine W.lcmp hx hb dL_law_898 ?_
  refine lv_topi (nm_r (m_cmp_self _) ?_)
  refine lv_if_eq (tgt := 904) hx hb dL_law_899 (by decide) (fun c899 => ?_) (fun c899 => ?_)
  rotate_left
  · exact absurd rfl c899
  refine lv_goto (tgt := 1541) hx hb dL_law_904 (by decide) ?_
  refine W.widen (k := cells + 1) (n := slots + 6) (by omega) (by omega) ?_
  exact kk (vp_updL ov 0 (Int32.toInt64 (nI (nm x y)))) fr tf len sc cur tx f cnt rf rc sf sn z g0 g1 g2 g3 t0 t1 t2 t3 sk pt pg pf pe 0 ta yr ys yo yf ye kf kc rv cv bv _ _ ls (hI) hP hD hS (lv_sub hl [2, 3, 4, 5, 6] rfl)
set_option maxHeartbeats 4000000 in
set_option maxRecDepth 100000 in
theorem v_productByBits_x1 {p : Program} {l : Launch} {e : Env} {s : State} {m : MethodId} {below : List Frame} {meth : Method} {c : Code} {b L : Nat} {xs : Nat → Int32} {D : va_G} {cY : Nat → ClassId} {A : Nat → Prop} {eS : Nat → Nat} {eO : Nat} {Q : State → Prop} {aa sa bp : Nat → Nat} (F : law_F p l e s m meth c b L xs D cY A eS eO bp) {ov : Nat → Int64} {fr : Nat} {tf : Nat → Nat} {len : Nat} {sc : Nat} {cur : Nat} {tx : Nat → Nat} {f : Nat → Nat} {cnt : Nat} {rf : Nat → Nat} {rc : Nat} {sf : Nat → Nat} {sn : Nat} {z : Nat} {g0 : Nat → Nat} {g1 : Nat → Nat} {g2 : Nat → Nat} {g3 : Nat → Nat} {t0 : Nat} {t1 : Nat} {t2 : Nat} {t3 : Nat} {sk : Nat} {pt : Nat → Int32} {pg : Nat → Int32} {pf : Nat → Int32} {pe : Nat → Int32} {th : Nat} {ta : Nat} {yr : Int32} {ys : Int32} {yo : Int32} {yf : Int32} {ye : Int32} {kf : Nat → Nat} {kc : Nat} {rv : Nat → Nat} {cv : Nat → Nat} {bv : Nat → Nat} {i : Nat} (hi : i + 2 < L) {H : Heap} {locs : List Loc} {ls : Array Slot} {cells slots : Nat} (hcl : cells + 1 ≤ room_1.cells) (hsl : slots + 6 ≤ room_1.slots) (x y : Int32) (hn : ¬ (m_isN x ∧ m_isN y)) (hv1 : xs (i + 1) = x) (hv2 : xs (i + 2) = y)
    (hI : law_I fr tf len tx f rf sf z g0 g1 g2 g3 t0 t1 t2 t3 sk rv) (hP : va_P D vwCl (law_w cY aa sa bp ov fr tf len sc cur tx f cnt rf rc sf sn z g0 g1 g2 g3 t0 t1 t2 t3 sk pt pg pf pe th ta yr ys yo yf ye kf kc rv cv bv f cnt sf sn z sk len tx) H) (hD : va_D A (law_w cY aa sa bp ov fr tf len sc cur tx f cnt rf rc sf sn z g0 g1 g2 g3 t0 t1 t2 t3 sk pt pg pf pe th ta yr ys yo yf ye kf kc rv cv bv f cnt sf sn z sk len tx)) (hS : va_S A s.heap H locs) (hl : lv_has ls 7 [(0, .ref b), (1, .ref (aa 1)), (2, .ref (aa 25)), (3, .ref (aa 0)), (4, .int (nI i))]) (kk : law_K p l e s m below meth c b D cY A Q aa sa bp i (cells + 1) (slots + 6)) :
    W p l e room_1 s m #[.ref b] below meth c H locs cells slots Q (F0 m 907 ls []) := by
  obtain ⟨C0, hE, hX, hbl, hbA, hL, hB, hfl⟩ := id F
  obtain ⟨hx, hb, hr, hml, hts, hown, hlocks, hK, hA⟩ := id C0
  obtain ⟨⟨hf8, hf16⟩, hrf8, ⟨hsf8, hsf16⟩, ⟨⟨hg0, hg0b⟩, ⟨hg1, hg1b⟩, ⟨hg2, hg2b⟩, ⟨hg3, hg3b⟩⟩, hz4, ⟨hfr, htf⟩, ⟨hlen, htx⟩, hsk, hh, hrec, hH⟩ := id hI
  refine lv_aload_n hx hb dL_law_907 rfl (lv_at hl 1 rfl) ?_
  refine lv_aload_n hx hb dL_law_908 rfl (lv_at hl 0 rfl) ?_
  refine lv_iload hx hb dL_law_909 (lv_at hl 4 rfl) ?_
  refine lv_iconst (v := nI 1) hx hb dL_law_911 (by decide) ?_
  refine lv_iadd hx hb dL_law_912 ?_
  refine lv_topi (nm_r (nI_add _ _) ?_)
  refine va_sld hx hb hX hbl hbA hS (i := nI (i + 1)) (m_in (n := i + 1) (by omega) (by omega)) dL_law_913 ?_
  refine lv_topi (nm_r (show _ = x from by rw [nI_clamp (by omega)]; exact hv1) ?_)
  refine lv_aload_n hx hb dL_law_914 rfl (lv_at hl 0 rfl) ?_
  refine lv_iload hx hb dL_law_915 (lv_at hl 4 rfl) ?_
  refine lv_iconst (v := nI 2) hx hb dL_law_917 (by decide) ?_
  refine lv_iadd hx hb dL_law_918 ?_
  refine lv_topi (nm_r (nI_add _ _) ?_)
  refine va_sld hx hb hX hbl hbA hS (i := nI (i + 2)) (m_in (n := i + 2) (by omega) (by omega)) dL_law_919 ?_
  refine lv_topi (nm_r (show _ = y from by rw [nI_clamp (by omega)]; exact hv2) ?_)
  refine lv_aload_n hx hb dL_law_920 rfl (lv_at hl 3 rfl) ?_
  refine m_callTe (As := [.ref (aa 1), .int x, .int y, .ref (aa 0)]) (rest := []) C0 hE hl hP hD hS (c_L_productByBits_x1 l hfl D cY eS eO (aa 1) (aa 2) (aa 3) (aa 4) (aa 5) (aa 6) (aa 7) (aa 8) sk x y (aa 0) ov (by first | assumption | omega)) (vx_cwSW 4 hts gL_law_L_productByBits rfl rfl rfl (by decide +kernel) ⟨Nat.le_of_ble_eq_true rfl, Nat.le_of_ble_eq_true rfl⟩) dL_law_921 [0, 1] rfl rfl rfl (Nat.le_of_ble_eq_true rfl) (by omega) (by omega) (fun _ => rfl) (fun r2 u H1 locs hw hP hD hS => ?_)
  try dsimp only at hw
  obtain rfl := hw
  have hP : va_P D vwCl (law_w cY aa sa bp ov fr tf len sc cur tx f cnt rf rc sf sn z g0 g1 g2 g3 t0 t1 t2 t3 sk pt pg pf pe th ta yr ys yo yf ye kf kc rv cv bv f cnt sf sn z sk len tx) H1 := hP
  have hD : va_D A (law_w cY aa sa bp ov fr tf len sc cur tx f cnt rf rc sf sn z g0 g1 g2 g3 t0 t1 t2 t3 sk pt pg pf pe th ta yr ys yo yf ye kf kc rv cv bv f cnt sf sn z sk len tx) := hD
  refine lv_istore (lv' := [(5, .int (nI 1)), (0, .ref b), (1, .ref (aa 1)), (2, .ref (aa 25)), (3, .ref (aa 0)), (4, .int (nI i))]) hx hb dL_law_924 hl (by decide) rfl (fun ls hl => ?_)
  refine lv_aload_n hx hb dL_law_926 rfl (lv_at hl 3 rfl) ?_
  refine lv_aload_n hx hb dL_law_927 rfl (lv_at hl 1 rfl) ?_
  refine lv_iload hx hb dL_law_928 (lv_at hl 5 rfl) ?_
  refine lv_iconst (v := nI 1) hx hb dL_law_930 (by decide) ?_
  refine lv_iadd hx hb dL_law_931 ?_
  refine lv_topi (nm_r (nI_add _ _) ?_)
  refine va_sld hx hb hX hbl hbA hS (i := nI (i + 1)) (m_in (n := i + 1) (by omega) (by omega)) dL_law_932 ?_
  refine lv_topi (nm_r (show _ = x from by rw [nI_clamp (by omega)]; exact hv1) ?_)
  refine lv_aload_n hx hb dL_law_933 rfl (lv_at hl 1 rfl) ?_
  refine lv_iload hx hb dL_law_934 (lv_at hl 5 rfl) ?_
  refine lv_iconst (v := nI 2) hx hb dL_law_936 (by decide) ?_
  refine lv_iadd hx hb dL_law_937 ?_
  refine lv_topi (nm_r (nI_add _ _) ?_)
  refine va_sld hx hb hX hbl hbA hS (i := nI (i + 2)) (m_in (n := i + 2) (by omega) (by omega)) dL_law_938 ?_
  refine lv_topi (nm_r (show _ = y from by rw [nI_clamp (by omega)]; exact hv2) ?_)
  refine m_callVi (As := [.int x, .int y]) (rest := []) C0 hl hP hD hS (c_X7_productByBits_f1 l D cY (aa 25) (aa 26) (aa 27) (aa 28) (aa 29) (aa 30) (aa 31) (aa 32) z sk th len ta yr ys yo yf ye x y (by first | assumption | omega)) (cwV 2 hts gL_law_X7_productByBits rfl rfl rfl (by decide +kernel) ⟨Nat.le_of_ble_eq_true rfl, Nat.le_of_ble_eq_true rfl⟩) dL_law_939 [25] rfl rfl 25 rfl rfl rfl rfl (Nat.le_of_ble_eq_true rfl) (by omega) (by omega) (fun _ => rfl) (fun r4 u H3 locs hw hP hD hS => ?_)
  try dsimp only at hw
  obtain rfl := hw
  have hP : va_P D vwCl (law_w cY aa sa bp ov fr tf len sc cur tx f cnt rf rc sf sn z g0 g1 g2 g3 t0 t1 t2 t3 sk pt pg pf pe 1 ta yr ys yo yf ye kf kc rv cv bv f cnt sf sn z sk len tx) H3 := hP
  have hD : va_D A (law_w cY aa sa bp ov fr tf len sc cur tx f cnt rf rc sf sn z g0 g1 g2 g3 t0 t1 t2 t3 sk pt pg pf pe 1 ta yr ys yo yf ye kf kc rv cv bv f cnt sf sn z sk len tx) := hD
  refine lv_istore (lv' := [(6, .int (nI 0)), (5, .int (nI 1)), (0, .ref b), (1, .ref (aa 1)), (2, .ref (aa 25)), (3, .ref (aa 0)), (4, .int (nI i))]) hx hb dL_law_942 hl (by decide) rfl (fun ls hl => ?_)
  refine lv_aload_n hx hb dL_law_944 rfl (lv_at hl 4 rfl) ?_
  refine m_callVi (As := []) (rest := []) C0 hl hP hD hS (c_X7_thrown l D cY (aa 25) (aa 26) (aa 27) (aa 28) (aa 29) (aa 30) (aa 31) (aa 32) z sk 1 len ta yr ys yo yf ye ) (cwV 0 hts gL_law_X7_thrown rfl rfl rfl (by decide +kernel) ⟨Nat.le_of_ble_eq_true rfl, Nat.le_of_ble_eq_true rfl⟩) dL_law_945 [25] rfl rfl 25 rfl rfl rfl rfl (Nat.le_of_ble_eq_true rfl) (by omega) (by omega) (fun _ => rfl) (fun r6 u H5 locs hw hP hD hS => ?_)
  try dsimp only at hw
  obtain rfl := hw
  have hP : va_P D vwCl (law_w cY aa sa bp ov fr tf len sc cur tx f cnt rf rc sf sn z g0 g1 g2 g3 t0 t1 t2 t3 sk pt pg pf pe 1 ta yr ys yo yf ye kf kc rv cv bv f cnt sf sn z sk len tx) H5 := hP
  have hD : va_D A (law_w cY aa sa bp ov fr tf len sc cur tx f cnt rf rc sf sn z g0 g1 g2 g3 t0 t1 t2 t3 sk pt pg pf pe 1 ta yr ys yo yf ye kf kc rv cv bv f cnt sf sn z sk len tx) := hD
  refine lv_iload hx hb dL_law_948 (lv_at hl 1 rfl) ?_
  refine lv_icmp_eq (tgt := 955) hx hb dL_law_950 (by decide) (fun c950 => ?_) (fun c950 => ?_)
  rotate_left
  · exact absurd rfl c950
  refine lv_iload hx hb dL_law_955 (lv_at hl 1 rfl) ?_
  refine lv_if_ne (tgt := 972) hx hb dL_law_957 (by decide) (fun c957 => ?_) (fun c957 => ?_)
  rotate_left
  · exact absurd c957 (by decide)
  refine lv_goto (tgt := 1541) hx hb dL_law_972 (by decide) ?_
  refine W.widen (k := cells + 1) (n := slots + 6) (by omega) (by omega) ?_
  exact kk ov fr tf len sc cur tx f cnt rf rc sf sn z g0 g1 g2 g3 t0 t1 t2 t3 sk pt pg pf pe 1 ta yr ys yo yf ye kf kc rv cv bv _ _ ls (hI) hP hD hS (lv_sub hl [2, 3, 4, 5, 6] rfl)
set_option maxHeartbeats 4000000 in
set_option maxRecDepth 100000 in
theorem v_productByBits_ok {p : Program} {l : Launch} {e : Env} {s : State} {m : MethodId} {below : List Frame} {meth : Method} {c : Code} {b L : Nat} {xs : Nat → Int32} {D : va_G} {cY : Nat → ClassId} {A : Nat → Prop} {eS : Nat → Nat} {eO : Nat} {Q : State → Prop} {aa sa bp : Nat → Nat} (F : law_F p l e s m meth c b L xs D cY A eS eO bp) {ov : Nat → Int64} {fr : Nat} {tf : Nat → Nat} {len : Nat} {sc : Nat} {cur : Nat} {tx : Nat → Nat} {f : Nat → Nat} {cnt : Nat} {rf : Nat → Nat} {rc : Nat} {sf : Nat → Nat} {sn : Nat} {z : Nat} {g0 : Nat → Nat} {g1 : Nat → Nat} {g2 : Nat → Nat} {g3 : Nat → Nat} {t0 : Nat} {t1 : Nat} {t2 : Nat} {t3 : Nat} {sk : Nat} {pt : Nat → Int32} {pg : Nat → Int32} {pf : Nat → Int32} {pe : Nat → Int32} {th : Nat} {ta : Nat} {yr : Int32} {ys : Int32} {yo : Int32} {yf : Int32} {ye : Int32} {kf : Nat → Nat} {kc : Nat} {rv : Nat → Nat} {cv : Nat → Nat} {bv : Nat → Nat} {i : Nat} (hi : i + 2 < L) {H : Heap} {locs : List Loc} {ls : Array Slot} {cells slots : Nat} (hcl : cells + 1 ≤ room_1.cells) (hsl : slots + 6 ≤ room_1.slots) (x y : Nat) (hxx : x < 65536) (hyy : y < 65536) (hv1 : xs (i + 1) = nI x) (hv2 : xs (i + 2) = nI y)
    (hI : law_I fr tf len tx f rf sf z g0 g1 g2 g3 t0 t1 t2 t3 sk rv) (hP : va_P D vwCl (law_w cY aa sa bp ov fr tf len sc cur tx f cnt rf rc sf sn z g0 g1 g2 g3 t0 t1 t2 t3 sk pt pg pf pe th ta yr ys yo yf ye kf kc rv cv bv f cnt sf sn z sk len tx) H) (hD : va_D A (law_w cY aa sa bp ov fr tf len sc cur tx f cnt rf rc sf sn z g0 g1 g2 g3 t0 t1 t2 t3 sk pt pg pf pe th ta yr ys yo yf ye kf kc rv cv bv f cnt sf sn z sk len tx)) (hS : va_S A s.heap H locs) (hl : lv_has ls 7 [(0, .ref b), (1, .ref (aa 1)), (2, .ref (aa 25)), (3, .ref (aa 0)), (4, .int (nI i))]) (kk : law_K p l e s m below meth c b D cY A Q aa sa bp i (cells + 1) (slots + 6)) :
    W p l e room_1 s m #[.ref b] below meth c H locs cells slots Q (F0 m 907 ls []) := by
  obtain ⟨C0, hE, hX, hbl, hbA, hL, hB, hfl⟩ := id F
  obtain ⟨hx, hb, hr, hml, hts, hown, hlocks, hK, hA⟩ := id C0
  obtain ⟨⟨hf8, hf16⟩, hrf8, ⟨hsf8, hsf16⟩, ⟨⟨hg0, hg0b⟩, ⟨hg1, hg1b⟩, ⟨hg2, hg2b⟩, ⟨hg3, hg3b⟩⟩, hz4, ⟨hfr, htf⟩, ⟨hlen, htx⟩, hsk, hh, hrec, hH⟩ := id hI
  refine lv_aload_n hx hb dL_law_907 rfl (lv_at hl 1 rfl) ?_
  refine lv_aload_n hx hb dL_law_908 rfl (lv_at hl 0 rfl) ?_
  refine lv_iload hx hb dL_law_909 (lv_at hl 4 rfl) ?_
  refine lv_iconst (v := nI 1) hx hb dL_law_911 (by decide) ?_
  refine lv_iadd hx hb dL_law_912 ?_
  refine lv_topi (nm_r (nI_add _ _) ?_)
  refine va_sld hx hb hX hbl hbA hS (i := nI (i + 1)) (m_in (n := i + 1) (by omega) (by omega)) dL_law_913 ?_
  refine lv_topi (nm_r (show _ = nI x from by rw [nI_clamp (by omega)]; exact hv1) ?_)
  refine lv_aload_n hx hb dL_law_914 rfl (lv_at hl 0 rfl) ?_
  refine lv_iload hx hb dL_law_915 (lv_at hl 4 rfl) ?_
  refine lv_iconst (v := nI 2) hx hb dL_law_917 (by decide) ?_
  refine lv_iadd hx hb dL_law_918 ?_
  refine lv_topi (nm_r (nI_add _ _) ?_)
  refine va_sld hx hb hX hbl hbA hS (i := nI (i + 2)) (m_in (n := i + 2) (by omega) (by omega)) dL_law_919 ?_
  refine lv_topi (nm_r (show _ = nI y from by rw [nI_clamp (by omega)]; exact hv2) ?_)
  refine lv_aload_n hx hb dL_law_920 rfl (lv_at hl 3 rfl) ?_
  refine m_callTji (As := [.ref (aa 1), .int (nI x), .int (nI y), .ref (aa 0)]) (rest := []) (wr := ([((aa 3), .inr (1, [.ref (aa 10), .int (nI fr)])), ((aa 10), .inl (cY 0, 256, .inl (m_nf tf))), ((aa 4), .inr (3, [.ref (aa 11), .ref (aa 12), .int (nI len), .int (nI sc), .int (nI cur)])), ((aa 11), .inl (cY 1, 60, .inl (m_nf tx))), ((aa 12), .inl (cY 4, 15, .inr (.inr (.inr (.inr (m_sa sa)))))), ((aa 5), .inr (4, [.ref (aa 13), .int (nI cnt)])), ((aa 13), .inl (cY 0, 8, .inl (m_nf f))), ((aa 6), .inr (4, [.ref (aa 14), .int (nI rc)])), ((aa 14), .inl (cY 0, 8, .inl (m_nf rf))), ((aa 7), .inr (4, [.ref (aa 15), .int (nI sn)])), ((aa 15), .inl (cY 0, 8, .inl (m_nf sf))), ((aa 8), .inr (0, [.ref (aa 16), .int (nI z)])), ((aa 16), .inl (cY 3, 4, .inr (.inr (.inr (.inr (m_k4 (aa 17) (aa 18) (aa 19) (aa 20))))))), ((aa 17), .inr (4, [.ref (aa 21), .int (nI t0)])), ((aa 21), .inl (cY 0, 8, .inl (m_nf g0))), ((aa 18), .inr (4, [.ref (aa 22), .int (nI t1)])), ((aa 22), .inl (cY 0, 8, .inl (m_nf g1))), ((aa 19), .inr (4, [.ref (aa 23), .int (nI t2)])), ((aa 23), .inl (cY 0, 8, .inl (m_nf g2))), ((aa 20), .inr (4, [.ref (aa 24), .int (nI t3)])), ((aa 24), .inl (cY 0, 8, .inl (m_nf g3))), ((aa 25), .inr (7, [.ref (aa 26), .ref (aa 27), .ref (aa 28), .int (nI z), .ref (aa 29), .int (nI sk), .int (nI th), .ref (aa 30), .int (nI len), .int (nI ta), .int yr, .int ys, .int yo, .int yf, .int ye, .ref (aa 31), .ref (aa 32)])), ((aa 26), .inl (cY 0, 9, .inl (m_nf (m_all f cnt)))), ((aa 27), .inl (cY 0, 9, .inl (m_nf (m_all kf kc)))), ((aa 29), .inl (cY 0, 9, .inl (m_nf (m_all sf sn)))), ((aa 28), .inl (cY 0, 36, .inl (m_nf rv))), ((aa 30), .inl (cY 0, 60, .inl (m_nf tx))), ((aa 31), .inl (cY 0, 16, .inl (m_nf cv))), ((aa 32), .inl (cY 0, 16, .inl (m_nf bv)))] ++ m_pool sa pt pg pf pe)) C0 hl hP hD hS (c_L_productByBits_ok l D cY (aa 1) (aa 2) (aa 3) (aa 4) (aa 5) (aa 6) (aa 7) (aa 8) sk (aa 9) bp x y (aa 0) ov (by first | assumption | omega) (by first | assumption | omega) (by first | assumption | omega)) (vx_cwSW 4 hts gL_law_L_productByBits rfl rfl rfl (by decide +kernel) ⟨Nat.le_of_ble_eq_true rfl, Nat.le_of_ble_eq_true rfl⟩) dL_law_921 [0, 1, 2, 3] [4, 5, 6, 7, 8, 9, 10, 11, 12, 13, 14, 15, 16, 17, 18, 19, 20, 21, 22, 23, 24, 25, 26, 27, 28, 29, 30, 31, 32, 33, 34, 35, 36, 37, 38, 39, 40, 41, 42, 43, 44, 45, 46, 47] rfl rfl (by decide) (by decide) (by decide) rfl (Nat.le_of_ble_eq_true rfl) (by omega) (by omega) (fun _ => rfl) (fun r2 u H1 locs hw hP hD hS => ?_)
  try dsimp only at hw
  obtain rfl := hw
  have hP : va_P D vwCl (law_w cY aa sa bp (vp_updL ov 0 (Int32.toInt64 (nI (nm x y)))) fr tf len sc cur tx f cnt rf rc sf sn z g0 g1 g2 g3 t0 t1 t2 t3 sk pt pg pf pe th ta yr ys yo yf ye kf kc rv cv bv f cnt sf sn z sk len tx) H1 := hP.sub (ws' := law_w cY aa sa bp (vp_updL ov 0 (Int32.toInt64 (nI (nm x y)))) fr tf len sc cur tx f cnt rf rc sf sn z g0 g1 g2 g3 t0 t1 t2 t3 sk pt pg pf pe th ta yr ys yo yf ye kf kc rv cv bv f cnt sf sn z sk len tx) [44, 45, 46, 47, 0, 1, 2, 3, 4, 5, 6, 7, 8, 9, 10, 11, 12, 13, 14, 15, 16, 17, 18, 19, 20, 21, 22, 23, 24, 25, 26, 27, 28, 29, 30, 31, 32, 33, 34, 35, 36, 37, 38, 39, 40, 41, 42, 43] rfl
  have hD : va_D A (law_w cY aa sa bp (vp_updL ov 0 (Int32.toInt64 (nI (nm x y)))) fr tf len sc cur tx f cnt rf rc sf sn z g0 g1 g2 g3 t0 t1 t2 t3 sk pt pg pf pe th ta yr ys yo yf ye kf kc rv cv bv f cnt sf sn z sk len tx) := hD.sub (ws' := law_w cY aa sa bp (vp_updL ov 0 (Int32.toInt64 (nI (nm x y)))) fr tf len sc cur tx f cnt rf rc sf sn z g0 g1 g2 g3 t0 t1 t2 t3 sk pt pg pf pe th ta yr ys yo yf ye kf kc rv cv bv f cnt sf sn z sk len tx) [44, 45, 46, 47, 0, 1, 2, 3, 4, 5, 6, 7, 8, 9, 10, 11, 12, 13, 14, 15, 16, 17, 18, 19, 20, 21, 22, 23, 24, 25, 26, 27, 28, 29, 30, 31, 32, 33, 34, 35, 36, 37, 38, 39, 40, 41, 42, 43] (by decide) rfl
  refine lv_istore (lv' := [(5, .int (nI 0)), (0, .ref b), (1, .ref (aa 1)), (2, .ref (aa 25)), (3, .ref (aa 0)), (4, .int (nI i))]) hx hb dL_law_924 hl (by decide) rfl (fun ls hl => ?_)
  refine lv_aload_n hx hb dL_law_926 rfl (lv_at hl 3 rfl) ?_
  refine lv_aload_n hx hb dL_law_927 rfl (lv_at hl 1 rfl) ?_
  refine lv_iload hx hb dL_law_928 (lv_at hl 5 rfl) ?_
  refine lv_iconst (v := nI 1) hx hb dL_law_930 (by decide) ?_
  refine lv_iadd hx hb dL_law_931 ?_
  refine lv_topi (nm_r (nI_add _ _) ?_)
  refine va_sld hx hb hX hbl hbA hS (i := nI (i + 1)) (m_in (n := i + 1) (by omega) (by omega)) dL_law_932 ?_
  refine lv_topi (nm_r (show _ = nI x from by rw [nI_clamp (by omega)]; exact hv1) ?_)
  refine lv_aload_n hx hb dL_law_933 rfl (lv_at hl 1 rfl) ?_
  refine lv_iload hx hb dL_law_934 (lv_at hl 5 rfl) ?_
  refine lv_iconst (v := nI 2) hx hb dL_law_936 (by decide) ?_
  refine lv_iadd hx hb dL_law_937 ?_
  refine lv_topi (nm_r (nI_add _ _) ?_)
  refine va_sld hx hb hX hbl hbA hS (i := nI (i + 2)) (m_in (n := i + 2) (by omega) (by omega)) dL_law_938 ?_
  refine lv_topi (nm_r (show _ = nI y from by rw [nI_clamp (by omega)]; exact hv2) ?_)
  refine m_callVi (As := [.int (nI x), .int (nI y)]) (rest := []) C0 hl hP hD hS (c_X7_productByBits_ok l D cY (aa 25) (aa 26) (aa 27) (aa 28) (aa 29) (aa 30) (aa 31) (aa 32) z sk th len ta yr ys yo yf ye x y (by first | assumption | omega) (by first | assumption | omega)) (cwV 2 hts gL_law_X7_productByBits rfl rfl rfl (by decide +kernel) ⟨Nat.le_of_ble_eq_true rfl, Nat.le_of_ble_eq_true rfl⟩) dL_law_939 [25] rfl rfl 25 rfl rfl rfl rfl (Nat.le_of_ble_eq_true rfl) (by omega) (by omega) (fun _ => rfl) (fun r4 u H3 locs hw hP hD hS => ?_)
  try dsimp only at hw
  obtain rfl := hw
  have hP : va_P D vwCl (law_w cY aa sa bp (vp_updL ov 0 (Int32.toInt64 (nI (nm x y)))) fr tf len sc cur tx f cnt rf rc sf sn z g0 g1 g2 g3 t0 t1 t2 t3 sk pt pg pf pe 0 ta yr ys yo yf ye kf kc rv cv bv f cnt sf sn z sk len tx) H3 := hP
  have hD : va_D A (law_w cY aa sa bp (vp_updL ov 0 (Int32.toInt64 (nI (nm x y)))) fr tf len sc cur tx f cnt rf rc sf sn z g0 g1 g2 g3 t0 t1 t2 t3 sk pt pg pf pe 0 ta yr ys yo yf ye kf kc rv cv bv f cnt sf sn z sk len tx) := hD
  refine lv_istore (lv' := [(6, .int (nI (nm x y))), (5, .int (nI 0)), (0, .ref b), (1, .ref (aa 1)), (2, .ref (aa 25)), (3, .ref (aa 0)), (4, .int (nI i))]) hx hb dL_law_942 hl (by decide) rfl (fun ls hl => ?_)
  refine lv_aload_n hx hb dL_law_944 rfl (lv_at hl 4 rfl) ?_
  refine m_callVi (As := []) (rest := []) C0 hl hP hD hS (c_X7_thrown l D cY (aa 25) (aa 26) (aa 27) (aa 28) (aa 29) (aa 30) (aa 31) (aa 32) z sk 0 len ta yr ys yo yf ye ) (cwV 0 hts gL_law_X7_thrown rfl rfl rfl (by decide +kernel) ⟨Nat.le_of_ble_eq_true rfl, Nat.le_of_ble_eq_true rfl⟩) dL_law_945 [25] rfl rfl 25 rfl rfl rfl rfl (Nat.le_of_ble_eq_true rfl) (by omega) (by omega) (fun _ => rfl) (fun r6 u H5 locs hw hP hD hS => ?_)
  try dsimp only at hw
  obtain rfl := hw
  have hP : va_P D vwCl (law_w cY aa sa bp (vp_updL ov 0 (Int32.toInt64 (nI (nm x y)))) fr tf len sc cur tx f cnt rf rc sf sn z g0 g1 g2 g3 t0 t1 t2 t3 sk pt pg pf pe 0 ta yr ys yo yf ye kf kc rv cv bv f cnt sf sn z sk len tx) H5 := hP
  have hD : va_D A (law_w cY aa sa bp (vp_updL ov 0 (Int32.toInt64 (nI (nm x y)))) fr tf len sc cur tx f cnt rf rc sf sn z g0 g1 g2 g3 t0 t1 t2 t3 sk pt pg pf pe 0 ta yr ys yo yf ye kf kc rv cv bv f cnt sf sn z sk len tx) := hD
  refine lv_iload hx hb dL_law_948 (lv_at hl 1 rfl) ?_
  refine lv_icmp_eq (tgt := 955) hx hb dL_law_950 (by decide) (fun c950 => ?_) (fun c950 => ?_)
  rotate_left
  · exact absurd rfl c950
  refine lv_iload hx hb dL_law_955 (lv_at hl 1 rfl) ?_
  refine lv_if_ne (tgt := 972) hx hb dL_law_957 (by decide) (fun c957 => ?_) (fun c957 => ?_)
  · exact absurd rfl c957
  refine lv_aload_n hx hb dL_law_960 rfl (lv_at hl 5 rfl) ?_
  refine lv_iconst (v := nI 0) hx hb dL_law_961 (by decide) ?_
  refine va_lald hx hb hK hP 0 2 rfl rfl (m_in (n := 0) (by decide) (by decide)) dL_law_962 ?_
  refine lv_topl (nm_r (show _ = Int32.toInt64 (nI (nm x y)) from by rw [nI_clamp (by decide)]; exact if_pos rfl) ?_)
  refine lv_iload hx hb dL_law_963 (lv_at hl 0 rfl) ?_
  refine lv_i2l (v := Int32.toInt64 (nI (nm x y))) hx hb dL_law_965 rfl ?_
  refine W.lcmp hx hb dL_law_966 ?_
  refine lv_topi (nm_r (m_cmp_self _) ?_)
  refine lv_if_eq (tgt := 972) hx hb dL_law_967 (by decide) (fun c967 => ?_) (fun c967 => ?_)
  rotate_left
  · exact absurd rfl c967
  refine lv_goto (tgt := 1541) hx hb dL_law_972 (by decide) ?_
  refine W.widen (k := cells + 1) (n := slots + 6) (by omega) (by omega) ?_
  exact kk (vp_updL ov 0 (Int32.toInt64 (nI (nm x y)))) fr tf len sc cur tx f cnt rf rc sf sn z g0 g1 g2 g3 t0 t1 t2 t3 sk pt pg pf pe 0 ta yr ys yo yf ye kf kc rv cv bv _ _ ls (hI) hP hD hS (lv_sub hl [2, 3, 4, 5, 6] rfl)
set_option maxHeartbeats 4000000 in
set_option maxRecDepth 100000 in
theorem v_productByTable_x1 {p : Program} {l : Launch} {e : Env} {s : State} {m : MethodId} {below : List Frame} {meth : Method} {c : Code} {b L : Nat} {xs : Nat → Int32} {D : va_G} {cY : Nat → ClassId} {A : Nat → Prop} {eS : Nat → Nat} {eO : Nat} {Q : State → Prop} {aa sa bp : Nat → Nat} (F : law_F p l e s m meth c b L xs D cY A eS eO bp) {ov : Nat → Int64} {fr : Nat} {tf : Nat → Nat} {len : Nat} {sc : Nat} {cur : Nat} {tx : Nat → Nat} {f : Nat → Nat} {cnt : Nat} {rf : Nat → Nat} {rc : Nat} {sf : Nat → Nat} {sn : Nat} {z : Nat} {g0 : Nat → Nat} {g1 : Nat → Nat} {g2 : Nat → Nat} {g3 : Nat → Nat} {t0 : Nat} {t1 : Nat} {t2 : Nat} {t3 : Nat} {sk : Nat} {pt : Nat → Int32} {pg : Nat → Int32} {pf : Nat → Int32} {pe : Nat → Int32} {th : Nat} {ta : Nat} {yr : Int32} {ys : Int32} {yo : Int32} {yf : Int32} {ye : Int32} {kf : Nat → Nat} {kc : Nat} {rv : Nat → Nat} {cv : Nat → Nat} {bv : Nat → Nat} {i : Nat} (hi : i + 2 < L) {H : Heap} {locs : List Loc} {ls : Array Slot} {cells slots : Nat} (hcl : cells + 1 ≤ room_1.cells) (hsl : slots + 6 ≤ room_1.slots) (x y : Int32) (hn : ¬ (m_inI x 0 15 ∧ m_inI y 0 15)) (hv1 : xs (i + 1) = x) (hv2 : xs (i + 2) = y)
    (hI : law_I fr tf len tx f rf sf z g0 g1 g2 g3 t0 t1 t2 t3 sk rv) (hP : va_P D vwCl (law_w cY aa sa bp ov fr tf len sc cur tx f cnt rf rc sf sn z g0 g1 g2 g3 t0 t1 t2 t3 sk pt pg pf pe th ta yr ys yo yf ye kf kc rv cv bv f cnt sf sn z sk len tx) H) (hD : va_D A (law_w cY aa sa bp ov fr tf len sc cur tx f cnt rf rc sf sn z g0 g1 g2 g3 t0 t1 t2 t3 sk pt pg pf pe th ta yr ys yo yf ye kf kc rv cv bv f cnt sf sn z sk len tx)) (hS : va_S A s.heap H locs) (hl : lv_has ls 7 [(0, .ref b), (1, .ref (aa 1)), (2, .ref (aa 25)), (3, .ref (aa 0)), (4, .int (nI i))]) (kk : law_K p l e s m below meth c b D cY A Q aa sa bp i (cells + 1) (slots + 6)) :
    W p l e room_1 s m #[.ref b] below meth c H locs cells slots Q (F0 m 975 ls []) := by
  obtain ⟨C0, hE, hX, hbl, hbA, hL, hB, hfl⟩ := id F
  obtain ⟨hx, hb, hr, hml, hts, hown, hlocks, hK, hA⟩ := id C0
  obtain ⟨⟨hf8, hf16⟩, hrf8, ⟨hsf8, hsf16⟩, ⟨⟨hg0, hg0b⟩, ⟨hg1, hg1b⟩, ⟨hg2, hg2b⟩, ⟨hg3, hg3b⟩⟩, hz4, ⟨hfr, htf⟩, ⟨hlen, htx⟩, hsk, hh, hrec, hH⟩ := id hI
  refine lv_aload_n hx hb dL_law_975 rfl (lv_at hl 1 rfl) ?_
  refine lv_aload_n hx hb dL_law_976 rfl (lv_at hl 0 rfl) ?_
  refine lv_iload hx hb dL_law_977 (lv_at hl 4 rfl) ?_
  refine lv_iconst (v := nI 1) hx hb dL_law_979 (by decide) ?_
  refine lv_iadd hx hb dL_law_980 ?_
  refine lv_topi (nm_r (nI_add _ _) ?_)
  refine va_sld hx hb hX hbl hbA hS (i := nI (i + 1)) (m_in (n := i + 1) (by omega) (by omega)) dL_law_981 ?_
  refine lv_topi (nm_r (show _ = x from by rw [nI_clamp (by omega)]; exact hv1) ?_)
  refine lv_aload_n hx hb dL_law_982 rfl (lv_at hl 0 rfl) ?_
  refine lv_iload hx hb dL_law_983 (lv_at hl 4 rfl) ?_
  refine lv_iconst (v := nI 2) hx hb dL_law_985 (by decide) ?_
  refine lv_iadd hx hb dL_law_986 ?_
  refine lv_topi (nm_r (nI_add _ _) ?_)
  refine va_sld hx hb hX hbl hbA hS (i := nI (i + 2)) (m_in (n := i + 2) (by omega) (by omega)) dL_law_987 ?_
  refine lv_topi (nm_r (show _ = y from by rw [nI_clamp (by omega)]; exact hv2) ?_)
  refine lv_aload_n hx hb dL_law_988 rfl (lv_at hl 3 rfl) ?_
  refine m_callTe (As := [.ref (aa 1), .int x, .int y, .ref (aa 0)]) (rest := []) C0 hE hl hP hD hS (c_L_productByTable_x1 l hfl D cY eS eO (aa 1) (aa 2) (aa 3) (aa 4) (aa 5) (aa 6) (aa 7) (aa 8) sk x y (aa 0) ov (by first | assumption | omega)) (vx_cwSW 4 hts gL_law_L_productByTable rfl rfl rfl (by decide +kernel) ⟨Nat.le_of_ble_eq_true rfl, Nat.le_of_ble_eq_true rfl⟩) dL_law_989 [0, 1] rfl rfl rfl (Nat.le_of_ble_eq_true rfl) (by omega) (by omega) (fun _ => rfl) (fun r2 u H1 locs hw hP hD hS => ?_)
  try dsimp only at hw
  obtain rfl := hw
  have hP : va_P D vwCl (law_w cY aa sa bp ov fr tf len sc cur tx f cnt rf rc sf sn z g0 g1 g2 g3 t0 t1 t2 t3 sk pt pg pf pe th ta yr ys yo yf ye kf kc rv cv bv f cnt sf sn z sk len tx) H1 := hP
  have hD : va_D A (law_w cY aa sa bp ov fr tf len sc cur tx f cnt rf rc sf sn z g0 g1 g2 g3 t0 t1 t2 t3 sk pt pg pf pe th ta yr ys yo yf ye kf kc rv cv bv f cnt sf sn z sk len tx) := hD
  refine lv_istore (lv' := [(5, .int (nI 1)), (0, .ref b), (1, .ref (aa 1)), (2, .ref (aa 25)), (3, .ref (aa 0)), (4, .int (nI i))]) hx hb dL_law_992 hl (by decide) rfl (fun ls hl => ?_)
  refine lv_aload_n hx hb dL_law_994 rfl (lv_at hl 3 rfl) ?_
  refine lv_aload_n hx hb dL_law_995 rfl (lv_at hl 1 rfl) ?_
  refine lv_iload hx hb dL_law_996 (lv_at hl 5 rfl) ?_
  refine lv_iconst (v := nI 1) hx hb dL_law_998 (by decide) ?_
  refine lv_iadd hx hb dL_law_999 ?_
  refine lv_topi (nm_r (nI_add _ _) ?_)
  refine va_sld hx hb hX hbl hbA hS (i := nI (i + 1)) (m_in (n := i + 1) (by omega) (by omega)) dL_law_1000 ?_
  refine lv_topi (nm_r (show _ = x from by rw [nI_clamp (by omega)]; exact hv1) ?_)
  refine lv_aload_n hx hb dL_law_1001 rfl (lv_at hl 1 rfl) ?_
  refine lv_iload hx hb dL_law_1002 (lv_at hl 5 rfl) ?_
  refine lv_iconst (v := nI 2) hx hb dL_law_1004 (by decide) ?_
  refine lv_iadd hx hb dL_law_1005 ?_
  refine lv_topi (nm_r (nI_add _ _) ?_)
  refine va_sld hx hb hX hbl hbA hS (i := nI (i + 2)) (m_in (n := i + 2) (by omega) (by omega)) dL_law_1006 ?_
  refine lv_topi (nm_r (show _ = y from by rw [nI_clamp (by omega)]; exact hv2) ?_)
  refine m_callVi (As := [.int x, .int y]) (rest := []) C0 hl hP hD hS (c_X7_productByTable_f1 l D cY (aa 25) (aa 26) (aa 27) (aa 28) (aa 29) (aa 30) (aa 31) (aa 32) z sk th len ta yr ys yo yf ye x y (by first | assumption | omega)) (cwV 2 hts gL_law_X7_productByTable rfl rfl rfl (by decide +kernel) ⟨Nat.le_of_ble_eq_true rfl, Nat.le_of_ble_eq_true rfl⟩) dL_law_1007 [25] rfl rfl 25 rfl rfl rfl rfl (Nat.le_of_ble_eq_true rfl) (by omega) (by omega) (fun _ => rfl) (fun r4 u H3 locs hw hP hD hS => ?_)
  try dsimp only at hw
  obtain rfl := hw
  have hP : va_P D vwCl (law_w cY aa sa bp ov fr tf len sc cur tx f cnt rf rc sf sn z g0 g1 g2 g3 t0 t1 t2 t3 sk pt pg pf pe 1 ta yr ys yo yf ye kf kc rv cv bv f cnt sf sn z sk len tx) H3 := hP
  have hD : va_D A (law_w cY aa sa bp ov fr tf len sc cur tx f cnt rf rc sf sn z g0 g1 g2 g3 t0 t1 t2 t3 sk pt pg pf pe 1 ta yr ys yo yf ye kf kc rv cv bv f cnt sf sn z sk len tx) := hD
  refine lv_istore (lv' := [(6, .int (nI 0)), (5, .int (nI 1)), (0, .ref b), (1, .ref (aa 1)), (2, .ref (aa 25)), (3, .ref (aa 0)), (4, .int (nI i))]) hx hb dL_law_1010 hl (by decide) rfl (fun ls hl => ?_)
  refine lv_aload_n hx hb dL_law_1012 rfl (lv_at hl 4 rfl) ?_
  refine m_callVi (As := []) (rest := []) C0 hl hP hD hS (c_X7_thrown l D cY (aa 25) (aa 26) (aa 27) (aa 28) (aa 29) (aa 30) (aa 31) (aa 32) z sk 1 len ta yr ys yo yf ye ) (cwV 0 hts gL_law_X7_thrown rfl rfl rfl (by decide +kernel) ⟨Nat.le_of_ble_eq_true rfl, Nat.le_of_ble_eq_true rfl⟩) dL_law_1013 [25] rfl rfl 25 rfl rfl rfl rfl (Nat.le_of_ble_eq_true rfl) (by omega) (by omega) (fun _ => rfl) (fun r6 u H5 locs hw hP hD hS => ?_)
  try dsimp only at hw
  obtain rfl := hw
  have hP : va_P D vwCl (law_w cY aa sa bp ov fr tf len sc cur tx f cnt rf rc sf sn z g0 g1 g2 g3 t0 t1 t2 t3 sk pt pg pf pe 1 ta yr ys yo yf ye kf kc rv cv bv f cnt sf sn z sk len tx) H5 := hP
  have hD : va_D A (law_w cY aa sa bp ov fr tf len sc cur tx f cnt rf rc sf sn z g0 g1 g2 g3 t0 t1 t2 t3 sk pt pg pf pe 1 ta yr ys yo yf ye kf kc rv cv bv f cnt sf sn z sk len tx) := hD
  refine lv_iload hx hb dL_law_1016 (lv_at hl 1 rfl) ?_
  refine lv_icmp_eq (tgt := 1023) hx hb dL_law_1018 (by decide) (fun c1018 => ?_) (fun c1018 => ?_)
  rotate_left
  · exact absurd rfl c1018
  refine lv_iload hx hb dL_law_1023 (lv_at hl 1 rfl) ?_
  refine lv_if_ne (tgt := 1040) hx hb dL_law_1025 (by decide) (fun c1025 => ?_) (fun c1025 => ?_)
  rotate_left
  · exact absurd c1025 (by decide)
  refine lv_goto (tgt := 1541) hx hb dL_law_1040 (by decide) ?_
  refine W.widen (k := cells + 1) (n := slots + 6) (by omega) (by omega) ?_
  exact kk ov fr tf len sc cur tx f cnt rf rc sf sn z g0 g1 g2 g3 t0 t1 t2 t3 sk pt pg pf pe 1 ta yr ys yo yf ye kf kc rv cv bv _ _ ls (hI) hP hD hS (lv_sub hl [2, 3, 4, 5, 6] rfl)
set_option maxHeartbeats 4000000 in
set_option maxRecDepth 100000 in
theorem v_productByTable_ok {p : Program} {l : Launch} {e : Env} {s : State} {m : MethodId} {below : List Frame} {meth : Method} {c : Code} {b L : Nat} {xs : Nat → Int32} {D : va_G} {cY : Nat → ClassId} {A : Nat → Prop} {eS : Nat → Nat} {eO : Nat} {Q : State → Prop} {aa sa bp : Nat → Nat} (F : law_F p l e s m meth c b L xs D cY A eS eO bp) {ov : Nat → Int64} {fr : Nat} {tf : Nat → Nat} {len : Nat} {sc : Nat} {cur : Nat} {tx : Nat → Nat} {f : Nat → Nat} {cnt : Nat} {rf : Nat → Nat} {rc : Nat} {sf : Nat → Nat} {sn : Nat} {z : Nat} {g0 : Nat → Nat} {g1 : Nat → Nat} {g2 : Nat → Nat} {g3 : Nat → Nat} {t0 : Nat} {t1 : Nat} {t2 : Nat} {t3 : Nat} {sk : Nat} {pt : Nat → Int32} {pg : Nat → Int32} {pf : Nat → Int32} {pe : Nat → Int32} {th : Nat} {ta : Nat} {yr : Int32} {ys : Int32} {yo : Int32} {yf : Int32} {ye : Int32} {kf : Nat → Nat} {kc : Nat} {rv : Nat → Nat} {cv : Nat → Nat} {bv : Nat → Nat} {i : Nat} (hi : i + 2 < L) {H : Heap} {locs : List Loc} {ls : Array Slot} {cells slots : Nat} (hcl : cells + 1 ≤ room_1.cells) (hsl : slots + 6 ≤ room_1.slots) (x y : Nat) (hxx : x < 16) (hyy : y < 16) (hv1 : xs (i + 1) = nI x) (hv2 : xs (i + 2) = nI y)
    (hI : law_I fr tf len tx f rf sf z g0 g1 g2 g3 t0 t1 t2 t3 sk rv) (hP : va_P D vwCl (law_w cY aa sa bp ov fr tf len sc cur tx f cnt rf rc sf sn z g0 g1 g2 g3 t0 t1 t2 t3 sk pt pg pf pe th ta yr ys yo yf ye kf kc rv cv bv f cnt sf sn z sk len tx) H) (hD : va_D A (law_w cY aa sa bp ov fr tf len sc cur tx f cnt rf rc sf sn z g0 g1 g2 g3 t0 t1 t2 t3 sk pt pg pf pe th ta yr ys yo yf ye kf kc rv cv bv f cnt sf sn z sk len tx)) (hS : va_S A s.heap H locs) (hl : lv_has ls 7 [(0, .ref b), (1, .ref (aa 1)), (2, .ref (aa 25)), (3, .ref (aa 0)), (4, .int (nI i))]) (kk : law_K p l e s m below meth c b D cY A Q aa sa bp i (cells + 1) (slots + 6)) :
    W p l e room_1 s m #[.ref b] below meth c H locs cells slots Q (F0 m 975 ls []) := by
  obtain ⟨C0, hE, hX, hbl, hbA, hL, hB, hfl⟩ := id F
  obtain ⟨hx, hb, hr, hml, hts, hown, hlocks, hK, hA⟩ := id C0
  obtain ⟨⟨hf8, hf16⟩, hrf8, ⟨hsf8, hsf16⟩, ⟨⟨hg0, hg0b⟩, ⟨hg1, hg1b⟩, ⟨hg2, hg2b⟩, ⟨hg3, hg3b⟩⟩, hz4, ⟨hfr, htf⟩, ⟨hlen, htx⟩, hsk, hh, hrec, hH⟩ := id hI
  refine lv_aload_n hx hb dL_law_975 rfl (lv_at hl 1 rfl) ?_
  refine lv_aload_n hx hb dL_law_976 rfl (lv_at hl 0 rfl) ?_
  refine lv_iload hx hb dL_law_977 (lv_at hl 4 rfl) ?_
  refine lv_iconst (v := nI 1) hx hb dL_law_979 (by decide) ?_
  refine lv_iadd hx hb dL_law_980 ?_
  refine lv_topi (nm_r (nI_add _ _) ?_)
  refine va_sld hx hb hX hbl hbA hS (i := nI (i + 1)) (m_in (n := i + 1) (by omega) (by omega)) dL_law_981 ?_
  refine lv_topi (nm_r (show _ = nI x from by rw [nI_clamp (by omega)]; exact hv1) ?_)
  refine lv_aload_n hx hb dL_law_982 rfl (lv_at hl 0 rfl) ?_
  refine lv_iload hx hb dL_law_983 (lv_at hl 4 rfl) ?_
  refine lv_iconst (v := nI 2) hx hb dL_law_985 (by decide) ?_
  refine lv_iadd hx hb dL_law_986 ?_
  refine lv_topi (nm_r (nI_add _ _) ?_)
  refine va_sld hx hb hX hbl hbA hS (i := nI (i + 2)) (m_in (n := i + 2) (by omega) (by omega)) dL_law_987 ?_
  refine lv_topi (nm_r (show _ = nI y from by rw [nI_clamp (by omega)]; exact hv2) ?_)
  refine lv_aload_n hx hb dL_law_988 rfl (lv_at hl 3 rfl) ?_
  refine m_callTji (As := [.ref (aa 1), .int (nI x), .int (nI y), .ref (aa 0)]) (rest := []) (wr := ([((aa 2), .inr (2, [.ref (aa 9)])), ((aa 9), .inl (cY 0, 256, .inl (m_nf bp))), ((aa 4), .inr (3, [.ref (aa 11), .ref (aa 12), .int (nI len), .int (nI sc), .int (nI cur)])), ((aa 11), .inl (cY 1, 60, .inl (m_nf tx))), ((aa 12), .inl (cY 4, 15, .inr (.inr (.inr (.inr (m_sa sa)))))), ((aa 5), .inr (4, [.ref (aa 13), .int (nI cnt)])), ((aa 13), .inl (cY 0, 8, .inl (m_nf f))), ((aa 6), .inr (4, [.ref (aa 14), .int (nI rc)])), ((aa 14), .inl (cY 0, 8, .inl (m_nf rf))), ((aa 7), .inr (4, [.ref (aa 15), .int (nI sn)])), ((aa 15), .inl (cY 0, 8, .inl (m_nf sf))), ((aa 8), .inr (0, [.ref (aa 16), .int (nI z)])), ((aa 16), .inl (cY 3, 4, .inr (.inr (.inr (.inr (m_k4 (aa 17) (aa 18) (aa 19) (aa 20))))))), ((aa 17), .inr (4, [.ref (aa 21), .int (nI t0)])), ((aa 21), .inl (cY 0, 8, .inl (m_nf g0))), ((aa 18), .inr (4, [.ref (aa 22), .int (nI t1)])), ((aa 22), .inl (cY 0, 8, .inl (m_nf g1))), ((aa 19), .inr (4, [.ref (aa 23), .int (nI t2)])), ((aa 23), .inl (cY 0, 8, .inl (m_nf g2))), ((aa 20), .inr (4, [.ref (aa 24), .int (nI t3)])), ((aa 24), .inl (cY 0, 8, .inl (m_nf g3))), ((aa 25), .inr (7, [.ref (aa 26), .ref (aa 27), .ref (aa 28), .int (nI z), .ref (aa 29), .int (nI sk), .int (nI th), .ref (aa 30), .int (nI len), .int (nI ta), .int yr, .int ys, .int yo, .int yf, .int ye, .ref (aa 31), .ref (aa 32)])), ((aa 26), .inl (cY 0, 9, .inl (m_nf (m_all f cnt)))), ((aa 27), .inl (cY 0, 9, .inl (m_nf (m_all kf kc)))), ((aa 29), .inl (cY 0, 9, .inl (m_nf (m_all sf sn)))), ((aa 28), .inl (cY 0, 36, .inl (m_nf rv))), ((aa 30), .inl (cY 0, 60, .inl (m_nf tx))), ((aa 31), .inl (cY 0, 16, .inl (m_nf cv))), ((aa 32), .inl (cY 0, 16, .inl (m_nf bv)))] ++ m_pool sa pt pg pf pe)) C0 hl hP hD hS (c_L_productByTable_ok l D cY (aa 1) (aa 2) (aa 3) (aa 4) (aa 5) (aa 6) (aa 7) (aa 8) sk (aa 10) fr tf x y (aa 0) ov (by first | assumption | omega) (by first | assumption | omega) (by first | assumption | omega) (by first | assumption | omega)) (vx_cwSW 4 hts gL_law_L_productByTable rfl rfl rfl (by decide +kernel) ⟨Nat.le_of_ble_eq_true rfl, Nat.le_of_ble_eq_true rfl⟩) dL_law_989 [0, 1, 4, 5] [2, 3, 6, 7, 8, 9, 10, 11, 12, 13, 14, 15, 16, 17, 18, 19, 20, 21, 22, 23, 24, 25, 26, 27, 28, 29, 30, 31, 32, 33, 34, 35, 36, 37, 38, 39, 40, 41, 42, 43, 44, 45, 46, 47] rfl rfl (by decide) (by decide) (by decide) rfl (Nat.le_of_ble_eq_true rfl) (by omega) (by omega) (fun _ => rfl) (fun r2 u H1 locs hw hP hD hS => ?_)
  obtain ⟨fr9_3, tf9_4⟩ := u
  try dsimp only at hw
  obtain ⟨rfl, hq5, hq6⟩ := hw
  have hP : va_P D vwCl (law_w cY aa sa bp (vp_updL ov 0 (Int32.toInt64 (nI (nm x y)))) fr9_3 tf9_4 len sc cur tx f cnt rf rc sf sn z g0 g1 g2 g3 t0 t1 t2 t3 sk pt pg pf pe th ta yr ys yo yf ye kf kc rv cv bv f cnt sf sn z sk len tx) H1 := hP.sub (ws' := law_w cY aa sa bp (vp_updL ov 0 (Int32.toInt64 (nI (nm x y)))) fr9_3 tf9_4 len sc cur tx f cnt rf rc sf sn z g0 g1 g2 g3 t0 t1 t2 t3 sk pt pg pf pe th ta yr ys yo yf ye kf kc rv cv bv f cnt sf sn z sk len tx) [44, 45, 0, 1, 46, 47, 2, 3, 4, 5, 6, 7, 8, 9, 10, 11, 12, 13, 14, 15, 16, 17, 18, 19, 20, 21, 22, 23, 24, 25, 26, 27, 28, 29, 30, 31, 32, 33, 34, 35, 36, 37, 38, 39, 40, 41, 42, 43] rfl
  have hD : va_D A (law_w cY aa sa bp (vp_updL ov 0 (Int32.toInt64 (nI (nm x y)))) fr9_3 tf9_4 len sc cur tx f cnt rf rc sf sn z g0 g1 g2 g3 t0 t1 t2 t3 sk pt pg pf pe th ta yr ys yo yf ye kf kc rv cv bv f cnt sf sn z sk len tx) := hD.sub (ws' := law_w cY aa sa bp (vp_updL ov 0 (Int32.toInt64 (nI (nm x y)))) fr9_3 tf9_4 len sc cur tx f cnt rf rc sf sn z g0 g1 g2 g3 t0 t1 t2 t3 sk pt pg pf pe th ta yr ys yo yf ye kf kc rv cv bv f cnt sf sn z sk len tx) [44, 45, 0, 1, 46, 47, 2, 3, 4, 5, 6, 7, 8, 9, 10, 11, 12, 13, 14, 15, 16, 17, 18, 19, 20, 21, 22, 23, 24, 25, 26, 27, 28, 29, 30, 31, 32, 33, 34, 35, 36, 37, 38, 39, 40, 41, 42, 43] (by decide) rfl
  refine lv_istore (lv' := [(5, .int (nI 0)), (0, .ref b), (1, .ref (aa 1)), (2, .ref (aa 25)), (3, .ref (aa 0)), (4, .int (nI i))]) hx hb dL_law_992 hl (by decide) rfl (fun ls hl => ?_)
  refine lv_aload_n hx hb dL_law_994 rfl (lv_at hl 3 rfl) ?_
  refine lv_aload_n hx hb dL_law_995 rfl (lv_at hl 1 rfl) ?_
  refine lv_iload hx hb dL_law_996 (lv_at hl 5 rfl) ?_
  refine lv_iconst (v := nI 1) hx hb dL_law_998 (by decide) ?_
  refine lv_iadd hx hb dL_law_999 ?_
  refine lv_topi (nm_r (nI_add _ _) ?_)
  refine va_sld hx hb hX hbl hbA hS (i := nI (i + 1)) (m_in (n := i + 1) (by omega) (by omega)) dL_law_1000 ?_
  refine lv_topi (nm_r (show _ = nI x from by rw [nI_clamp (by omega)]; exact hv1) ?_)
  refine lv_aload_n hx hb dL_law_1001 rfl (lv_at hl 1 rfl) ?_
  refine lv_iload hx hb dL_law_1002 (lv_at hl 5 rfl) ?_
  refine lv_iconst (v := nI 2) hx hb dL_law_1004 (by decide) ?_
  refine lv_iadd hx hb dL_law_1005 ?_
  refine lv_topi (nm_r (nI_add _ _) ?_)
  refine va_sld hx hb hX hbl hbA hS (i := nI (i + 2)) (m_in (n := i + 2) (by omega) (by omega)) dL_law_1006 ?_
  refine lv_topi (nm_r (show _ = nI y from by rw [nI_clamp (by omega)]; exact hv2) ?_)
  refine m_callVi (As := [.int (nI x), .int (nI y)]) (rest := []) C0 hl hP hD hS (c_X7_productByTable_ok l D cY (aa 25) (aa 26) (aa 27) (aa 28) (aa 29) (aa 30) (aa 31) (aa 32) z sk th len ta yr ys yo yf ye x y (by first | assumption | omega) (by first | assumption | omega)) (cwV 2 hts gL_law_X7_productByTable rfl rfl rfl (by decide +kernel) ⟨Nat.le_of_ble_eq_true rfl, Nat.le_of_ble_eq_true rfl⟩) dL_law_1007 [25] rfl rfl 25 rfl rfl rfl rfl (Nat.le_of_ble_eq_true rfl) (by omega) (by omega) (fun _ => rfl) (fun r8 u H7 locs hw hP hD hS => ?_)
  try dsimp only at hw
  obtain rfl := hw
  have hP : va_P D vwCl (law_w cY aa sa bp (vp_updL ov 0 (Int32.toInt64 (nI (nm x y)))) fr9_3 tf9_4 len sc cur tx f cnt rf rc sf sn z g0 g1 g2 g3 t0 t1 t2 t3 sk pt pg pf pe 0 ta yr ys yo yf ye kf kc rv cv bv f cnt sf sn z sk len tx) H7 := hP
  have hD : va_D A (law_w cY aa sa bp (vp_updL ov 0 (Int32.toInt64 (nI (nm x y)))) fr9_3 tf9_4 len sc cur tx f cnt rf rc sf sn z g0 g1 g2 g3 t0 t1 t2 t3 sk pt pg pf pe 0 ta yr ys yo yf ye kf kc rv cv bv f cnt sf sn z sk len tx) := hD
  refine lv_istore (lv' := [(6, .int (nI (nm x y))), (5, .int (nI 0)), (0, .ref b), (1, .ref (aa 1)), (2, .ref (aa 25)), (3, .ref (aa 0)), (4, .int (nI i))]) hx hb dL_law_1010 hl (by decide) rfl (fun ls hl => ?_)
  refine lv_aload_n hx hb dL_law_1012 rfl (lv_at hl 4 rfl) ?_
  refine m_callVi (As := []) (rest := []) C0 hl hP hD hS (c_X7_thrown l D cY (aa 25) (aa 26) (aa 27) (aa 28) (aa 29) (aa 30) (aa 31) (aa 32) z sk 0 len ta yr ys yo yf ye ) (cwV 0 hts gL_law_X7_thrown rfl rfl rfl (by decide +kernel) ⟨Nat.le_of_ble_eq_true rfl, Nat.le_of_ble_eq_true rfl⟩) dL_law_1013 [25] rfl rfl 25 rfl rfl rfl rfl (Nat.le_of_ble_eq_true rfl) (by omega) (by omega) (fun _ => rfl) (fun r10 u H9 locs hw hP hD hS => ?_)
  try dsimp only at hw
  obtain rfl := hw
  have hP : va_P D vwCl (law_w cY aa sa bp (vp_updL ov 0 (Int32.toInt64 (nI (nm x y)))) fr9_3 tf9_4 len sc cur tx f cnt rf rc sf sn z g0 g1 g2 g3 t0 t1 t2 t3 sk pt pg pf pe 0 ta yr ys yo yf ye kf kc rv cv bv f cnt sf sn z sk len tx) H9 := hP
  have hD : va_D A (law_w cY aa sa bp (vp_updL ov 0 (Int32.toInt64 (nI (nm x y)))) fr9_3 tf9_4 len sc cur tx f cnt rf rc sf sn z g0 g1 g2 g3 t0 t1 t2 t3 sk pt pg pf pe 0 ta yr ys yo yf ye kf kc rv cv bv f cnt sf sn z sk len tx) := hD
  refine lv_iload hx hb dL_law_1016 (lv_at hl 1 rfl) ?_
  refine lv_icmp_eq (tgt := 1023) hx hb dL_law_1018 (by decide) (fun c1018 => ?_) (fun c1018 => ?_)
  rotate_left
  · exact absurd rfl c1018
  refine lv_iload hx hb dL_law_1023 (lv_at hl 1 rfl) ?_
  refine lv_if_ne (tgt := 1040) hx hb dL_law_1025 (by decide) (fun c1025 => ?_) (fun c1025 => ?_)
  · exact absurd rfl c1025
  refine lv_aload_n hx hb dL_law_1028 rfl (lv_at hl 5 rfl) ?_
  refine lv_iconst (v := nI 0) hx hb dL_law_1029 (by decide) ?_
  refine va_lald hx hb hK hP 0 2 rfl rfl (m_in (n := 0) (by decide) (by decide)) dL_law_1030 ?_
  refine lv_topl (nm_r (show _ = Int32.toInt64 (nI (nm x y)) from by rw [nI_clamp (by decide)]; exact if_pos rfl) ?_)
  refine lv_iload hx hb dL_law_1031 (lv_at hl 0 rfl) ?_
  refine lv_i2l (v := Int32.toInt64 (nI (nm x y))) hx hb dL_law_1033 rfl ?_
  refine W.lcmp hx hb dL_law_1034 ?_
  refine lv_topi (nm_r (m_cmp_self _) ?_)
  refine lv_if_eq (tgt := 1040) hx hb dL_law_1035 (by decide) (fun c1035 => ?_) (fun c1035 => ?_)
  rotate_left
  · exact absurd rfl c1035
  refine lv_goto (tgt := 1541) hx hb dL_law_1040 (by decide) ?_
  refine W.widen (k := cells + 1) (n := slots + 6) (by omega) (by omega) ?_
  exact kk (vp_updL ov 0 (Int32.toInt64 (nI (nm x y)))) fr9_3 tf9_4 len sc cur tx f cnt rf rc sf sn z g0 g1 g2 g3 t0 t1 t2 t3 sk pt pg pf pe 0 ta yr ys yo yf ye kf kc rv cv bv _ _ ls (⟨⟨hf8, hf16⟩, hrf8, ⟨hsf8, hsf16⟩, hI.2.2.2.1, hz4, ⟨hq5, hq6⟩, ⟨hlen, htx⟩, hsk, hh, hrec, hH⟩) hP hD hS (lv_sub hl [2, 3, 4, 5, 6] rfl)
set_option maxHeartbeats 4000000 in
set_option maxRecDepth 100000 in
theorem v_quotient_x1 {p : Program} {l : Launch} {e : Env} {s : State} {m : MethodId} {below : List Frame} {meth : Method} {c : Code} {b L : Nat} {xs : Nat → Int32} {D : va_G} {cY : Nat → ClassId} {A : Nat → Prop} {eS : Nat → Nat} {eO : Nat} {Q : State → Prop} {aa sa bp : Nat → Nat} (F : law_F p l e s m meth c b L xs D cY A eS eO bp) {ov : Nat → Int64} {fr : Nat} {tf : Nat → Nat} {len : Nat} {sc : Nat} {cur : Nat} {tx : Nat → Nat} {f : Nat → Nat} {cnt : Nat} {rf : Nat → Nat} {rc : Nat} {sf : Nat → Nat} {sn : Nat} {z : Nat} {g0 : Nat → Nat} {g1 : Nat → Nat} {g2 : Nat → Nat} {g3 : Nat → Nat} {t0 : Nat} {t1 : Nat} {t2 : Nat} {t3 : Nat} {sk : Nat} {pt : Nat → Int32} {pg : Nat → Int32} {pf : Nat → Int32} {pe : Nat → Int32} {th : Nat} {ta : Nat} {yr : Int32} {ys : Int32} {yo : Int32} {yf : Int32} {ye : Int32} {kf : Nat → Nat} {kc : Nat} {rv : Nat → Nat} {cv : Nat → Nat} {bv : Nat → Nat} {i : Nat} (hi : i + 2 < L) {H : Heap} {locs : List Loc} {ls : Array Slot} {cells slots : Nat} (hcl : cells + 1 ≤ room_1.cells) (hsl : slots + 6 ≤ room_1.slots) (x y : Int32) (hn : ¬ (m_isN x ∧ m_isN y)) (hv1 : xs (i + 1) = x) (hv2 : xs (i + 2) = y)
    (hI : law_I fr tf len tx f rf sf z g0 g1 g2 g3 t0 t1 t2 t3 sk rv) (hP : va_P D vwCl (law_w cY aa sa bp ov fr tf len sc cur tx f cnt rf rc sf sn z g0 g1 g2 g3 t0 t1 t2 t3 sk pt pg pf pe th ta yr ys yo yf ye kf kc rv cv bv f cnt sf sn z sk len tx) H) (hD : va_D A (law_w cY aa sa bp ov fr tf len sc cur tx f cnt rf rc sf sn z g0 g1 g2 g3 t0 t1 t2 t3 sk pt pg pf pe th ta yr ys yo yf ye kf kc rv cv bv f cnt sf sn z sk len tx)) (hS : va_S A s.heap H locs) (hl : lv_has ls 7 [(0, .ref b), (1, .ref (aa 1)), (2, .ref (aa 25)), (3, .ref (aa 0)), (4, .int (nI i))]) (kk : law_K p l e s m below meth c b D cY A Q aa sa bp i (cells + 1) (slots + 6)) :
    W p l e room_1 s m #[.ref b] below meth c H locs cells slots Q (F0 m 1043 ls []) := by
  obtain ⟨C0, hE, hX, hbl, hbA, hL, hB, hfl⟩ := id F
  obtain ⟨hx, hb, hr, hml, hts, hown, hlocks, hK, hA⟩ := id C0
  obtain ⟨⟨hf8, hf16⟩, hrf8, ⟨hsf8, hsf16⟩, ⟨⟨hg0, hg0b⟩, ⟨hg1, hg1b⟩, ⟨hg2, hg2b⟩, ⟨hg3, hg3b⟩⟩, hz4, ⟨hfr, htf⟩, ⟨hlen, htx⟩, hsk, hh, hrec, hH⟩ := id hI
  refine lv_aload_n hx hb dL_law_1043 rfl (lv_at hl 1 rfl) ?_
  refine lv_aload_n hx hb dL_law_1044 rfl (lv_at hl 0 rfl) ?_
  refine lv_iload hx hb dL_law_1045 (lv_at hl 4 rfl) ?_
  refine lv_iconst (v := nI 1) hx hb dL_law_1047 (by decide) ?_
  refine lv_iadd hx hb dL_law_1048 ?_
  refine lv_topi (nm_r (nI_add _ _) ?_)
  refine va_sld hx hb hX hbl hbA hS (i := nI (i + 1)) (m_in (n := i + 1) (by omega) (by omega)) dL_law_1049 ?_
  refine lv_topi (nm_r (show _ = x from by rw [nI_clamp (by omega)]; exact hv1) ?_)
  refine lv_aload_n hx hb dL_law_1050 rfl (lv_at hl 0 rfl) ?_
  refine lv_iload hx hb dL_law_1051 (lv_at hl 4 rfl) ?_
  refine lv_iconst (v := nI 2) hx hb dL_law_1053 (by decide) ?_
  refine lv_iadd hx hb dL_law_1054 ?_
  refine lv_topi (nm_r (nI_add _ _) ?_)
  refine va_sld hx hb hX hbl hbA hS (i := nI (i + 2)) (m_in (n := i + 2) (by omega) (by omega)) dL_law_1055 ?_
  refine lv_topi (nm_r (show _ = y from by rw [nI_clamp (by omega)]; exact hv2) ?_)
  refine lv_aload_n hx hb dL_law_1056 rfl (lv_at hl 3 rfl) ?_
  refine m_callTe (As := [.ref (aa 1), .int x, .int y, .ref (aa 0)]) (rest := []) C0 hE hl hP hD hS (c_L_quotient_x1 l hfl D cY eS eO (aa 1) (aa 2) (aa 3) (aa 4) (aa 5) (aa 6) (aa 7) (aa 8) sk x y (aa 0) ov (by first | assumption | omega)) (vx_cwSW 4 hts gL_law_L_quotient rfl rfl rfl (by decide +kernel) ⟨Nat.le_of_ble_eq_true rfl, Nat.le_of_ble_eq_true rfl⟩) dL_law_1057 [0, 1] rfl rfl rfl (Nat.le_of_ble_eq_true rfl) (by omega) (by omega) (fun _ => rfl) (fun r2 u H1 locs hw hP hD hS => ?_)
  try dsimp only at hw
  obtain rfl := hw
  have hP : va_P D vwCl (law_w cY aa sa bp ov fr tf len sc cur tx f cnt rf rc sf sn z g0 g1 g2 g3 t0 t1 t2 t3 sk pt pg pf pe th ta yr ys yo yf ye kf kc rv cv bv f cnt sf sn z sk len tx) H1 := hP
  have hD : va_D A (law_w cY aa sa bp ov fr tf len sc cur tx f cnt rf rc sf sn z g0 g1 g2 g3 t0 t1 t2 t3 sk pt pg pf pe th ta yr ys yo yf ye kf kc rv cv bv f cnt sf sn z sk len tx) := hD
  refine lv_istore (lv' := [(5, .int (nI 1)), (0, .ref b), (1, .ref (aa 1)), (2, .ref (aa 25)), (3, .ref (aa 0)), (4, .int (nI i))]) hx hb dL_law_1060 hl (by decide) rfl (fun ls hl => ?_)
  refine lv_aload_n hx hb dL_law_1062 rfl (lv_at hl 3 rfl) ?_
  refine lv_aload_n hx hb dL_law_1063 rfl (lv_at hl 1 rfl) ?_
  refine lv_iload hx hb dL_law_1064 (lv_at hl 5 rfl) ?_
  refine lv_iconst (v := nI 1) hx hb dL_law_1066 (by decide) ?_
  refine lv_iadd hx hb dL_law_1067 ?_
  refine lv_topi (nm_r (nI_add _ _) ?_)
  refine va_sld hx hb hX hbl hbA hS (i := nI (i + 1)) (m_in (n := i + 1) (by omega) (by omega)) dL_law_1068 ?_
  refine lv_topi (nm_r (show _ = x from by rw [nI_clamp (by omega)]; exact hv1) ?_)
  refine lv_aload_n hx hb dL_law_1069 rfl (lv_at hl 1 rfl) ?_
  refine lv_iload hx hb dL_law_1070 (lv_at hl 5 rfl) ?_
  refine lv_iconst (v := nI 2) hx hb dL_law_1072 (by decide) ?_
  refine lv_iadd hx hb dL_law_1073 ?_
  refine lv_topi (nm_r (nI_add _ _) ?_)
  refine va_sld hx hb hX hbl hbA hS (i := nI (i + 2)) (m_in (n := i + 2) (by omega) (by omega)) dL_law_1074 ?_
  refine lv_topi (nm_r (show _ = y from by rw [nI_clamp (by omega)]; exact hv2) ?_)
  refine m_callVi (As := [.int x, .int y]) (rest := []) C0 hl hP hD hS (c_X7_quotient_f1 l D cY (aa 25) (aa 26) (aa 27) (aa 28) (aa 29) (aa 30) (aa 31) (aa 32) z sk th len ta yr ys yo yf ye x y (by first | assumption | omega)) (cwV 2 hts gL_law_X7_quotient rfl rfl rfl (by decide +kernel) ⟨Nat.le_of_ble_eq_true rfl, Nat.le_of_ble_eq_true rfl⟩) dL_law_1075 [25] rfl rfl 25 rfl rfl rfl rfl (Nat.le_of_ble_eq_true rfl) (by omega) (by omega) (fun _ => rfl) (fun r4 u H3 locs hw hP hD hS => ?_)
  try dsimp only at hw
  obtain rfl := hw
  have hP : va_P D vwCl (law_w cY aa sa bp ov fr tf len sc cur tx f cnt rf rc sf sn z g0 g1 g2 g3 t0 t1 t2 t3 sk pt pg pf pe 1 ta yr ys yo yf ye kf kc rv cv bv f cnt sf sn z sk len tx) H3 := hP
  have hD : va_D A (law_w cY aa sa bp ov fr tf len sc cur tx f cnt rf rc sf sn z g0 g1 g2 g3 t0 t1 t2 t3 sk pt pg pf pe 1 ta yr ys yo yf ye kf kc rv cv bv f cnt sf sn z sk len tx) := hD
  refine lv_istore (lv' := [(6, .int (nI 0)), (5, .int (nI 1)), (0, .ref b), (1, .ref (aa 1)), (2, .ref (aa 25)), (3, .ref (aa 0)), (4, .int (nI i))]) hx hb dL_law_1078 hl (by decide) rfl (fun ls hl => ?_)
  refine lv_aload_n hx hb dL_law_1080 rfl (lv_at hl 4 rfl) ?_
  refine m_callVi (As := []) (rest := []) C0 hl hP hD hS (c_X7_thrown l D cY (aa 25) (aa 26) (aa 27) (aa 28) (aa 29) (aa 30) (aa 31) (aa 32) z sk 1 len ta yr ys yo yf ye ) (cwV 0 hts gL_law_X7_thrown rfl rfl rfl (by decide +kernel) ⟨Nat.le_of_ble_eq_true rfl, Nat.le_of_ble_eq_true rfl⟩) dL_law_1081 [25] rfl rfl 25 rfl rfl rfl rfl (Nat.le_of_ble_eq_true rfl) (by omega) (by omega) (fun _ => rfl) (fun r6 u H5 locs hw hP hD hS => ?_)
  try dsimp only at hw
  obtain rfl := hw
  have hP : va_P D vwCl (law_w cY aa sa bp ov fr tf len sc cur tx f cnt rf rc sf sn z g0 g1 g2 g3 t0 t1 t2 t3 sk pt pg pf pe 1 ta yr ys yo yf ye kf kc rv cv bv f cnt sf sn z sk len tx) H5 := hP
  have hD : va_D A (law_w cY aa sa bp ov fr tf len sc cur tx f cnt rf rc sf sn z g0 g1 g2 g3 t0 t1 t2 t3 sk pt pg pf pe 1 ta yr ys yo yf ye kf kc rv cv bv f cnt sf sn z sk len tx) := hD
  refine lv_iload hx hb dL_law_1084 (lv_at hl 1 rfl) ?_
  refine lv_icmp_eq (tgt := 1091) hx hb dL_law_1086 (by decide) (fun c1086 => ?_) (fun c1086 => ?_)
  rotate_left
  · exact absurd rfl c1086
  refine lv_iload hx hb dL_law_1091 (lv_at hl 1 rfl) ?_
  refine lv_if_ne (tgt := 1108) hx hb dL_law_1093 (by decide) (fun c1093 => ?_) (fun c1093 => ?_)
  rotate_left
  · exact absurd c1093 (by decide)
  refine lv_goto (tgt := 1541) hx hb dL_law_1108 (by decide) ?_
  refine W.widen (k := cells + 1) (n := slots + 6) (by omega) (by omega) ?_
  exact kk ov fr tf len sc cur tx f cnt rf rc sf sn z g0 g1 g2 g3 t0 t1 t2 t3 sk pt pg pf pe 1 ta yr ys yo yf ye kf kc rv cv bv _ _ ls (hI) hP hD hS (lv_sub hl [2, 3, 4, 5, 6] rfl)
set_option maxHeartbeats 4000000 in
set_option maxRecDepth 100000 in
theorem v_quotient_ok {p : Program} {l : Launch} {e : Env} {s : State} {m : MethodId} {below : List Frame} {meth : Method} {c : Code} {b L : Nat} {xs : Nat → Int32} {D : va_G} {cY : Nat → ClassId} {A : Nat → Prop} {eS : Nat → Nat} {eO : Nat} {Q : State → Prop} {aa sa bp : Nat → Nat} (F : law_F p l e s m meth c b L xs D cY A eS eO bp) {ov : Nat → Int64} {fr : Nat} {tf : Nat → Nat} {len : Nat} {sc : Nat} {cur : Nat} {tx : Nat → Nat} {f : Nat → Nat} {cnt : Nat} {rf : Nat → Nat} {rc : Nat} {sf : Nat → Nat} {sn : Nat} {z : Nat} {g0 : Nat → Nat} {g1 : Nat → Nat} {g2 : Nat → Nat} {g3 : Nat → Nat} {t0 : Nat} {t1 : Nat} {t2 : Nat} {t3 : Nat} {sk : Nat} {pt : Nat → Int32} {pg : Nat → Int32} {pf : Nat → Int32} {pe : Nat → Int32} {th : Nat} {ta : Nat} {yr : Int32} {ys : Int32} {yo : Int32} {yf : Int32} {ye : Int32} {kf : Nat → Nat} {kc : Nat} {rv : Nat → Nat} {cv : Nat → Nat} {bv : Nat → Nat} {i : Nat} (hi : i + 2 < L) {H : Heap} {locs : List Loc} {ls : Array Slot} {cells slots : Nat} (hcl : cells + 1 ≤ room_1.cells) (hsl : slots + 6 ≤ room_1.slots) (x y : Nat) (hxx : x < 65536) (hyy : y < 65536) (hv1 : xs (i + 1) = nI x) (hv2 : xs (i + 2) = nI y)
    (hI : law_I fr tf len tx f rf sf z g0 g1 g2 g3 t0 t1 t2 t3 sk rv) (hP : va_P D vwCl (law_w cY aa sa bp ov fr tf len sc cur tx f cnt rf rc sf sn z g0 g1 g2 g3 t0 t1 t2 t3 sk pt pg pf pe th ta yr ys yo yf ye kf kc rv cv bv f cnt sf sn z sk len tx) H) (hD : va_D A (law_w cY aa sa bp ov fr tf len sc cur tx f cnt rf rc sf sn z g0 g1 g2 g3 t0 t1 t2 t3 sk pt pg pf pe th ta yr ys yo yf ye kf kc rv cv bv f cnt sf sn z sk len tx)) (hS : va_S A s.heap H locs) (hl : lv_has ls 7 [(0, .ref b), (1, .ref (aa 1)), (2, .ref (aa 25)), (3, .ref (aa 0)), (4, .int (nI i))]) (kk : law_K p l e s m below meth c b D cY A Q aa sa bp i (cells + 1) (slots + 6)) :
    W p l e room_1 s m #[.ref b] below meth c H locs cells slots Q (F0 m 1043 ls []) := by
  obtain ⟨C0, hE, hX, hbl, hbA, hL, hB, hfl⟩ := id F
  obtain ⟨hx, hb, hr, hml, hts, hown, hlocks, hK, hA⟩ := id C0
  obtain ⟨⟨hf8, hf16⟩, hrf8, ⟨hsf8, hsf16⟩, ⟨⟨hg0, hg0b⟩, ⟨hg1, hg1b⟩, ⟨hg2, hg2b⟩, ⟨hg3, hg3b⟩⟩, hz4, ⟨hfr, htf⟩, ⟨hlen, htx⟩, hsk, hh, hrec, hH⟩ := id hI
  refine lv_aload_n hx hb dL_law_1043 rfl (lv_at hl 1 rfl) ?_
  refine lv_aload_n hx hb dL_law_1044 rfl (lv_at hl 0 rfl) ?_
  refine lv_iload hx hb dL_law_1045 (lv_at hl 4 rfl) ?_
  refine lv_iconst (v := nI 1) hx hb dL_law_1047 (by decide) ?_
  refine lv_iadd hx hb dL_law_1048 ?_
  refine lv_topi (nm_r (nI_add _ _) ?_)
  refine va_sld hx hb hX hbl hbA hS (i := nI (i + 1)) (m_in (n := i + 1) (by omega) (by omega)) dL_law_1049 ?_
  refine lv_topi (nm_r (show _ = nI x from by rw [nI_clamp (by omega)]; exact hv1) ?_)
  refine lv_aload_n hx hb dL_law_1050 rfl (lv_at hl 0 rfl) ?_
  refine lv_iload hx hb dL_law_1051 (lv_at hl 4 rfl) ?_
  refine lv_iconst (v := nI 2) hx hb dL_law_1053 (by decide) ?_
  refine lv_iadd hx hb dL_law_1054 ?_
  refine lv_topi (nm_r (nI_add _ _) ?_)
  refine va_sld hx hb hX hbl hbA hS (i := nI (i + 2)) (m_in (n := i + 2) (by omega) (by omega)) dL_law_1055 ?_
  refine lv_topi (nm_r (show _ = nI y from by rw [nI_clamp (by omega)]; exact hv2) ?_)
  refine lv_aload_n hx hb dL_law_1056 rfl (lv_at hl 3 rfl) ?_
  refine m_callTji (As := [.ref (aa 1), .int (nI x), .int (nI y), .ref (aa 0)]) (rest := []) (wr := ([((aa 3), .inr (1, [.ref (aa 10), .int (nI fr)])), ((aa 10), .inl (cY 0, 256, .inl (m_nf tf))), ((aa 4), .inr (3, [.ref (aa 11), .ref (aa 12), .int (nI len), .int (nI sc), .int (nI cur)])), ((aa 11), .inl (cY 1, 60, .inl (m_nf tx))), ((aa 12), .inl (cY 4, 15, .inr (.inr (.inr (.inr (m_sa sa)))))), ((aa 5), .inr (4, [.ref (aa 13), .int (nI cnt)])), ((aa 13), .inl (cY 0, 8, .inl (m_nf f))), ((aa 6), .inr (4, [.ref (aa 14), .int (nI rc)])), ((aa 14), .inl (cY 0, 8, .inl (m_nf rf))), ((aa 7), .inr (4, [.ref (aa 15), .int (nI sn)])), ((aa 15), .inl (cY 0, 8, .inl (m_nf sf))), ((aa 8), .inr (0, [.ref (aa 16), .int (nI z)])), ((aa 16), .inl (cY 3, 4, .inr (.inr (.inr (.inr (m_k4 (aa 17) (aa 18) (aa 19) (aa 20))))))), ((aa 17), .inr (4, [.ref (aa 21), .int (nI t0)])), ((aa 21), .inl (cY 0, 8, .inl (m_nf g0))), ((aa 18), .inr (4, [.ref (aa 22), .int (nI t1)])), ((aa 22), .inl (cY 0, 8, .inl (m_nf g1))), ((aa 19), .inr (4, [.ref (aa 23), .int (nI t2)])), ((aa 23), .inl (cY 0, 8, .inl (m_nf g2))), ((aa 20), .inr (4, [.ref (aa 24), .int (nI t3)])), ((aa 24), .inl (cY 0, 8, .inl (m_nf g3))), ((aa 25), .inr (7, [.ref (aa 26), .ref (aa 27), .ref (aa 28), .int (nI z), .ref (aa 29), .int (nI sk), .int (nI th), .ref (aa 30), .int (nI len), .int (nI ta), .int yr, .int ys, .int yo, .int yf, .int ye, .ref (aa 31), .ref (aa 32)])), ((aa 26), .inl (cY 0, 9, .inl (m_nf (m_all f cnt)))), ((aa 27), .inl (cY 0, 9, .inl (m_nf (m_all kf kc)))), ((aa 29), .inl (cY 0, 9, .inl (m_nf (m_all sf sn)))), ((aa 28), .inl (cY 0, 36, .inl (m_nf rv))), ((aa 30), .inl (cY 0, 60, .inl (m_nf tx))), ((aa 31), .inl (cY 0, 16, .inl (m_nf cv))), ((aa 32), .inl (cY 0, 16, .inl (m_nf bv)))] ++ m_pool sa pt pg pf pe)) C0 hl hP hD hS (c_L_quotient_ok l D cY (aa 1) (aa 2) (aa 3) (aa 4) (aa 5) (aa 6) (aa 7) (aa 8) sk (aa 9) bp x y (aa 0) ov (by first | assumption | omega) (by first | assumption | omega) (by first | assumption | omega)) (vx_cwSW 4 hts gL_law_L_quotient rfl rfl rfl (by decide +kernel) ⟨Nat.le_of_ble_eq_true rfl, Nat.le_of_ble_eq_true rfl⟩) dL_law_1057 [0, 1, 2, 3] [4, 5, 6, 7, 8, 9, 10, 11, 12, 13, 14, 15, 16, 17, 18, 19, 20, 21, 22, 23, 24, 25, 26, 27, 28, 29, 30, 31, 32, 33, 34, 35, 36, 37, 38, 39, 40, 41, 42, 43, 44, 45, 46, 47] rfl rfl (by decide) (by decide) (by decide) rfl (Nat.le_of_ble_eq_true rfl) (by omega) (by omega) (fun _ => rfl) (fun r2 u H1 locs hw hP hD hS => ?_)
  try dsimp only at hw
  obtain rfl := hw
  have hP : va_P D vwCl (law_w cY aa sa bp (vp_updL ov 0 (Int32.toInt64 (n_div x y))) fr tf len sc cur tx f cnt rf rc sf sn z g0 g1 g2 g3 t0 t1 t2 t3 sk pt pg pf pe th ta yr ys yo yf ye kf kc rv cv bv f cnt sf sn z sk len tx) H1 := hP.sub (ws' := law_w cY aa sa bp (vp_updL ov 0 (Int32.toInt64 (n_div x y))) fr tf len sc cur tx f cnt rf rc sf sn z g0 g1 g2 g3 t0 t1 t2 t3 sk pt pg pf pe th ta yr ys yo yf ye kf kc rv cv bv f cnt sf sn z sk len tx) [44, 45, 46, 47, 0, 1, 2, 3, 4, 5, 6, 7, 8, 9, 10, 11, 12, 13, 14, 15, 16, 17, 18, 19, 20, 21, 22, 23, 24, 25, 26, 27, 28, 29, 30, 31, 32, 33, 34, 35, 36, 37, 38, 39, 40, 41, 42, 43] rfl
  have hD : va_D A (law_w cY aa sa bp (vp_updL ov 0 (Int32.toInt64 (n_div x y))) fr tf len sc cur tx f cnt rf rc sf sn z g0 g1 g2 g3 t0 t1 t2 t3 sk pt pg pf pe th ta yr ys yo yf ye kf kc rv cv bv f cnt sf sn z sk len tx) := hD.sub (ws' := law_w cY aa sa bp (vp_updL ov 0 (Int32.toInt64 (n_div x y))) fr tf len sc cur tx f cnt rf rc sf sn z g0 g1 g2 g3 t0 t1 t2 t3 sk pt pg pf pe th ta yr ys yo yf ye kf kc rv cv bv f cnt sf sn z sk len tx) [44, 45, 46, 47, 0, 1, 2, 3, 4, 5, 6, 7, 8, 9, 10, 11, 12, 13, 14, 15, 16, 17, 18, 19, 20, 21, 22, 23, 24, 25, 26, 27, 28, 29, 30, 31, 32, 33, 34, 35, 36, 37, 38, 39, 40, 41, 42, 43] (by decide) rfl
  refine lv_istore (lv' := [(5, .int (nI 0)), (0, .ref b), (1, .ref (aa 1)), (2, .ref (aa 25)), (3, .ref (aa 0)), (4, .int (nI i))]) hx hb dL_law_1060 hl (by decide) rfl (fun ls hl => ?_)
  refine lv_aload_n hx hb dL_law_1062 rfl (lv_at hl 3 rfl) ?_
  refine lv_aload_n hx hb dL_law_1063 rfl (lv_at hl 1 rfl) ?_
  refine lv_iload hx hb dL_law_1064 (lv_at hl 5 rfl) ?_
  refine lv_iconst (v := nI 1) hx hb dL_law_1066 (by decide) ?_
  refine lv_iadd hx hb dL_law_1067 ?_
  refine lv_topi (nm_r (nI_add _ _) ?_)
  refine va_sld hx hb hX hbl hbA hS (i := nI (i + 1)) (m_in (n := i + 1) (by omega) (by omega)) dL_law_1068 ?_
  refine lv_topi (nm_r (show _ = nI x from by rw [nI_clamp (by omega)]; exact hv1) ?_)
  refine lv_aload_n hx hb dL_law_1069 rfl (lv_at hl 1 rfl) ?_
  refine lv_iload hx hb dL_law_1070 (lv_at hl 5 rfl) ?_
  refine lv_iconst (v := nI 2) hx hb dL_law_1072 (by decide) ?_
  refine lv_iadd hx hb dL_law_1073 ?_
  refine lv_topi (nm_r (nI_add _ _) ?_)
  refine va_sld hx hb hX hbl hbA hS (i := nI (i + 2)) (m_in (n := i + 2) (by omega) (by omega)) dL_law_1074 ?_
  refine lv_topi (nm_r (show _ = nI y from by rw [nI_clamp (by omega)]; exact hv2) ?_)
  refine m_callVi (As := [.int (nI x), .int (nI y)]) (rest := []) C0 hl hP hD hS (c_X7_quotient_ok l D cY (aa 25) (aa 26) (aa 27) (aa 28) (aa 29) (aa 30) (aa 31) (aa 32) z sk th len ta yr ys yo yf ye x y (by first | assumption | omega) (by first | assumption | omega)) (cwV 2 hts gL_law_X7_quotient rfl rfl rfl (by decide +kernel) ⟨Nat.le_of_ble_eq_true rfl, Nat.le_of_ble_eq_true rfl⟩) dL_law_1075 [25] rfl rfl 25 rfl rfl rfl rfl (Nat.le_of_ble_eq_true rfl) (by omega) (by omega) (fun _ => rfl) (fun r4 u H3 locs hw hP hD hS => ?_)
  try dsimp only at hw
  obtain rfl := hw
  have hP : va_P D vwCl (law_w cY aa sa bp (vp_updL ov 0 (Int32.toInt64 (n_div x y))) fr tf len sc cur tx f cnt rf rc sf sn z g0 g1 g2 g3 t0 t1 t2 t3 sk pt pg pf pe 0 ta yr ys yo yf ye kf kc rv cv bv f cnt sf sn z sk len tx) H3 := hP
  have hD : va_D A (law_w cY aa sa bp (vp_updL ov 0 (Int32.toInt64 (n_div x y))) fr tf len sc cur tx f cnt rf rc sf sn z g0 g1 g2 g3 t0 t1 t2 t3 sk pt pg pf pe 0 ta yr ys yo yf ye kf kc rv cv bv f cnt sf sn z sk len tx) := hD
  refine lv_istore (lv' := [(6, .int (n_div x y)), (5, .int (nI 0)), (0, .ref b), (1, .ref (aa 1)), (2, .ref (aa 25)), (3, .ref (aa 0)), (4, .int (nI i))]) hx hb dL_law_1078 hl (by decide) rfl (fun ls hl => ?_)
  refine lv_aload_n hx hb dL_law_1080 rfl (lv_at hl 4 rfl) ?_
  refine m_callVi (As := []) (rest := []) C0 hl hP hD hS (c_X7_thrown l D cY (aa 25) (aa 26) (aa 27) (aa 28) (aa 29) (aa 30) (aa 31) (aa 32) z sk 0 len ta yr ys yo yf ye ) (cwV 0 hts gL_law_X7_thrown rfl rfl rfl (by decide +kernel) ⟨Nat.le_of_ble_eq_true rfl, Nat.le_of_ble_eq_true rfl⟩) dL_law_1081 [25] rfl rfl 25 rfl rfl rfl rfl (Nat.le_of_ble_eq_true rfl) (by omega) (by omega) (fun _ => rfl) (fun r6 u H5 locs hw hP hD hS => ?_)
  try dsimp only at hw
  obtain rfl := hw
  have hP : va_P D vwCl (law_w cY aa sa bp (vp_updL ov 0 (Int32.toInt64 (n_div x y))) fr tf len sc cur tx f cnt rf rc sf sn z g0 g1 g2 g3 t0 t1 t2 t3 sk pt pg pf pe 0 ta yr ys yo yf ye kf kc rv cv bv f cnt sf sn z sk len tx) H5 := hP
  have hD : va_D A (law_w cY aa sa bp (vp_updL ov 0 (Int32.toInt64 (n_div x y))) fr tf len sc cur tx f cnt rf rc sf sn z g0 g1 g2 g3 t0 t1 t2 t3 sk pt pg pf pe 0 ta yr ys yo yf ye kf kc rv cv bv f cnt sf sn z sk len tx) := hD
  refine lv_iload hx hb dL_law_1084 (lv_at hl 1 rfl) ?_
  refine lv_icmp_eq (tgt := 1091) hx hb dL_law_1086 (by decide) (fun c1086 => ?_) (fun c1086 => ?_)
  rotate_left
  · exact absurd rfl c1086
  refine lv_iload hx hb dL_law_1091 (lv_at hl 1 rfl) ?_
  refine lv_if_ne (tgt := 1108) hx hb dL_law_1093 (by decide) (fun c1093 => ?_) (fun c1093 => ?_)
  · exact absurd rfl c1093
  refine lv_aload_n hx hb dL_law_1096 rfl (lv_at hl 5 rfl) ?_
  refine lv_iconst (v := nI 0) hx hb dL_law_1097 (by decide) ?_
  refine va_lald hx hb hK hP 0 2 rfl rfl (m_in (n := 0) (by decide) (by decide)) dL_law_1098 ?_
  refine lv_topl (nm_r (show _ = Int32.toInt64 (n_div x y) from by rw [nI_clamp (by decide)]; exact if_pos rfl) ?_)
  refine lv_iload hx hb dL_law_1099 (lv_at hl 0 rfl) ?_
  refine lv_i2l (v := Int32.toInt64 (n_div x y)) hx hb dL_law_1101 rfl ?_
  refine W.lcmp hx hb dL_law_1102 ?_
  refine lv_topi (nm_r (m_cmp_self _) ?_)
  refine lv_if_eq (tgt := 1108) hx hb dL_law_1103 (by decide) (fun c1103 => ?_) (fun c1103 => ?_)
  rotate_left
  · exact absurd rfl c1103
  refine lv_goto (tgt := 1541) hx hb dL_law_1108 (by decide) ?_
  refine W.widen (k := cells + 1) (n := slots + 6) (by omega) (by omega) ?_
  exact kk (vp_updL ov 0 (Int32.toInt64 (n_div x y))) fr tf len sc cur tx f cnt rf rc sf sn z g0 g1 g2 g3 t0 t1 t2 t3 sk pt pg pf pe 0 ta yr ys yo yf ye kf kc rv cv bv _ _ ls (hI) hP hD hS (lv_sub hl [2, 3, 4, 5, 6] rfl)
set_option maxHeartbeats 4000000 in
set_option maxRecDepth 100000 in
theorem v_power_x1 {p : Program} {l : Launch} {e : Env} {s : State} {m : MethodId} {below : List Frame} {meth : Method} {c : Code} {b L : Nat} {xs : Nat → Int32} {D : va_G} {cY : Nat → ClassId} {A : Nat → Prop} {eS : Nat → Nat} {eO : Nat} {Q : State → Prop} {aa sa bp : Nat → Nat} (F : law_F p l e s m meth c b L xs D cY A eS eO bp) {ov : Nat → Int64} {fr : Nat} {tf : Nat → Nat} {len : Nat} {sc : Nat} {cur : Nat} {tx : Nat → Nat} {f : Nat → Nat} {cnt : Nat} {rf : Nat → Nat} {rc : Nat} {sf : Nat → Nat} {sn : Nat} {z : Nat} {g0 : Nat → Nat} {g1 : Nat → Nat} {g2 : Nat → Nat} {g3 : Nat → Nat} {t0 : Nat} {t1 : Nat} {t2 : Nat} {t3 : Nat} {sk : Nat} {pt : Nat → Int32} {pg : Nat → Int32} {pf : Nat → Int32} {pe : Nat → Int32} {th : Nat} {ta : Nat} {yr : Int32} {ys : Int32} {yo : Int32} {yf : Int32} {ye : Int32} {kf : Nat → Nat} {kc : Nat} {rv : Nat → Nat} {cv : Nat → Nat} {bv : Nat → Nat} {i : Nat} (hi : i + 2 < L) {H : Heap} {locs : List Loc} {ls : Array Slot} {cells slots : Nat} (hcl : cells + 1 ≤ room_1.cells) (hsl : slots + 6 ≤ room_1.slots) (x y : Int32) (hn : ¬ (m_isN x ∧ m_inI y 0 1000000000)) (hv1 : xs (i + 1) = x) (hv2 : xs (i + 2) = y)
    (hI : law_I fr tf len tx f rf sf z g0 g1 g2 g3 t0 t1 t2 t3 sk rv) (hP : va_P D vwCl (law_w cY aa sa bp ov fr tf len sc cur tx f cnt rf rc sf sn z g0 g1 g2 g3 t0 t1 t2 t3 sk pt pg pf pe th ta yr ys yo yf ye kf kc rv cv bv f cnt sf sn z sk len tx) H) (hD : va_D A (law_w cY aa sa bp ov fr tf len sc cur tx f cnt rf rc sf sn z g0 g1 g2 g3 t0 t1 t2 t3 sk pt pg pf pe th ta yr ys yo yf ye kf kc rv cv bv f cnt sf sn z sk len tx)) (hS : va_S A s.heap H locs) (hl : lv_has ls 7 [(0, .ref b), (1, .ref (aa 1)), (2, .ref (aa 25)), (3, .ref (aa 0)), (4, .int (nI i))]) (kk : law_K p l e s m below meth c b D cY A Q aa sa bp i (cells + 1) (slots + 6)) :
    W p l e room_1 s m #[.ref b] below meth c H locs cells slots Q (F0 m 1111 ls []) := by
  obtain ⟨C0, hE, hX, hbl, hbA, hL, hB, hfl⟩ := id F
  obtain ⟨hx, hb, hr, hml, hts, hown, hlocks, hK, hA⟩ := id C0
  obtain ⟨⟨hf8, hf16⟩, hrf8, ⟨hsf8, hsf16⟩, ⟨⟨hg0, hg0b⟩, ⟨hg1, hg1b⟩, ⟨hg2, hg2b⟩, ⟨hg3, hg3b⟩⟩, hz4, ⟨hfr, htf⟩, ⟨hlen, htx⟩, hsk, hh, hrec, hH⟩ := id hI
  refine lv_aload_n hx hb dL_law_1111 rfl (lv_at hl 1 rfl) ?_
  refine lv_aload_n hx hb dL_law_1112 rfl (lv_at hl 0 rfl) ?_
  refine lv_iload hx hb dL_law_1113 (lv_at hl 4 rfl) ?_
  refine lv_iconst (v := nI 1) hx hb dL_law_1115 (by decide) ?_
  refine lv_iadd hx hb dL_law_1116 ?_
  refine lv_topi (nm_r (nI_add _ _) ?_)
  refine va_sld hx hb hX hbl hbA hS (i := nI (i + 1)) (m_in (n := i + 1) (by omega) (by omega)) dL_law_1117 ?_
  refine lv_topi (nm_r (show _ = x from by rw [nI_clamp (by omega)]; exact hv1) ?_)
  refine lv_aload_n hx hb dL_law_1118 rfl (lv_at hl 0 rfl) ?_
  refine lv_iload hx hb dL_law_1119 (lv_at hl 4 rfl) ?_
  refine lv_iconst (v := nI 2) hx hb dL_law_1121 (by decide) ?_
  refine lv_iadd hx hb dL_law_1122 ?_
  refine lv_topi (nm_r (nI_add _ _) ?_)
  refine va_sld hx hb hX hbl hbA hS (i := nI (i + 2)) (m_in (n := i + 2) (by omega) (by omega)) dL_law_1123 ?_
  refine lv_topi (nm_r (show _ = y from by rw [nI_clamp (by omega)]; exact hv2) ?_)
  refine lv_aload_n hx hb dL_law_1124 rfl (lv_at hl 3 rfl) ?_
  refine m_callTe (As := [.ref (aa 1), .int x, .int y, .ref (aa 0)]) (rest := []) C0 hE hl hP hD hS (c_L_power_x1 l hfl D cY eS eO (aa 1) (aa 2) (aa 3) (aa 4) (aa 5) (aa 6) (aa 7) (aa 8) sk x y (aa 0) ov (by first | assumption | omega)) (vx_cwSW 4 hts gL_law_L_power rfl rfl rfl (by decide +kernel) ⟨Nat.le_of_ble_eq_true rfl, Nat.le_of_ble_eq_true rfl⟩) dL_law_1125 [0, 1] rfl rfl rfl (Nat.le_of_ble_eq_true rfl) (by omega) (by omega) (fun _ => rfl) (fun r2 u H1 locs hw hP hD hS => ?_)
  try dsimp only at hw
  obtain rfl := hw
  have hP : va_P D vwCl (law_w cY aa sa bp ov fr tf len sc cur tx f cnt rf rc sf sn z g0 g1 g2 g3 t0 t1 t2 t3 sk pt pg pf pe th ta yr ys yo yf ye kf kc rv cv bv f cnt sf sn z sk len tx) H1 := hP
  have hD : va_D A (law_w cY aa sa bp ov fr tf len sc cur tx f cnt rf rc sf sn z g0 g1 g2 g3 t0 t1 t2 t3 sk pt pg pf pe th ta yr ys yo yf ye kf kc rv cv bv f cnt sf sn z sk len tx) := hD
  refine lv_istore (lv' := [(5, .int (nI 1)), (0, .ref b), (1, .ref (aa 1)), (2, .ref (aa 25)), (3, .ref (aa 0)), (4, .int (nI i))]) hx hb dL_law_1128 hl (by decide) rfl (fun ls hl => ?_)
  refine lv_aload_n hx hb dL_law_1130 rfl (lv_at hl 3 rfl) ?_
  refine lv_aload_n hx hb dL_law_1131 rfl (lv_at hl 1 rfl) ?_
  refine lv_iload hx hb dL_law_1132 (lv_at hl 5 rfl) ?_
  refine lv_iconst (v := nI 1) hx hb dL_law_1134 (by decide) ?_
  refine lv_iadd hx hb dL_law_1135 ?_
  refine lv_topi (nm_r (nI_add _ _) ?_)
  refine va_sld hx hb hX hbl hbA hS (i := nI (i + 1)) (m_in (n := i + 1) (by omega) (by omega)) dL_law_1136 ?_
  refine lv_topi (nm_r (show _ = x from by rw [nI_clamp (by omega)]; exact hv1) ?_)
  refine lv_aload_n hx hb dL_law_1137 rfl (lv_at hl 1 rfl) ?_
  refine lv_iload hx hb dL_law_1138 (lv_at hl 5 rfl) ?_
  refine lv_iconst (v := nI 2) hx hb dL_law_1140 (by decide) ?_
  refine lv_iadd hx hb dL_law_1141 ?_
  refine lv_topi (nm_r (nI_add _ _) ?_)
  refine va_sld hx hb hX hbl hbA hS (i := nI (i + 2)) (m_in (n := i + 2) (by omega) (by omega)) dL_law_1142 ?_
  refine lv_topi (nm_r (show _ = y from by rw [nI_clamp (by omega)]; exact hv2) ?_)
  refine m_callVi (As := [.int x, .int y]) (rest := []) C0 hl hP hD hS (c_X7_power_f1 l D cY (aa 25) (aa 26) (aa 27) (aa 28) (aa 29) (aa 30) (aa 31) (aa 32) z sk th len ta yr ys yo yf ye x y (by first | assumption | omega)) (cwV 2 hts gL_law_X7_power rfl rfl rfl (by decide +kernel) ⟨Nat.le_of_ble_eq_true rfl, Nat.le_of_ble_eq_true rfl⟩) dL_law_1143 [25] rfl rfl 25 rfl rfl rfl rfl (Nat.le_of_ble_eq_true rfl) (by omega) (by omega) (fun _ => rfl) (fun r4 u H3 locs hw hP hD hS => ?_)
  try dsimp only at hw
  obtain rfl := hw
  have hP : va_P D vwCl (law_w cY aa sa bp ov fr tf len sc cur tx f cnt rf rc sf sn z g0 g1 g2 g3 t0 t1 t2 t3 sk pt pg pf pe 1 ta yr ys yo yf ye kf kc rv cv bv f cnt sf sn z sk len tx) H3 := hP
  have hD : va_D A (law_w cY aa sa bp ov fr tf len sc cur tx f cnt rf rc sf sn z g0 g1 g2 g3 t0 t1 t2 t3 sk pt pg pf pe 1 ta yr ys yo yf ye kf kc rv cv bv f cnt sf sn z sk len tx) := hD
  refine lv_istore (lv' := [(6, .int (nI 0)), (5, .int (nI 1)), (0, .ref b), (1, .ref (aa 1)), (2, .ref (aa 25)), (3, .ref (aa 0)), (4, .int (nI i))]) hx hb dL_law_1146 hl (by decide) rfl (fun ls hl => ?_)
  refine lv_aload_n hx hb dL_law_1148 rfl (lv_at hl 4 rfl) ?_
  refine m_callVi (As := []) (rest := []) C0 hl hP hD hS (c_X7_thrown l D cY (aa 25) (aa 26) (aa 27) (aa 28) (aa 29) (aa 30) (aa 31) (aa 32) z sk 1 len ta yr ys yo yf ye ) (cwV 0 hts gL_law_X7_thrown rfl rfl rfl (by decide +kernel) ⟨Nat.le_of_ble_eq_true rfl, Nat.le_of_ble_eq_true rfl⟩) dL_law_1149 [25] rfl rfl 25 rfl rfl rfl rfl (Nat.le_of_ble_eq_true rfl) (by omega) (by omega) (fun _ => rfl) (fun r6 u H5 locs hw hP hD hS => ?_)
  try dsimp only at hw
  obtain rfl := hw
  have hP : va_P D vwCl (law_w cY aa sa bp ov fr tf len sc cur tx f cnt rf rc sf sn z g0 g1 g2 g3 t0 t1 t2 t3 sk pt pg pf pe 1 ta yr ys yo yf ye kf kc rv cv bv f cnt sf sn z sk len tx) H5 := hP
  have hD : va_D A (law_w cY aa sa bp ov fr tf len sc cur tx f cnt rf rc sf sn z g0 g1 g2 g3 t0 t1 t2 t3 sk pt pg pf pe 1 ta yr ys yo yf ye kf kc rv cv bv f cnt sf sn z sk len tx) := hD
  refine lv_iload hx hb dL_law_1152 (lv_at hl 1 rfl) ?_
  refine lv_icmp_eq (tgt := 1159) hx hb dL_law_1154 (by decide) (fun c1154 => ?_) (fun c1154 => ?_)
  rotate_left
  · exact absurd rfl c1154
  refine lv_iload hx hb dL_law_1159 (lv_at hl 1 rfl) ?_
  refine lv_if_ne (tgt := 1176) hx hb dL_law_1161 (by decide) (fun c1161 => ?_) (fun c1161 => ?_)
  rotate_left
  · exact absurd c1161 (by decide)
  refine lv_goto (tgt := 1541) hx hb dL_law_1176 (by decide) ?_
  refine W.widen (k := cells + 1) (n := slots + 6) (by omega) (by omega) ?_
  exact kk ov fr tf len sc cur tx f cnt rf rc sf sn z g0 g1 g2 g3 t0 t1 t2 t3 sk pt pg pf pe 1 ta yr ys yo yf ye kf kc rv cv bv _ _ ls (hI) hP hD hS (lv_sub hl [2, 3, 4, 5, 6] rfl)
