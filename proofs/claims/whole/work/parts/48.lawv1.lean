/-! The law's variants. -/
set_option maxHeartbeats 4000000 in
set_option maxRecDepth 100000 in
theorem v_set_x1 {p : Program} {l : Launch} {e : Env} {s : State} {m : MethodId} {below : List Frame} {meth : Method} {c : Code} {b L : Nat} {xs : Nat → Int32} {D : va_G} {cY : Nat → ClassId} {A : Nat → Prop} {eS : Nat → Nat} {eO : Nat} {Q : State → Prop} {aa sa bp : Nat → Nat} (F : law_F p l e s m meth c b L xs D cY A eS eO bp) {ov : Nat → Int64} {fr : Nat} {tf : Nat → Nat} {len : Nat} {sc : Nat} {cur : Nat} {tx : Nat → Nat} {f : Nat → Nat} {cnt : Nat} {rf : Nat → Nat} {rc : Nat} {sf : Nat → Nat} {sn : Nat} {z : Nat} {g0 : Nat → Nat} {g1 : Nat → Nat} {g2 : Nat → Nat} {g3 : Nat → Nat} {t0 : Nat} {t1 : Nat} {t2 : Nat} {t3 : Nat} {sk : Nat} {pt : Nat → Int32} {pg : Nat → Int32} {pf : Nat → Int32} {pe : Nat → Int32} {th : Nat} {ta : Nat} {yr : Int32} {ys : Int32} {yo : Int32} {yf : Int32} {ye : Int32} {kf : Nat → Nat} {kc : Nat} {rv : Nat → Nat} {cv : Nat → Nat} {bv : Nat → Nat} {i : Nat} (hi : i + 2 < L) {H : Heap} {locs : List Loc} {ls : Array Slot} {cells slots : Nat} (hcl : cells + 1 ≤ room_1.cells) (hsl : slots + 6 ≤ room_1.slots) (x y : Int32) (hn : ¬ m_isR x) (hv1 : xs (i + 1) = x) (hv2 : xs (i + 2) = y)
    (hI : law_I fr tf len tx f rf sf z g0 g1 g2 g3 t0 t1 t2 t3 sk rv) (hP : va_P D vwCl (law_w cY aa sa bp ov fr tf len sc cur tx f cnt rf rc sf sn z g0 g1 g2 g3 t0 t1 t2 t3 sk pt pg pf pe th ta yr ys yo yf ye kf kc rv cv bv f cnt sf sn z sk len tx) H) (hD : va_D A (law_w cY aa sa bp ov fr tf len sc cur tx f cnt rf rc sf sn z g0 g1 g2 g3 t0 t1 t2 t3 sk pt pg pf pe th ta yr ys yo yf ye kf kc rv cv bv f cnt sf sn z sk len tx)) (hS : va_S A s.heap H locs) (hl : lv_has ls 7 [(0, .ref b), (1, .ref (aa 1)), (2, .ref (aa 25)), (3, .ref (aa 0)), (4, .int (nI i))]) (kk : law_K p l e s m below meth c b D cY A Q aa sa bp i (cells + 1) (slots + 6)) :
    W p l e room_1 s m #[.ref b] below meth c H locs cells slots Q (F0 m 168 ls []) := by
  obtain ⟨C0, hE, hX, hbl, hbA, hL, hB, hfl⟩ := id F
  obtain ⟨hx, hb, hr, hml, hts, hown, hlocks, hK, hA⟩ := id C0
  obtain ⟨⟨hf8, hf16⟩, hrf8, ⟨hsf8, hsf16⟩, ⟨⟨hg0, hg0b⟩, ⟨hg1, hg1b⟩, ⟨hg2, hg2b⟩, ⟨hg3, hg3b⟩⟩, hz4, ⟨hfr, htf⟩, ⟨hlen, htx⟩, hsk, hh, hrec, hH⟩ := id hI
  refine lv_aload_n hx hb dL_law_168 rfl (lv_at hl 1 rfl) ?_
  refine lv_aload_n hx hb dL_law_169 rfl (lv_at hl 0 rfl) ?_
  refine lv_iload hx hb dL_law_170 (lv_at hl 4 rfl) ?_
  refine lv_iconst (v := nI 1) hx hb dL_law_172 (by decide) ?_
  refine lv_iadd hx hb dL_law_173 ?_
  refine lv_topi (nm_r (nI_add _ _) ?_)
  refine va_sld hx hb hX hbl hbA hS (i := nI (i + 1)) (m_in (n := i + 1) (by omega) (by omega)) dL_law_174 ?_
  refine lv_topi (nm_r (show _ = x from by rw [nI_clamp (by omega)]; exact hv1) ?_)
  refine lv_aload_n hx hb dL_law_175 rfl (lv_at hl 0 rfl) ?_
  refine lv_iload hx hb dL_law_176 (lv_at hl 4 rfl) ?_
  refine lv_iconst (v := nI 2) hx hb dL_law_178 (by decide) ?_
  refine lv_iadd hx hb dL_law_179 ?_
  refine lv_topi (nm_r (nI_add _ _) ?_)
  refine va_sld hx hb hX hbl hbA hS (i := nI (i + 2)) (m_in (n := i + 2) (by omega) (by omega)) dL_law_180 ?_
  refine lv_topi (nm_r (show _ = y from by rw [nI_clamp (by omega)]; exact hv2) ?_)
  refine lv_aload_n hx hb dL_law_181 rfl (lv_at hl 3 rfl) ?_
  refine m_callTe (As := [.ref (aa 1), .int x, .int y, .ref (aa 0)]) (rest := []) C0 hE hl hP hD hS (c_L_set_x1 l hfl D cY eS eO (aa 1) (aa 2) (aa 3) (aa 4) (aa 5) (aa 6) (aa 7) (aa 8) sk x y (aa 0) ov (by first | assumption | omega)) (vx_cwSW 4 hts gL_law_L_set rfl rfl rfl (by decide +kernel) ⟨Nat.le_of_ble_eq_true rfl, Nat.le_of_ble_eq_true rfl⟩) dL_law_182 [0, 1] rfl rfl rfl (Nat.le_of_ble_eq_true rfl) (by omega) (by omega) (fun _ => rfl) (fun r2 u H1 locs hw hP hD hS => ?_)
  try dsimp only at hw
  obtain rfl := hw
  have hP : va_P D vwCl (law_w cY aa sa bp ov fr tf len sc cur tx f cnt rf rc sf sn z g0 g1 g2 g3 t0 t1 t2 t3 sk pt pg pf pe th ta yr ys yo yf ye kf kc rv cv bv f cnt sf sn z sk len tx) H1 := hP
  have hD : va_D A (law_w cY aa sa bp ov fr tf len sc cur tx f cnt rf rc sf sn z g0 g1 g2 g3 t0 t1 t2 t3 sk pt pg pf pe th ta yr ys yo yf ye kf kc rv cv bv f cnt sf sn z sk len tx) := hD
  refine lv_istore (lv' := [(5, .int (nI 1)), (0, .ref b), (1, .ref (aa 1)), (2, .ref (aa 25)), (3, .ref (aa 0)), (4, .int (nI i))]) hx hb dL_law_185 hl (by decide) rfl (fun ls hl => ?_)
  refine lv_aload_n hx hb dL_law_187 rfl (lv_at hl 3 rfl) ?_
  refine lv_aload_n hx hb dL_law_188 rfl (lv_at hl 1 rfl) ?_
  refine lv_iload hx hb dL_law_189 (lv_at hl 5 rfl) ?_
  refine lv_iconst (v := nI 1) hx hb dL_law_191 (by decide) ?_
  refine lv_iadd hx hb dL_law_192 ?_
  refine lv_topi (nm_r (nI_add _ _) ?_)
  refine va_sld hx hb hX hbl hbA hS (i := nI (i + 1)) (m_in (n := i + 1) (by omega) (by omega)) dL_law_193 ?_
  refine lv_topi (nm_r (show _ = x from by rw [nI_clamp (by omega)]; exact hv1) ?_)
  refine lv_aload_n hx hb dL_law_194 rfl (lv_at hl 1 rfl) ?_
  refine lv_iload hx hb dL_law_195 (lv_at hl 5 rfl) ?_
  refine lv_iconst (v := nI 2) hx hb dL_law_197 (by decide) ?_
  refine lv_iadd hx hb dL_law_198 ?_
  refine lv_topi (nm_r (nI_add _ _) ?_)
  refine va_sld hx hb hX hbl hbA hS (i := nI (i + 2)) (m_in (n := i + 2) (by omega) (by omega)) dL_law_199 ?_
  refine lv_topi (nm_r (show _ = y from by rw [nI_clamp (by omega)]; exact hv2) ?_)
  refine m_callVi (As := [.int x, .int y]) (rest := []) C0 hl hP hD hS (c_X7_set_f1 l D cY (aa 25) (aa 26) (aa 27) (aa 28) (aa 29) (aa 30) (aa 31) (aa 32) z sk th len ta yr ys yo yf ye x y (by first | assumption | omega)) (cwV 2 hts gL_law_X7_set rfl rfl rfl (by decide +kernel) ⟨Nat.le_of_ble_eq_true rfl, Nat.le_of_ble_eq_true rfl⟩) dL_law_200 [25] rfl rfl 25 rfl rfl rfl rfl (Nat.le_of_ble_eq_true rfl) (by omega) (by omega) (fun _ => rfl) (fun r4 u H3 locs hw hP hD hS => ?_)
  try dsimp only at hw
  obtain rfl := hw
  have hP : va_P D vwCl (law_w cY aa sa bp ov fr tf len sc cur tx f cnt rf rc sf sn z g0 g1 g2 g3 t0 t1 t2 t3 sk pt pg pf pe 1 ta yr ys yo yf ye kf kc rv cv bv f cnt sf sn z sk len tx) H3 := hP
  have hD : va_D A (law_w cY aa sa bp ov fr tf len sc cur tx f cnt rf rc sf sn z g0 g1 g2 g3 t0 t1 t2 t3 sk pt pg pf pe 1 ta yr ys yo yf ye kf kc rv cv bv f cnt sf sn z sk len tx) := hD
  refine lv_istore (lv' := [(6, .int (nI 0)), (5, .int (nI 1)), (0, .ref b), (1, .ref (aa 1)), (2, .ref (aa 25)), (3, .ref (aa 0)), (4, .int (nI i))]) hx hb dL_law_203 hl (by decide) rfl (fun ls hl => ?_)
  refine lv_aload_n hx hb dL_law_205 rfl (lv_at hl 4 rfl) ?_
  refine m_callVi (As := []) (rest := []) C0 hl hP hD hS (c_X7_thrown l D cY (aa 25) (aa 26) (aa 27) (aa 28) (aa 29) (aa 30) (aa 31) (aa 32) z sk 1 len ta yr ys yo yf ye ) (cwV 0 hts gL_law_X7_thrown rfl rfl rfl (by decide +kernel) ⟨Nat.le_of_ble_eq_true rfl, Nat.le_of_ble_eq_true rfl⟩) dL_law_206 [25] rfl rfl 25 rfl rfl rfl rfl (Nat.le_of_ble_eq_true rfl) (by omega) (by omega) (fun _ => rfl) (fun r6 u H5 locs hw hP hD hS => ?_)
  try dsimp only at hw
  obtain rfl := hw
  have hP : va_P D vwCl (law_w cY aa sa bp ov fr tf len sc cur tx f cnt rf rc sf sn z g0 g1 g2 g3 t0 t1 t2 t3 sk pt pg pf pe 1 ta yr ys yo yf ye kf kc rv cv bv f cnt sf sn z sk len tx) H5 := hP
  have hD : va_D A (law_w cY aa sa bp ov fr tf len sc cur tx f cnt rf rc sf sn z g0 g1 g2 g3 t0 t1 t2 t3 sk pt pg pf pe 1 ta yr ys yo yf ye kf kc rv cv bv f cnt sf sn z sk len tx) := hD
  refine lv_iload hx hb dL_law_209 (lv_at hl 1 rfl) ?_
  refine lv_icmp_eq (tgt := 216) hx hb dL_law_211 (by decide) (fun c211 => ?_) (fun c211 => ?_)
  rotate_left
  · exact absurd rfl c211
  refine lv_iload hx hb dL_law_216 (lv_at hl 1 rfl) ?_
  refine lv_if_ne (tgt := 233) hx hb dL_law_218 (by decide) (fun c218 => ?_) (fun c218 => ?_)
  rotate_left
  · exact absurd c218 (by decide)
  refine lv_goto (tgt := 1541) hx hb dL_law_233 (by decide) ?_
  refine W.widen (k := cells + 1) (n := slots + 6) (by omega) (by omega) ?_
  exact kk ov fr tf len sc cur tx f cnt rf rc sf sn z g0 g1 g2 g3 t0 t1 t2 t3 sk pt pg pf pe 1 ta yr ys yo yf ye kf kc rv cv bv _ _ ls (hI) hP hD hS (lv_sub hl [2, 3, 4, 5, 6] rfl)
set_option maxHeartbeats 4000000 in
set_option maxRecDepth 100000 in
theorem v_set_x2 {p : Program} {l : Launch} {e : Env} {s : State} {m : MethodId} {below : List Frame} {meth : Method} {c : Code} {b L : Nat} {xs : Nat → Int32} {D : va_G} {cY : Nat → ClassId} {A : Nat → Prop} {eS : Nat → Nat} {eO : Nat} {Q : State → Prop} {aa sa bp : Nat → Nat} (F : law_F p l e s m meth c b L xs D cY A eS eO bp) {ov : Nat → Int64} {fr : Nat} {tf : Nat → Nat} {len : Nat} {sc : Nat} {cur : Nat} {tx : Nat → Nat} {f : Nat → Nat} {cnt : Nat} {rf : Nat → Nat} {rc : Nat} {sf : Nat → Nat} {sn : Nat} {z : Nat} {g0 : Nat → Nat} {g1 : Nat → Nat} {g2 : Nat → Nat} {g3 : Nat → Nat} {t0 : Nat} {t1 : Nat} {t2 : Nat} {t3 : Nat} {sk : Nat} {pt : Nat → Int32} {pg : Nat → Int32} {pf : Nat → Int32} {pe : Nat → Int32} {th : Nat} {ta : Nat} {yr : Int32} {ys : Int32} {yo : Int32} {yf : Int32} {ye : Int32} {kf : Nat → Nat} {kc : Nat} {rv : Nat → Nat} {cv : Nat → Nat} {bv : Nat → Nat} {i : Nat} (hi : i + 2 < L) {H : Heap} {locs : List Loc} {ls : Array Slot} {cells slots : Nat} (hcl : cells + 1 ≤ room_1.cells) (hsl : slots + 6 ≤ room_1.slots) (k : Nat) (y : Int32) (hk : k < 8) (hn : ¬ m_isN y) (hv1 : xs (i + 1) = nI k) (hv2 : xs (i + 2) = y)
    (hI : law_I fr tf len tx f rf sf z g0 g1 g2 g3 t0 t1 t2 t3 sk rv) (hP : va_P D vwCl (law_w cY aa sa bp ov fr tf len sc cur tx f cnt rf rc sf sn z g0 g1 g2 g3 t0 t1 t2 t3 sk pt pg pf pe th ta yr ys yo yf ye kf kc rv cv bv f cnt sf sn z sk len tx) H) (hD : va_D A (law_w cY aa sa bp ov fr tf len sc cur tx f cnt rf rc sf sn z g0 g1 g2 g3 t0 t1 t2 t3 sk pt pg pf pe th ta yr ys yo yf ye kf kc rv cv bv f cnt sf sn z sk len tx)) (hS : va_S A s.heap H locs) (hl : lv_has ls 7 [(0, .ref b), (1, .ref (aa 1)), (2, .ref (aa 25)), (3, .ref (aa 0)), (4, .int (nI i))]) (kk : law_K p l e s m below meth c b D cY A Q aa sa bp i (cells + 1) (slots + 6)) :
    W p l e room_1 s m #[.ref b] below meth c H locs cells slots Q (F0 m 168 ls []) := by
  obtain ⟨C0, hE, hX, hbl, hbA, hL, hB, hfl⟩ := id F
  obtain ⟨hx, hb, hr, hml, hts, hown, hlocks, hK, hA⟩ := id C0
  obtain ⟨⟨hf8, hf16⟩, hrf8, ⟨hsf8, hsf16⟩, ⟨⟨hg0, hg0b⟩, ⟨hg1, hg1b⟩, ⟨hg2, hg2b⟩, ⟨hg3, hg3b⟩⟩, hz4, ⟨hfr, htf⟩, ⟨hlen, htx⟩, hsk, hh, hrec, hH⟩ := id hI
  refine lv_aload_n hx hb dL_law_168 rfl (lv_at hl 1 rfl) ?_
  refine lv_aload_n hx hb dL_law_169 rfl (lv_at hl 0 rfl) ?_
  refine lv_iload hx hb dL_law_170 (lv_at hl 4 rfl) ?_
  refine lv_iconst (v := nI 1) hx hb dL_law_172 (by decide) ?_
  refine lv_iadd hx hb dL_law_173 ?_
  refine lv_topi (nm_r (nI_add _ _) ?_)
  refine va_sld hx hb hX hbl hbA hS (i := nI (i + 1)) (m_in (n := i + 1) (by omega) (by omega)) dL_law_174 ?_
  refine lv_topi (nm_r (show _ = nI k from by rw [nI_clamp (by omega)]; exact hv1) ?_)
  refine lv_aload_n hx hb dL_law_175 rfl (lv_at hl 0 rfl) ?_
  refine lv_iload hx hb dL_law_176 (lv_at hl 4 rfl) ?_
  refine lv_iconst (v := nI 2) hx hb dL_law_178 (by decide) ?_
  refine lv_iadd hx hb dL_law_179 ?_
  refine lv_topi (nm_r (nI_add _ _) ?_)
  refine va_sld hx hb hX hbl hbA hS (i := nI (i + 2)) (m_in (n := i + 2) (by omega) (by omega)) dL_law_180 ?_
  refine lv_topi (nm_r (show _ = y from by rw [nI_clamp (by omega)]; exact hv2) ?_)
  refine lv_aload_n hx hb dL_law_181 rfl (lv_at hl 3 rfl) ?_
  refine m_callTe (As := [.ref (aa 1), .int (nI k), .int y, .ref (aa 0)]) (rest := []) C0 hE hl hP hD hS (c_L_set_x2 l hfl D cY eS eO (aa 1) (aa 2) (aa 3) (aa 4) (aa 5) (aa 6) (aa 7) (aa 8) sk k y (aa 0) ov (by first | assumption | omega) (by first | assumption | omega)) (vx_cwSW 4 hts gL_law_L_set rfl rfl rfl (by decide +kernel) ⟨Nat.le_of_ble_eq_true rfl, Nat.le_of_ble_eq_true rfl⟩) dL_law_182 [0, 1] rfl rfl rfl (Nat.le_of_ble_eq_true rfl) (by omega) (by omega) (fun _ => rfl) (fun r2 u H1 locs hw hP hD hS => ?_)
  try dsimp only at hw
  obtain rfl := hw
  have hP : va_P D vwCl (law_w cY aa sa bp ov fr tf len sc cur tx f cnt rf rc sf sn z g0 g1 g2 g3 t0 t1 t2 t3 sk pt pg pf pe th ta yr ys yo yf ye kf kc rv cv bv f cnt sf sn z sk len tx) H1 := hP
  have hD : va_D A (law_w cY aa sa bp ov fr tf len sc cur tx f cnt rf rc sf sn z g0 g1 g2 g3 t0 t1 t2 t3 sk pt pg pf pe th ta yr ys yo yf ye kf kc rv cv bv f cnt sf sn z sk len tx) := hD
  refine lv_istore (lv' := [(5, .int (nI 2)), (0, .ref b), (1, .ref (aa 1)), (2, .ref (aa 25)), (3, .ref (aa 0)), (4, .int (nI i))]) hx hb dL_law_185 hl (by decide) rfl (fun ls hl => ?_)
  refine lv_aload_n hx hb dL_law_187 rfl (lv_at hl 3 rfl) ?_
  refine lv_aload_n hx hb dL_law_188 rfl (lv_at hl 1 rfl) ?_
  refine lv_iload hx hb dL_law_189 (lv_at hl 5 rfl) ?_
  refine lv_iconst (v := nI 1) hx hb dL_law_191 (by decide) ?_
  refine lv_iadd hx hb dL_law_192 ?_
  refine lv_topi (nm_r (nI_add _ _) ?_)
  refine va_sld hx hb hX hbl hbA hS (i := nI (i + 1)) (m_in (n := i + 1) (by omega) (by omega)) dL_law_193 ?_
  refine lv_topi (nm_r (show _ = nI k from by rw [nI_clamp (by omega)]; exact hv1) ?_)
  refine lv_aload_n hx hb dL_law_194 rfl (lv_at hl 1 rfl) ?_
  refine lv_iload hx hb dL_law_195 (lv_at hl 5 rfl) ?_
  refine lv_iconst (v := nI 2) hx hb dL_law_197 (by decide) ?_
  refine lv_iadd hx hb dL_law_198 ?_
  refine lv_topi (nm_r (nI_add _ _) ?_)
  refine va_sld hx hb hX hbl hbA hS (i := nI (i + 2)) (m_in (n := i + 2) (by omega) (by omega)) dL_law_199 ?_
  refine lv_topi (nm_r (show _ = y from by rw [nI_clamp (by omega)]; exact hv2) ?_)
  refine m_callVi (As := [.int (nI k), .int y]) (rest := []) C0 hl hP hD hS (c_X7_set_f2 l D cY (aa 25) (aa 26) (aa 27) (aa 28) (aa 29) (aa 30) (aa 31) (aa 32) z sk th len ta yr ys yo yf ye k y (by first | assumption | omega) (by first | assumption | omega)) (cwV 2 hts gL_law_X7_set rfl rfl rfl (by decide +kernel) ⟨Nat.le_of_ble_eq_true rfl, Nat.le_of_ble_eq_true rfl⟩) dL_law_200 [25] rfl rfl 25 rfl rfl rfl rfl (Nat.le_of_ble_eq_true rfl) (by omega) (by omega) (fun _ => rfl) (fun r4 u H3 locs hw hP hD hS => ?_)
  try dsimp only at hw
  obtain rfl := hw
  have hP : va_P D vwCl (law_w cY aa sa bp ov fr tf len sc cur tx f cnt rf rc sf sn z g0 g1 g2 g3 t0 t1 t2 t3 sk pt pg pf pe 2 ta yr ys yo yf ye kf kc rv cv bv f cnt sf sn z sk len tx) H3 := hP
  have hD : va_D A (law_w cY aa sa bp ov fr tf len sc cur tx f cnt rf rc sf sn z g0 g1 g2 g3 t0 t1 t2 t3 sk pt pg pf pe 2 ta yr ys yo yf ye kf kc rv cv bv f cnt sf sn z sk len tx) := hD
  refine lv_istore (lv' := [(6, .int (nI 0)), (5, .int (nI 2)), (0, .ref b), (1, .ref (aa 1)), (2, .ref (aa 25)), (3, .ref (aa 0)), (4, .int (nI i))]) hx hb dL_law_203 hl (by decide) rfl (fun ls hl => ?_)
  refine lv_aload_n hx hb dL_law_205 rfl (lv_at hl 4 rfl) ?_
  refine m_callVi (As := []) (rest := []) C0 hl hP hD hS (c_X7_thrown l D cY (aa 25) (aa 26) (aa 27) (aa 28) (aa 29) (aa 30) (aa 31) (aa 32) z sk 2 len ta yr ys yo yf ye ) (cwV 0 hts gL_law_X7_thrown rfl rfl rfl (by decide +kernel) ⟨Nat.le_of_ble_eq_true rfl, Nat.le_of_ble_eq_true rfl⟩) dL_law_206 [25] rfl rfl 25 rfl rfl rfl rfl (Nat.le_of_ble_eq_true rfl) (by omega) (by omega) (fun _ => rfl) (fun r6 u H5 locs hw hP hD hS => ?_)
  try dsimp only at hw
  obtain rfl := hw
  have hP : va_P D vwCl (law_w cY aa sa bp ov fr tf len sc cur tx f cnt rf rc sf sn z g0 g1 g2 g3 t0 t1 t2 t3 sk pt pg pf pe 2 ta yr ys yo yf ye kf kc rv cv bv f cnt sf sn z sk len tx) H5 := hP
  have hD : va_D A (law_w cY aa sa bp ov fr tf len sc cur tx f cnt rf rc sf sn z g0 g1 g2 g3 t0 t1 t2 t3 sk pt pg pf pe 2 ta yr ys yo yf ye kf kc rv cv bv f cnt sf sn z sk len tx) := hD
  refine lv_iload hx hb dL_law_209 (lv_at hl 1 rfl) ?_
  refine lv_icmp_eq (tgt := 216) hx hb dL_law_211 (by decide) (fun c211 => ?_) (fun c211 => ?_)
  rotate_left
  · exact absurd rfl c211
  refine lv_iload hx hb dL_law_216 (lv_at hl 1 rfl) ?_
  refine lv_if_ne (tgt := 233) hx hb dL_law_218 (by decide) (fun c218 => ?_) (fun c218 => ?_)
  rotate_left
  · exact absurd c218 (by decide)
  refine lv_goto (tgt := 1541) hx hb dL_law_233 (by decide) ?_
  refine W.widen (k := cells + 1) (n := slots + 6) (by omega) (by omega) ?_
  exact kk ov fr tf len sc cur tx f cnt rf rc sf sn z g0 g1 g2 g3 t0 t1 t2 t3 sk pt pg pf pe 2 ta yr ys yo yf ye kf kc rv cv bv _ _ ls (hI) hP hD hS (lv_sub hl [2, 3, 4, 5, 6] rfl)
set_option maxHeartbeats 4000000 in
set_option maxRecDepth 100000 in
theorem v_set_ok {p : Program} {l : Launch} {e : Env} {s : State} {m : MethodId} {below : List Frame} {meth : Method} {c : Code} {b L : Nat} {xs : Nat → Int32} {D : va_G} {cY : Nat → ClassId} {A : Nat → Prop} {eS : Nat → Nat} {eO : Nat} {Q : State → Prop} {aa sa bp : Nat → Nat} (F : law_F p l e s m meth c b L xs D cY A eS eO bp) {ov : Nat → Int64} {fr : Nat} {tf : Nat → Nat} {len : Nat} {sc : Nat} {cur : Nat} {tx : Nat → Nat} {f : Nat → Nat} {cnt : Nat} {rf : Nat → Nat} {rc : Nat} {sf : Nat → Nat} {sn : Nat} {z : Nat} {g0 : Nat → Nat} {g1 : Nat → Nat} {g2 : Nat → Nat} {g3 : Nat → Nat} {t0 : Nat} {t1 : Nat} {t2 : Nat} {t3 : Nat} {sk : Nat} {pt : Nat → Int32} {pg : Nat → Int32} {pf : Nat → Int32} {pe : Nat → Int32} {th : Nat} {ta : Nat} {yr : Int32} {ys : Int32} {yo : Int32} {yf : Int32} {ye : Int32} {kf : Nat → Nat} {kc : Nat} {rv : Nat → Nat} {cv : Nat → Nat} {bv : Nat → Nat} {i : Nat} (hi : i + 2 < L) {H : Heap} {locs : List Loc} {ls : Array Slot} {cells slots : Nat} (hcl : cells + 1 ≤ room_1.cells) (hsl : slots + 6 ≤ room_1.slots) (k v : Nat) (hk : k < 8) (hv : v < 65536) (hv1 : xs (i + 1) = nI k) (hv2 : xs (i + 2) = nI v)
    (hI : law_I fr tf len tx f rf sf z g0 g1 g2 g3 t0 t1 t2 t3 sk rv) (hP : va_P D vwCl (law_w cY aa sa bp ov fr tf len sc cur tx f cnt rf rc sf sn z g0 g1 g2 g3 t0 t1 t2 t3 sk pt pg pf pe th ta yr ys yo yf ye kf kc rv cv bv f cnt sf sn z sk len tx) H) (hD : va_D A (law_w cY aa sa bp ov fr tf len sc cur tx f cnt rf rc sf sn z g0 g1 g2 g3 t0 t1 t2 t3 sk pt pg pf pe th ta yr ys yo yf ye kf kc rv cv bv f cnt sf sn z sk len tx)) (hS : va_S A s.heap H locs) (hl : lv_has ls 7 [(0, .ref b), (1, .ref (aa 1)), (2, .ref (aa 25)), (3, .ref (aa 0)), (4, .int (nI i))]) (kk : law_K p l e s m below meth c b D cY A Q aa sa bp i (cells + 1) (slots + 6)) :
    W p l e room_1 s m #[.ref b] below meth c H locs cells slots Q (F0 m 168 ls []) := by
  obtain ⟨C0, hE, hX, hbl, hbA, hL, hB, hfl⟩ := id F
  obtain ⟨hx, hb, hr, hml, hts, hown, hlocks, hK, hA⟩ := id C0
  obtain ⟨⟨hf8, hf16⟩, hrf8, ⟨hsf8, hsf16⟩, ⟨⟨hg0, hg0b⟩, ⟨hg1, hg1b⟩, ⟨hg2, hg2b⟩, ⟨hg3, hg3b⟩⟩, hz4, ⟨hfr, htf⟩, ⟨hlen, htx⟩, hsk, hh, hrec, hH⟩ := id hI
  refine lv_aload_n hx hb dL_law_168 rfl (lv_at hl 1 rfl) ?_
  refine lv_aload_n hx hb dL_law_169 rfl (lv_at hl 0 rfl) ?_
  refine lv_iload hx hb dL_law_170 (lv_at hl 4 rfl) ?_
  refine lv_iconst (v := nI 1) hx hb dL_law_172 (by decide) ?_
  refine lv_iadd hx hb dL_law_173 ?_
  refine lv_topi (nm_r (nI_add _ _) ?_)
  refine va_sld hx hb hX hbl hbA hS (i := nI (i + 1)) (m_in (n := i + 1) (by omega) (by omega)) dL_law_174 ?_
  refine lv_topi (nm_r (show _ = nI k from by rw [nI_clamp (by omega)]; exact hv1) ?_)
  refine lv_aload_n hx hb dL_law_175 rfl (lv_at hl 0 rfl) ?_
  refine lv_iload hx hb dL_law_176 (lv_at hl 4 rfl) ?_
  refine lv_iconst (v := nI 2) hx hb dL_law_178 (by decide) ?_
  refine lv_iadd hx hb dL_law_179 ?_
  refine lv_topi (nm_r (nI_add _ _) ?_)
  refine va_sld hx hb hX hbl hbA hS (i := nI (i + 2)) (m_in (n := i + 2) (by omega) (by omega)) dL_law_180 ?_
  refine lv_topi (nm_r (show _ = nI v from by rw [nI_clamp (by omega)]; exact hv2) ?_)
  refine lv_aload_n hx hb dL_law_181 rfl (lv_at hl 3 rfl) ?_
  refine m_callTji (As := [.ref (aa 1), .int (nI k), .int (nI v), .ref (aa 0)]) (rest := []) (wr := ([((aa 2), .inr (2, [.ref (aa 9)])), ((aa 9), .inl (cY 0, 256, .inl (m_nf bp))), ((aa 3), .inr (1, [.ref (aa 10), .int (nI fr)])), ((aa 10), .inl (cY 0, 256, .inl (m_nf tf))), ((aa 4), .inr (3, [.ref (aa 11), .ref (aa 12), .int (nI len), .int (nI sc), .int (nI cur)])), ((aa 11), .inl (cY 1, 60, .inl (m_nf tx))), ((aa 12), .inl (cY 4, 15, .inr (.inr (.inr (.inr (m_sa sa)))))), ((aa 6), .inr (4, [.ref (aa 14), .int (nI rc)])), ((aa 14), .inl (cY 0, 8, .inl (m_nf rf))), ((aa 7), .inr (4, [.ref (aa 15), .int (nI sn)])), ((aa 15), .inl (cY 0, 8, .inl (m_nf sf))), ((aa 25), .inr (7, [.ref (aa 26), .ref (aa 27), .ref (aa 28), .int (nI z), .ref (aa 29), .int (nI sk), .int (nI th), .ref (aa 30), .int (nI len), .int (nI ta), .int yr, .int ys, .int yo, .int yf, .int ye, .ref (aa 31), .ref (aa 32)])), ((aa 26), .inl (cY 0, 9, .inl (m_nf (m_all f cnt)))), ((aa 27), .inl (cY 0, 9, .inl (m_nf (m_all kf kc)))), ((aa 29), .inl (cY 0, 9, .inl (m_nf (m_all sf sn)))), ((aa 28), .inl (cY 0, 36, .inl (m_nf rv))), ((aa 30), .inl (cY 0, 60, .inl (m_nf tx))), ((aa 31), .inl (cY 0, 16, .inl (m_nf cv))), ((aa 32), .inl (cY 0, 16, .inl (m_nf bv)))] ++ m_pool sa pt pg pf pe)) C0 hl hP hD hS (c_L_set_ok l D cY (aa 1) (aa 2) (aa 3) (aa 4) (aa 5) (aa 6) (aa 7) (aa 8) sk (aa 13) cnt f (aa 16) z (aa 17) (aa 18) (aa 19) (aa 20) (aa 21) (aa 22) (aa 23) (aa 24) t0 t1 t2 t3 g0 g1 g2 g3 k v (aa 0) ov (by first | assumption | omega) (by first | assumption | omega) (by first | assumption | omega) (by first | assumption | omega) (by first | assumption | omega) (by first | assumption | omega) (by first | assumption | omega) (by first | assumption | omega) (by first | assumption | omega)) (vx_cwSW 4 hts gL_law_L_set rfl rfl rfl (by decide +kernel) ⟨Nat.le_of_ble_eq_true rfl, Nat.le_of_ble_eq_true rfl⟩) dL_law_182 [0, 1, 9, 10, 15, 16, 17, 18, 19, 20, 21, 22, 23, 24] [2, 3, 4, 5, 6, 7, 8, 11, 12, 13, 14, 25, 26, 27, 28, 29, 30, 31, 32, 33, 34, 35, 36, 37, 38, 39, 40, 41, 42, 43, 44, 45, 46, 47] rfl rfl (by decide) (by decide) (by decide) rfl (Nat.le_of_ble_eq_true rfl) (by omega) (by omega) (fun _ => rfl) (fun r2 u H1 locs hw hP hD hS => ?_)
  try dsimp only at hw
  obtain rfl := hw
  have hP : va_P D vwCl (law_w cY aa sa bp (vp_updL ov 0 (Int32.toInt64 (nI (f k)))) fr tf len sc cur tx (m_up f k v) cnt rf rc sf sn (min (z + 1) 4) f g0 g1 g2 cnt t0 t1 t2 sk pt pg pf pe th ta yr ys yo yf ye kf kc rv cv bv f cnt sf sn z sk len tx) H1 := hP.sub (ws' := law_w cY aa sa bp (vp_updL ov 0 (Int32.toInt64 (nI (f k)))) fr tf len sc cur tx (m_up f k v) cnt rf rc sf sn (min (z + 1) 4) f g0 g1 g2 cnt t0 t1 t2 sk pt pg pf pe th ta yr ys yo yf ye kf kc rv cv bv f cnt sf sn z sk len tx) [34, 35, 0, 1, 2, 3, 4, 5, 6, 36, 37, 7, 8, 9, 10, 38, 39, 40, 41, 42, 43, 44, 45, 46, 47, 11, 12, 13, 14, 15, 16, 17, 18, 19, 20, 21, 22, 23, 24, 25, 26, 27, 28, 29, 30, 31, 32, 33] rfl
  have hD : va_D A (law_w cY aa sa bp (vp_updL ov 0 (Int32.toInt64 (nI (f k)))) fr tf len sc cur tx (m_up f k v) cnt rf rc sf sn (min (z + 1) 4) f g0 g1 g2 cnt t0 t1 t2 sk pt pg pf pe th ta yr ys yo yf ye kf kc rv cv bv f cnt sf sn z sk len tx) := hD.sub (ws' := law_w cY aa sa bp (vp_updL ov 0 (Int32.toInt64 (nI (f k)))) fr tf len sc cur tx (m_up f k v) cnt rf rc sf sn (min (z + 1) 4) f g0 g1 g2 cnt t0 t1 t2 sk pt pg pf pe th ta yr ys yo yf ye kf kc rv cv bv f cnt sf sn z sk len tx) [34, 35, 0, 1, 2, 3, 4, 5, 6, 36, 37, 7, 8, 9, 10, 38, 39, 40, 41, 42, 43, 44, 45, 46, 47, 11, 12, 13, 14, 15, 16, 17, 18, 19, 20, 21, 22, 23, 24, 25, 26, 27, 28, 29, 30, 31, 32, 33] (by decide) rfl
  refine lv_istore (lv' := [(5, .int (nI 0)), (0, .ref b), (1, .ref (aa 1)), (2, .ref (aa 25)), (3, .ref (aa 0)), (4, .int (nI i))]) hx hb dL_law_185 hl (by decide) rfl (fun ls hl => ?_)
  refine lv_aload_n hx hb dL_law_187 rfl (lv_at hl 3 rfl) ?_
  refine lv_aload_n hx hb dL_law_188 rfl (lv_at hl 1 rfl) ?_
  refine lv_iload hx hb dL_law_189 (lv_at hl 5 rfl) ?_
  refine lv_iconst (v := nI 1) hx hb dL_law_191 (by decide) ?_
  refine lv_iadd hx hb dL_law_192 ?_
  refine lv_topi (nm_r (nI_add _ _) ?_)
  refine va_sld hx hb hX hbl hbA hS (i := nI (i + 1)) (m_in (n := i + 1) (by omega) (by omega)) dL_law_193 ?_
  refine lv_topi (nm_r (show _ = nI k from by rw [nI_clamp (by omega)]; exact hv1) ?_)
  refine lv_aload_n hx hb dL_law_194 rfl (lv_at hl 1 rfl) ?_
  refine lv_iload hx hb dL_law_195 (lv_at hl 5 rfl) ?_
  refine lv_iconst (v := nI 2) hx hb dL_law_197 (by decide) ?_
  refine lv_iadd hx hb dL_law_198 ?_
  refine lv_topi (nm_r (nI_add _ _) ?_)
  refine va_sld hx hb hX hbl hbA hS (i := nI (i + 2)) (m_in (n := i + 2) (by omega) (by omega)) dL_law_199 ?_
  refine lv_topi (nm_r (show _ = nI v from by rw [nI_clamp (by omega)]; exact hv2) ?_)
  refine m_callVi (As := [.int (nI k), .int (nI v)]) (rest := []) C0 hl hP hD hS (c_X7_set_ok l D cY (aa 25) (aa 26) (aa 27) (aa 28) (aa 29) (aa 30) (aa 31) (aa 32) z sk th len ta yr ys yo yf ye f cnt rv hh k v (by first | assumption | omega) (by first | assumption | omega) (by first | assumption | omega) (by first | assumption | omega)) (cwV 2 hts gL_law_X7_set rfl rfl rfl (by decide +kernel) ⟨Nat.le_of_ble_eq_true rfl, Nat.le_of_ble_eq_true rfl⟩) dL_law_200 [25, 26, 29] rfl rfl 25 rfl rfl rfl rfl (Nat.le_of_ble_eq_true rfl) (by omega) (by omega) (fun _ => rfl) (fun r4 u H3 locs hw hP hD hS => ?_)
  obtain ⟨rv9_5, rfl⟩ : ∃ z, z = u := ⟨_, rfl⟩
  try dsimp only at hw
  obtain ⟨rfl, hq6⟩ := hw
  have hP : va_P D vwCl (law_w cY aa sa bp (vp_updL ov 0 (Int32.toInt64 (nI (f k)))) fr tf len sc cur tx (m_up f k v) cnt rf rc sf sn (min (z + 1) 4) f g0 g1 g2 cnt t0 t1 t2 sk pt pg pf pe 0 ta yr ys yo yf ye kf kc rv9_5 cv bv (m_up f k v) cnt sf sn (min (z + 1) 4) sk len tx) H3 := hP
  have hD : va_D A (law_w cY aa sa bp (vp_updL ov 0 (Int32.toInt64 (nI (f k)))) fr tf len sc cur tx (m_up f k v) cnt rf rc sf sn (min (z + 1) 4) f g0 g1 g2 cnt t0 t1 t2 sk pt pg pf pe 0 ta yr ys yo yf ye kf kc rv9_5 cv bv (m_up f k v) cnt sf sn (min (z + 1) 4) sk len tx) := hD
  refine lv_istore (lv' := [(6, .int (nI (f k))), (5, .int (nI 0)), (0, .ref b), (1, .ref (aa 1)), (2, .ref (aa 25)), (3, .ref (aa 0)), (4, .int (nI i))]) hx hb dL_law_203 hl (by decide) rfl (fun ls hl => ?_)
  refine lv_aload_n hx hb dL_law_205 rfl (lv_at hl 4 rfl) ?_
  refine m_callVi (As := []) (rest := []) C0 hl hP hD hS (c_X7_thrown l D cY (aa 25) (aa 26) (aa 27) (aa 28) (aa 29) (aa 30) (aa 31) (aa 32) (min (z + 1) 4) sk 0 len ta yr ys yo yf ye ) (cwV 0 hts gL_law_X7_thrown rfl rfl rfl (by decide +kernel) ⟨Nat.le_of_ble_eq_true rfl, Nat.le_of_ble_eq_true rfl⟩) dL_law_206 [25] rfl rfl 25 rfl rfl rfl rfl (Nat.le_of_ble_eq_true rfl) (by omega) (by omega) (fun _ => rfl) (fun r8 u H7 locs hw hP hD hS => ?_)
  try dsimp only at hw
  obtain rfl := hw
  have hP : va_P D vwCl (law_w cY aa sa bp (vp_updL ov 0 (Int32.toInt64 (nI (f k)))) fr tf len sc cur tx (m_up f k v) cnt rf rc sf sn (min (z + 1) 4) f g0 g1 g2 cnt t0 t1 t2 sk pt pg pf pe 0 ta yr ys yo yf ye kf kc rv9_5 cv bv (m_up f k v) cnt sf sn (min (z + 1) 4) sk len tx) H7 := hP
  have hD : va_D A (law_w cY aa sa bp (vp_updL ov 0 (Int32.toInt64 (nI (f k)))) fr tf len sc cur tx (m_up f k v) cnt rf rc sf sn (min (z + 1) 4) f g0 g1 g2 cnt t0 t1 t2 sk pt pg pf pe 0 ta yr ys yo yf ye kf kc rv9_5 cv bv (m_up f k v) cnt sf sn (min (z + 1) 4) sk len tx) := hD
  refine lv_iload hx hb dL_law_209 (lv_at hl 1 rfl) ?_
  refine lv_icmp_eq (tgt := 216) hx hb dL_law_211 (by decide) (fun c211 => ?_) (fun c211 => ?_)
  rotate_left
  · exact absurd rfl c211
  refine lv_iload hx hb dL_law_216 (lv_at hl 1 rfl) ?_
  refine lv_if_ne (tgt := 233) hx hb dL_law_218 (by decide) (fun c218 => ?_) (fun c218 => ?_)
  · exact absurd rfl c218
  refine lv_aload_n hx hb dL_law_221 rfl (lv_at hl 5 rfl) ?_
  refine lv_iconst (v := nI 0) hx hb dL_law_222 (by decide) ?_
  refine va_lald hx hb hK hP 0 2 rfl rfl (m_in (n := 0) (by decide) (by decide)) dL_law_223 ?_
  refine lv_topl (nm_r (show _ = Int32.toInt64 (nI (f k)) from by rw [nI_clamp (by decide)]; exact if_pos rfl) ?_)
  refine lv_iload hx hb dL_law_224 (lv_at hl 0 rfl) ?_
  refine lv_i2l (v := Int32.toInt64 (nI (f k))) hx hb dL_law_226 rfl ?_
  refine W.lcmp hx hb dL_law_227 ?_
  refine lv_topi (nm_r (m_cmp_self _) ?_)
  refine lv_if_eq (tgt := 233) hx hb dL_law_228 (by decide) (fun c228 => ?_) (fun c228 => ?_)
  rotate_left
  · exact absurd rfl c228
  refine lv_goto (tgt := 1541) hx hb dL_law_233 (by decide) ?_
  refine W.widen (k := cells + 1) (n := slots + 6) (by omega) (by omega) ?_
  exact kk (vp_updL ov 0 (Int32.toInt64 (nI (f k)))) fr tf len sc cur tx (m_up f k v) cnt rf rc sf sn (min (z + 1) 4) f g0 g1 g2 cnt t0 t1 t2 sk pt pg pf pe 0 ta yr ys yo yf ye kf kc rv9_5 cv bv _ _ ls (law_I_rec hI hH (law_g_up ⟨hf8, hf16⟩ hk hv) (hrf8) hq6) hP hD hS (lv_sub hl [2, 3, 4, 5, 6] rfl)
set_option maxHeartbeats 4000000 in
set_option maxRecDepth 100000 in
theorem v_invert_x1 {p : Program} {l : Launch} {e : Env} {s : State} {m : MethodId} {below : List Frame} {meth : Method} {c : Code} {b L : Nat} {xs : Nat → Int32} {D : va_G} {cY : Nat → ClassId} {A : Nat → Prop} {eS : Nat → Nat} {eO : Nat} {Q : State → Prop} {aa sa bp : Nat → Nat} (F : law_F p l e s m meth c b L xs D cY A eS eO bp) {ov : Nat → Int64} {fr : Nat} {tf : Nat → Nat} {len : Nat} {sc : Nat} {cur : Nat} {tx : Nat → Nat} {f : Nat → Nat} {cnt : Nat} {rf : Nat → Nat} {rc : Nat} {sf : Nat → Nat} {sn : Nat} {z : Nat} {g0 : Nat → Nat} {g1 : Nat → Nat} {g2 : Nat → Nat} {g3 : Nat → Nat} {t0 : Nat} {t1 : Nat} {t2 : Nat} {t3 : Nat} {sk : Nat} {pt : Nat → Int32} {pg : Nat → Int32} {pf : Nat → Int32} {pe : Nat → Int32} {th : Nat} {ta : Nat} {yr : Int32} {ys : Int32} {yo : Int32} {yf : Int32} {ye : Int32} {kf : Nat → Nat} {kc : Nat} {rv : Nat → Nat} {cv : Nat → Nat} {bv : Nat → Nat} {i : Nat} (hi : i + 2 < L) {H : Heap} {locs : List Loc} {ls : Array Slot} {cells slots : Nat} (hcl : cells + 1 ≤ room_1.cells) (hsl : slots + 6 ≤ room_1.slots) (x : Int32) (hn : ¬ m_isR x) (hv1 : xs (i + 1) = x)
    (hI : law_I fr tf len tx f rf sf z g0 g1 g2 g3 t0 t1 t2 t3 sk rv) (hP : va_P D vwCl (law_w cY aa sa bp ov fr tf len sc cur tx f cnt rf rc sf sn z g0 g1 g2 g3 t0 t1 t2 t3 sk pt pg pf pe th ta yr ys yo yf ye kf kc rv cv bv f cnt sf sn z sk len tx) H) (hD : va_D A (law_w cY aa sa bp ov fr tf len sc cur tx f cnt rf rc sf sn z g0 g1 g2 g3 t0 t1 t2 t3 sk pt pg pf pe th ta yr ys yo yf ye kf kc rv cv bv f cnt sf sn z sk len tx)) (hS : va_S A s.heap H locs) (hl : lv_has ls 7 [(0, .ref b), (1, .ref (aa 1)), (2, .ref (aa 25)), (3, .ref (aa 0)), (4, .int (nI i))]) (kk : law_K p l e s m below meth c b D cY A Q aa sa bp i (cells + 1) (slots + 6)) :
    W p l e room_1 s m #[.ref b] below meth c H locs cells slots Q (F0 m 236 ls []) := by
  obtain ⟨C0, hE, hX, hbl, hbA, hL, hB, hfl⟩ := id F
  obtain ⟨hx, hb, hr, hml, hts, hown, hlocks, hK, hA⟩ := id C0
  obtain ⟨⟨hf8, hf16⟩, hrf8, ⟨hsf8, hsf16⟩, ⟨⟨hg0, hg0b⟩, ⟨hg1, hg1b⟩, ⟨hg2, hg2b⟩, ⟨hg3, hg3b⟩⟩, hz4, ⟨hfr, htf⟩, ⟨hlen, htx⟩, hsk, hh, hrec, hH⟩ := id hI
  refine lv_aload_n hx hb dL_law_236 rfl (lv_at hl 1 rfl) ?_
  refine lv_aload_n hx hb dL_law_237 rfl (lv_at hl 0 rfl) ?_
  refine lv_iload hx hb dL_law_238 (lv_at hl 4 rfl) ?_
  refine lv_iconst (v := nI 1) hx hb dL_law_240 (by decide) ?_
  refine lv_iadd hx hb dL_law_241 ?_
  refine lv_topi (nm_r (nI_add _ _) ?_)
  refine va_sld hx hb hX hbl hbA hS (i := nI (i + 1)) (m_in (n := i + 1) (by omega) (by omega)) dL_law_242 ?_
  refine lv_topi (nm_r (show _ = x from by rw [nI_clamp (by omega)]; exact hv1) ?_)
  refine lv_aload_n hx hb dL_law_243 rfl (lv_at hl 3 rfl) ?_
  refine m_callTe (As := [.ref (aa 1), .int x, .ref (aa 0)]) (rest := []) C0 hE hl hP hD hS (c_L_invert_x1 l hfl D cY eS eO (aa 1) (aa 2) (aa 3) (aa 4) (aa 5) (aa 6) (aa 7) (aa 8) sk x (aa 0) ov (by first | assumption | omega)) (vx_cwSW 3 hts gL_law_L_invert rfl rfl rfl (by decide +kernel) ⟨Nat.le_of_ble_eq_true rfl, Nat.le_of_ble_eq_true rfl⟩) dL_law_244 [0, 1] rfl rfl rfl (Nat.le_of_ble_eq_true rfl) (by omega) (by omega) (fun _ => rfl) (fun r2 u H1 locs hw hP hD hS => ?_)
  try dsimp only at hw
  obtain rfl := hw
  have hP : va_P D vwCl (law_w cY aa sa bp ov fr tf len sc cur tx f cnt rf rc sf sn z g0 g1 g2 g3 t0 t1 t2 t3 sk pt pg pf pe th ta yr ys yo yf ye kf kc rv cv bv f cnt sf sn z sk len tx) H1 := hP
  have hD : va_D A (law_w cY aa sa bp ov fr tf len sc cur tx f cnt rf rc sf sn z g0 g1 g2 g3 t0 t1 t2 t3 sk pt pg pf pe th ta yr ys yo yf ye kf kc rv cv bv f cnt sf sn z sk len tx) := hD
  refine lv_istore (lv' := [(5, .int (nI 1)), (0, .ref b), (1, .ref (aa 1)), (2, .ref (aa 25)), (3, .ref (aa 0)), (4, .int (nI i))]) hx hb dL_law_247 hl (by decide) rfl (fun ls hl => ?_)
  refine lv_aload_n hx hb dL_law_249 rfl (lv_at hl 3 rfl) ?_
  refine lv_aload_n hx hb dL_law_250 rfl (lv_at hl 1 rfl) ?_
  refine lv_iload hx hb dL_law_251 (lv_at hl 5 rfl) ?_
  refine lv_iconst (v := nI 1) hx hb dL_law_253 (by decide) ?_
  refine lv_iadd hx hb dL_law_254 ?_
  refine lv_topi (nm_r (nI_add _ _) ?_)
  refine va_sld hx hb hX hbl hbA hS (i := nI (i + 1)) (m_in (n := i + 1) (by omega) (by omega)) dL_law_255 ?_
  refine lv_topi (nm_r (show _ = x from by rw [nI_clamp (by omega)]; exact hv1) ?_)
  refine m_callVi (As := [.int x]) (rest := []) C0 hl hP hD hS (c_X7_invert_f1 l D cY (aa 25) (aa 26) (aa 27) (aa 28) (aa 29) (aa 30) (aa 31) (aa 32) z sk th len ta yr ys yo yf ye x (by first | assumption | omega)) (cwV 1 hts gL_law_X7_invert rfl rfl rfl (by decide +kernel) ⟨Nat.le_of_ble_eq_true rfl, Nat.le_of_ble_eq_true rfl⟩) dL_law_256 [25] rfl rfl 25 rfl rfl rfl rfl (Nat.le_of_ble_eq_true rfl) (by omega) (by omega) (fun _ => rfl) (fun r4 u H3 locs hw hP hD hS => ?_)
  try dsimp only at hw
  obtain rfl := hw
  have hP : va_P D vwCl (law_w cY aa sa bp ov fr tf len sc cur tx f cnt rf rc sf sn z g0 g1 g2 g3 t0 t1 t2 t3 sk pt pg pf pe 1 ta yr ys yo yf ye kf kc rv cv bv f cnt sf sn z sk len tx) H3 := hP
  have hD : va_D A (law_w cY aa sa bp ov fr tf len sc cur tx f cnt rf rc sf sn z g0 g1 g2 g3 t0 t1 t2 t3 sk pt pg pf pe 1 ta yr ys yo yf ye kf kc rv cv bv f cnt sf sn z sk len tx) := hD
  refine lv_istore (lv' := [(6, .int (nI 0)), (5, .int (nI 1)), (0, .ref b), (1, .ref (aa 1)), (2, .ref (aa 25)), (3, .ref (aa 0)), (4, .int (nI i))]) hx hb dL_law_259 hl (by decide) rfl (fun ls hl => ?_)
  refine lv_aload_n hx hb dL_law_261 rfl (lv_at hl 4 rfl) ?_
  refine m_callVi (As := []) (rest := []) C0 hl hP hD hS (c_X7_thrown l D cY (aa 25) (aa 26) (aa 27) (aa 28) (aa 29) (aa 30) (aa 31) (aa 32) z sk 1 len ta yr ys yo yf ye ) (cwV 0 hts gL_law_X7_thrown rfl rfl rfl (by decide +kernel) ⟨Nat.le_of_ble_eq_true rfl, Nat.le_of_ble_eq_true rfl⟩) dL_law_262 [25] rfl rfl 25 rfl rfl rfl rfl (Nat.le_of_ble_eq_true rfl) (by omega) (by omega) (fun _ => rfl) (fun r6 u H5 locs hw hP hD hS => ?_)
  try dsimp only at hw
  obtain rfl := hw
  have hP : va_P D vwCl (law_w cY aa sa bp ov fr tf len sc cur tx f cnt rf rc sf sn z g0 g1 g2 g3 t0 t1 t2 t3 sk pt pg pf pe 1 ta yr ys yo yf ye kf kc rv cv bv f cnt sf sn z sk len tx) H5 := hP
  have hD : va_D A (law_w cY aa sa bp ov fr tf len sc cur tx f cnt rf rc sf sn z g0 g1 g2 g3 t0 t1 t2 t3 sk pt pg pf pe 1 ta yr ys yo yf ye kf kc rv cv bv f cnt sf sn z sk len tx) := hD
  refine lv_iload hx hb dL_law_265 (lv_at hl 1 rfl) ?_
  refine lv_icmp_eq (tgt := 272) hx hb dL_law_267 (by decide) (fun c267 => ?_) (fun c267 => ?_)
  rotate_left
  · exact absurd rfl c267
  refine lv_iload hx hb dL_law_272 (lv_at hl 1 rfl) ?_
  refine lv_if_ne (tgt := 289) hx hb dL_law_274 (by decide) (fun c274 => ?_) (fun c274 => ?_)
  rotate_left
  · exact absurd c274 (by decide)
  refine lv_goto (tgt := 1541) hx hb dL_law_289 (by decide) ?_
  refine W.widen (k := cells + 1) (n := slots + 6) (by omega) (by omega) ?_
  exact kk ov fr tf len sc cur tx f cnt rf rc sf sn z g0 g1 g2 g3 t0 t1 t2 t3 sk pt pg pf pe 1 ta yr ys yo yf ye kf kc rv cv bv _ _ ls (hI) hP hD hS (lv_sub hl [2, 3, 4, 5, 6] rfl)
set_option maxHeartbeats 4000000 in
set_option maxRecDepth 100000 in
theorem v_invert_x2 {p : Program} {l : Launch} {e : Env} {s : State} {m : MethodId} {below : List Frame} {meth : Method} {c : Code} {b L : Nat} {xs : Nat → Int32} {D : va_G} {cY : Nat → ClassId} {A : Nat → Prop} {eS : Nat → Nat} {eO : Nat} {Q : State → Prop} {aa sa bp : Nat → Nat} (F : law_F p l e s m meth c b L xs D cY A eS eO bp) {ov : Nat → Int64} {fr : Nat} {tf : Nat → Nat} {len : Nat} {sc : Nat} {cur : Nat} {tx : Nat → Nat} {f : Nat → Nat} {cnt : Nat} {rf : Nat → Nat} {rc : Nat} {sf : Nat → Nat} {sn : Nat} {z : Nat} {g0 : Nat → Nat} {g1 : Nat → Nat} {g2 : Nat → Nat} {g3 : Nat → Nat} {t0 : Nat} {t1 : Nat} {t2 : Nat} {t3 : Nat} {sk : Nat} {pt : Nat → Int32} {pg : Nat → Int32} {pf : Nat → Int32} {pe : Nat → Int32} {th : Nat} {ta : Nat} {yr : Int32} {ys : Int32} {yo : Int32} {yf : Int32} {ye : Int32} {kf : Nat → Nat} {kc : Nat} {rv : Nat → Nat} {cv : Nat → Nat} {bv : Nat → Nat} {i : Nat} (hi : i + 2 < L) {H : Heap} {locs : List Loc} {ls : Array Slot} {cells slots : Nat} (hcl : cells + 1 ≤ room_1.cells) (hsl : slots + 6 ≤ room_1.slots) (k : Nat) (hk : k < 8) (hz : f k = 0) (hv1 : xs (i + 1) = nI k)
    (hI : law_I fr tf len tx f rf sf z g0 g1 g2 g3 t0 t1 t2 t3 sk rv) (hP : va_P D vwCl (law_w cY aa sa bp ov fr tf len sc cur tx f cnt rf rc sf sn z g0 g1 g2 g3 t0 t1 t2 t3 sk pt pg pf pe th ta yr ys yo yf ye kf kc rv cv bv f cnt sf sn z sk len tx) H) (hD : va_D A (law_w cY aa sa bp ov fr tf len sc cur tx f cnt rf rc sf sn z g0 g1 g2 g3 t0 t1 t2 t3 sk pt pg pf pe th ta yr ys yo yf ye kf kc rv cv bv f cnt sf sn z sk len tx)) (hS : va_S A s.heap H locs) (hl : lv_has ls 7 [(0, .ref b), (1, .ref (aa 1)), (2, .ref (aa 25)), (3, .ref (aa 0)), (4, .int (nI i))]) (kk : law_K p l e s m below meth c b D cY A Q aa sa bp i (cells + 1) (slots + 6)) :
    W p l e room_1 s m #[.ref b] below meth c H locs cells slots Q (F0 m 236 ls []) := by
  obtain ⟨C0, hE, hX, hbl, hbA, hL, hB, hfl⟩ := id F
  obtain ⟨hx, hb, hr, hml, hts, hown, hlocks, hK, hA⟩ := id C0
  obtain ⟨⟨hf8, hf16⟩, hrf8, ⟨hsf8, hsf16⟩, ⟨⟨hg0, hg0b⟩, ⟨hg1, hg1b⟩, ⟨hg2, hg2b⟩, ⟨hg3, hg3b⟩⟩, hz4, ⟨hfr, htf⟩, ⟨hlen, htx⟩, hsk, hh, hrec, hH⟩ := id hI
  refine lv_aload_n hx hb dL_law_236 rfl (lv_at hl 1 rfl) ?_
  refine lv_aload_n hx hb dL_law_237 rfl (lv_at hl 0 rfl) ?_
  refine lv_iload hx hb dL_law_238 (lv_at hl 4 rfl) ?_
  refine lv_iconst (v := nI 1) hx hb dL_law_240 (by decide) ?_
  refine lv_iadd hx hb dL_law_241 ?_
  refine lv_topi (nm_r (nI_add _ _) ?_)
  refine va_sld hx hb hX hbl hbA hS (i := nI (i + 1)) (m_in (n := i + 1) (by omega) (by omega)) dL_law_242 ?_
  refine lv_topi (nm_r (show _ = nI k from by rw [nI_clamp (by omega)]; exact hv1) ?_)
  refine lv_aload_n hx hb dL_law_243 rfl (lv_at hl 3 rfl) ?_
  refine m_callTje (As := [.ref (aa 1), .int (nI k), .ref (aa 0)]) (rest := []) (wr := ([((aa 2), .inr (2, [.ref (aa 9)])), ((aa 9), .inl (cY 0, 256, .inl (m_nf bp))), ((aa 3), .inr (1, [.ref (aa 10), .int (nI fr)])), ((aa 10), .inl (cY 0, 256, .inl (m_nf tf))), ((aa 4), .inr (3, [.ref (aa 11), .ref (aa 12), .int (nI len), .int (nI sc), .int (nI cur)])), ((aa 11), .inl (cY 1, 60, .inl (m_nf tx))), ((aa 12), .inl (cY 4, 15, .inr (.inr (.inr (.inr (m_sa sa)))))), ((aa 6), .inr (4, [.ref (aa 14), .int (nI rc)])), ((aa 14), .inl (cY 0, 8, .inl (m_nf rf))), ((aa 7), .inr (4, [.ref (aa 15), .int (nI sn)])), ((aa 15), .inl (cY 0, 8, .inl (m_nf sf))), ((aa 8), .inr (0, [.ref (aa 16), .int (nI z)])), ((aa 16), .inl (cY 3, 4, .inr (.inr (.inr (.inr (m_k4 (aa 17) (aa 18) (aa 19) (aa 20))))))), ((aa 17), .inr (4, [.ref (aa 21), .int (nI t0)])), ((aa 21), .inl (cY 0, 8, .inl (m_nf g0))), ((aa 18), .inr (4, [.ref (aa 22), .int (nI t1)])), ((aa 22), .inl (cY 0, 8, .inl (m_nf g1))), ((aa 19), .inr (4, [.ref (aa 23), .int (nI t2)])), ((aa 23), .inl (cY 0, 8, .inl (m_nf g2))), ((aa 20), .inr (4, [.ref (aa 24), .int (nI t3)])), ((aa 24), .inl (cY 0, 8, .inl (m_nf g3))), ((aa 25), .inr (7, [.ref (aa 26), .ref (aa 27), .ref (aa 28), .int (nI z), .ref (aa 29), .int (nI sk), .int (nI th), .ref (aa 30), .int (nI len), .int (nI ta), .int yr, .int ys, .int yo, .int yf, .int ye, .ref (aa 31), .ref (aa 32)])), ((aa 26), .inl (cY 0, 9, .inl (m_nf (m_all f cnt)))), ((aa 27), .inl (cY 0, 9, .inl (m_nf (m_all kf kc)))), ((aa 29), .inl (cY 0, 9, .inl (m_nf (m_all sf sn)))), ((aa 28), .inl (cY 0, 36, .inl (m_nf rv))), ((aa 30), .inl (cY 0, 60, .inl (m_nf tx))), ((aa 31), .inl (cY 0, 16, .inl (m_nf cv))), ((aa 32), .inl (cY 0, 16, .inl (m_nf bv)))] ++ m_pool sa pt pg pf pe)) C0 hE hl hP hD hS (c_L_invert_x2 l hfl D cY eS eO (aa 1) (aa 2) (aa 3) (aa 4) (aa 5) (aa 6) (aa 7) (aa 8) sk (aa 13) cnt f k (aa 0) ov (by first | assumption | omega) (by first | assumption | omega) (by first | assumption | omega) (by first | assumption | omega)) (vx_cwSW 3 hts gL_law_L_invert rfl rfl rfl (by decide +kernel) ⟨Nat.le_of_ble_eq_true rfl, Nat.le_of_ble_eq_true rfl⟩) dL_law_244 [0, 1, 9, 10] [2, 3, 4, 5, 6, 7, 8, 11, 12, 13, 14, 15, 16, 17, 18, 19, 20, 21, 22, 23, 24, 25, 26, 27, 28, 29, 30, 31, 32, 33, 34, 35, 36, 37, 38, 39, 40, 41, 42, 43, 44, 45, 46, 47] rfl rfl (by decide) (by decide) (by decide) rfl (Nat.le_of_ble_eq_true rfl) (by omega) (by omega) (fun _ => rfl) (fun r2 u H1 locs hw hP hD hS => ?_)
  try dsimp only at hw
  obtain rfl := hw
  have hP : va_P D vwCl (law_w cY aa sa bp ov fr tf len sc cur tx f cnt rf rc sf sn z g0 g1 g2 g3 t0 t1 t2 t3 sk pt pg pf pe th ta yr ys yo yf ye kf kc rv cv bv f cnt sf sn z sk len tx) H1 := hP.sub (ws' := law_w cY aa sa bp ov fr tf len sc cur tx f cnt rf rc sf sn z g0 g1 g2 g3 t0 t1 t2 t3 sk pt pg pf pe th ta yr ys yo yf ye kf kc rv cv bv f cnt sf sn z sk len tx) [44, 45, 0, 1, 2, 3, 4, 5, 6, 46, 47, 7, 8, 9, 10, 11, 12, 13, 14, 15, 16, 17, 18, 19, 20, 21, 22, 23, 24, 25, 26, 27, 28, 29, 30, 31, 32, 33, 34, 35, 36, 37, 38, 39, 40, 41, 42, 43] rfl
  have hD : va_D A (law_w cY aa sa bp ov fr tf len sc cur tx f cnt rf rc sf sn z g0 g1 g2 g3 t0 t1 t2 t3 sk pt pg pf pe th ta yr ys yo yf ye kf kc rv cv bv f cnt sf sn z sk len tx) := hD.sub (ws' := law_w cY aa sa bp ov fr tf len sc cur tx f cnt rf rc sf sn z g0 g1 g2 g3 t0 t1 t2 t3 sk pt pg pf pe th ta yr ys yo yf ye kf kc rv cv bv f cnt sf sn z sk len tx) [44, 45, 0, 1, 2, 3, 4, 5, 6, 46, 47, 7, 8, 9, 10, 11, 12, 13, 14, 15, 16, 17, 18, 19, 20, 21, 22, 23, 24, 25, 26, 27, 28, 29, 30, 31, 32, 33, 34, 35, 36, 37, 38, 39, 40, 41, 42, 43] (by decide) rfl
  refine lv_istore (lv' := [(5, .int (nI 2)), (0, .ref b), (1, .ref (aa 1)), (2, .ref (aa 25)), (3, .ref (aa 0)), (4, .int (nI i))]) hx hb dL_law_247 hl (by decide) rfl (fun ls hl => ?_)
  refine lv_aload_n hx hb dL_law_249 rfl (lv_at hl 3 rfl) ?_
  refine lv_aload_n hx hb dL_law_250 rfl (lv_at hl 1 rfl) ?_
  refine lv_iload hx hb dL_law_251 (lv_at hl 5 rfl) ?_
  refine lv_iconst (v := nI 1) hx hb dL_law_253 (by decide) ?_
  refine lv_iadd hx hb dL_law_254 ?_
  refine lv_topi (nm_r (nI_add _ _) ?_)
  refine va_sld hx hb hX hbl hbA hS (i := nI (i + 1)) (m_in (n := i + 1) (by omega) (by omega)) dL_law_255 ?_
  refine lv_topi (nm_r (show _ = nI k from by rw [nI_clamp (by omega)]; exact hv1) ?_)
  refine m_callVi (As := [.int (nI k)]) (rest := []) C0 hl hP hD hS (c_X7_invert_f2 l D cY (aa 25) (aa 26) (aa 27) (aa 28) (aa 29) (aa 30) (aa 31) (aa 32) z sk th len ta yr ys yo yf ye f cnt k (by first | assumption | omega) (by first | assumption | omega) (by first | assumption | omega) (by first | assumption | omega)) (cwV 1 hts gL_law_X7_invert rfl rfl rfl (by decide +kernel) ⟨Nat.le_of_ble_eq_true rfl, Nat.le_of_ble_eq_true rfl⟩) dL_law_256 [25, 26] rfl rfl 25 rfl rfl rfl rfl (Nat.le_of_ble_eq_true rfl) (by omega) (by omega) (fun _ => rfl) (fun r4 u H3 locs hw hP hD hS => ?_)
  try dsimp only at hw
  obtain rfl := hw
  have hP : va_P D vwCl (law_w cY aa sa bp ov fr tf len sc cur tx f cnt rf rc sf sn z g0 g1 g2 g3 t0 t1 t2 t3 sk pt pg pf pe 2 ta yr ys yo yf ye kf kc rv cv bv f cnt sf sn z sk len tx) H3 := hP
  have hD : va_D A (law_w cY aa sa bp ov fr tf len sc cur tx f cnt rf rc sf sn z g0 g1 g2 g3 t0 t1 t2 t3 sk pt pg pf pe 2 ta yr ys yo yf ye kf kc rv cv bv f cnt sf sn z sk len tx) := hD
  refine lv_istore (lv' := [(6, .int (nI 0)), (5, .int (nI 2)), (0, .ref b), (1, .ref (aa 1)), (2, .ref (aa 25)), (3, .ref (aa 0)), (4, .int (nI i))]) hx hb dL_law_259 hl (by decide) rfl (fun ls hl => ?_)
  refine lv_aload_n hx hb dL_law_261 rfl (lv_at hl 4 rfl) ?_
  refine m_callVi (As := []) (rest := []) C0 hl hP hD hS (c_X7_thrown l D cY (aa 25) (aa 26) (aa 27) (aa 28) (aa 29) (aa 30) (aa 31) (aa 32) z sk 2 len ta yr ys yo yf ye ) (cwV 0 hts gL_law_X7_thrown rfl rfl rfl (by decide +kernel) ⟨Nat.le_of_ble_eq_true rfl, Nat.le_of_ble_eq_true rfl⟩) dL_law_262 [25] rfl rfl 25 rfl rfl rfl rfl (Nat.le_of_ble_eq_true rfl) (by omega) (by omega) (fun _ => rfl) (fun r6 u H5 locs hw hP hD hS => ?_)
  try dsimp only at hw
  obtain rfl := hw
  have hP : va_P D vwCl (law_w cY aa sa bp ov fr tf len sc cur tx f cnt rf rc sf sn z g0 g1 g2 g3 t0 t1 t2 t3 sk pt pg pf pe 2 ta yr ys yo yf ye kf kc rv cv bv f cnt sf sn z sk len tx) H5 := hP
  have hD : va_D A (law_w cY aa sa bp ov fr tf len sc cur tx f cnt rf rc sf sn z g0 g1 g2 g3 t0 t1 t2 t3 sk pt pg pf pe 2 ta yr ys yo yf ye kf kc rv cv bv f cnt sf sn z sk len tx) := hD
  refine lv_iload hx hb dL_law_265 (lv_at hl 1 rfl) ?_
  refine lv_icmp_eq (tgt := 272) hx hb dL_law_267 (by decide) (fun c267 => ?_) (fun c267 => ?_)
  rotate_left
  · exact absurd rfl c267
  refine lv_iload hx hb dL_law_272 (lv_at hl 1 rfl) ?_
  refine lv_if_ne (tgt := 289) hx hb dL_law_274 (by decide) (fun c274 => ?_) (fun c274 => ?_)
  rotate_left
  · exact absurd c274 (by decide)
  refine lv_goto (tgt := 1541) hx hb dL_law_289 (by decide) ?_
  refine W.widen (k := cells + 1) (n := slots + 6) (by omega) (by omega) ?_
  exact kk ov fr tf len sc cur tx f cnt rf rc sf sn z g0 g1 g2 g3 t0 t1 t2 t3 sk pt pg pf pe 2 ta yr ys yo yf ye kf kc rv cv bv _ _ ls (hI) hP hD hS (lv_sub hl [2, 3, 4, 5, 6] rfl)
set_option maxHeartbeats 4000000 in
set_option maxRecDepth 100000 in
theorem v_invert_ok {p : Program} {l : Launch} {e : Env} {s : State} {m : MethodId} {below : List Frame} {meth : Method} {c : Code} {b L : Nat} {xs : Nat → Int32} {D : va_G} {cY : Nat → ClassId} {A : Nat → Prop} {eS : Nat → Nat} {eO : Nat} {Q : State → Prop} {aa sa bp : Nat → Nat} (F : law_F p l e s m meth c b L xs D cY A eS eO bp) {ov : Nat → Int64} {fr : Nat} {tf : Nat → Nat} {len : Nat} {sc : Nat} {cur : Nat} {tx : Nat → Nat} {f : Nat → Nat} {cnt : Nat} {rf : Nat → Nat} {rc : Nat} {sf : Nat → Nat} {sn : Nat} {z : Nat} {g0 : Nat → Nat} {g1 : Nat → Nat} {g2 : Nat → Nat} {g3 : Nat → Nat} {t0 : Nat} {t1 : Nat} {t2 : Nat} {t3 : Nat} {sk : Nat} {pt : Nat → Int32} {pg : Nat → Int32} {pf : Nat → Int32} {pe : Nat → Int32} {th : Nat} {ta : Nat} {yr : Int32} {ys : Int32} {yo : Int32} {yf : Int32} {ye : Int32} {kf : Nat → Nat} {kc : Nat} {rv : Nat → Nat} {cv : Nat → Nat} {bv : Nat → Nat} {i : Nat} (hi : i + 2 < L) {H : Heap} {locs : List Loc} {ls : Array Slot} {cells slots : Nat} (hcl : cells + 1 ≤ room_1.cells) (hsl : slots + 6 ≤ room_1.slots) (k : Nat) (hk : k < 8) (hz : ¬ f k = 0) (hv1 : xs (i + 1) = nI k)
    (hI : law_I fr tf len tx f rf sf z g0 g1 g2 g3 t0 t1 t2 t3 sk rv) (hP : va_P D vwCl (law_w cY aa sa bp ov fr tf len sc cur tx f cnt rf rc sf sn z g0 g1 g2 g3 t0 t1 t2 t3 sk pt pg pf pe th ta yr ys yo yf ye kf kc rv cv bv f cnt sf sn z sk len tx) H) (hD : va_D A (law_w cY aa sa bp ov fr tf len sc cur tx f cnt rf rc sf sn z g0 g1 g2 g3 t0 t1 t2 t3 sk pt pg pf pe th ta yr ys yo yf ye kf kc rv cv bv f cnt sf sn z sk len tx)) (hS : va_S A s.heap H locs) (hl : lv_has ls 7 [(0, .ref b), (1, .ref (aa 1)), (2, .ref (aa 25)), (3, .ref (aa 0)), (4, .int (nI i))]) (kk : law_K p l e s m below meth c b D cY A Q aa sa bp i (cells + 1) (slots + 6)) :
    W p l e room_1 s m #[.ref b] below meth c H locs cells slots Q (F0 m 236 ls []) := by
  obtain ⟨C0, hE, hX, hbl, hbA, hL, hB, hfl⟩ := id F
  obtain ⟨hx, hb, hr, hml, hts, hown, hlocks, hK, hA⟩ := id C0
  obtain ⟨⟨hf8, hf16⟩, hrf8, ⟨hsf8, hsf16⟩, ⟨⟨hg0, hg0b⟩, ⟨hg1, hg1b⟩, ⟨hg2, hg2b⟩, ⟨hg3, hg3b⟩⟩, hz4, ⟨hfr, htf⟩, ⟨hlen, htx⟩, hsk, hh, hrec, hH⟩ := id hI
  refine lv_aload_n hx hb dL_law_236 rfl (lv_at hl 1 rfl) ?_
  refine lv_aload_n hx hb dL_law_237 rfl (lv_at hl 0 rfl) ?_
  refine lv_iload hx hb dL_law_238 (lv_at hl 4 rfl) ?_
  refine lv_iconst (v := nI 1) hx hb dL_law_240 (by decide) ?_
  refine lv_iadd hx hb dL_law_241 ?_
  refine lv_topi (nm_r (nI_add _ _) ?_)
  refine va_sld hx hb hX hbl hbA hS (i := nI (i + 1)) (m_in (n := i + 1) (by omega) (by omega)) dL_law_242 ?_
  refine lv_topi (nm_r (show _ = nI k from by rw [nI_clamp (by omega)]; exact hv1) ?_)
  refine lv_aload_n hx hb dL_law_243 rfl (lv_at hl 3 rfl) ?_
  refine m_callTji (As := [.ref (aa 1), .int (nI k), .ref (aa 0)]) (rest := []) (wr := ([((aa 3), .inr (1, [.ref (aa 10), .int (nI fr)])), ((aa 10), .inl (cY 0, 256, .inl (m_nf tf))), ((aa 4), .inr (3, [.ref (aa 11), .ref (aa 12), .int (nI len), .int (nI sc), .int (nI cur)])), ((aa 11), .inl (cY 1, 60, .inl (m_nf tx))), ((aa 12), .inl (cY 4, 15, .inr (.inr (.inr (.inr (m_sa sa)))))), ((aa 6), .inr (4, [.ref (aa 14), .int (nI rc)])), ((aa 14), .inl (cY 0, 8, .inl (m_nf rf))), ((aa 7), .inr (4, [.ref (aa 15), .int (nI sn)])), ((aa 15), .inl (cY 0, 8, .inl (m_nf sf))), ((aa 25), .inr (7, [.ref (aa 26), .ref (aa 27), .ref (aa 28), .int (nI z), .ref (aa 29), .int (nI sk), .int (nI th), .ref (aa 30), .int (nI len), .int (nI ta), .int yr, .int ys, .int yo, .int yf, .int ye, .ref (aa 31), .ref (aa 32)])), ((aa 26), .inl (cY 0, 9, .inl (m_nf (m_all f cnt)))), ((aa 27), .inl (cY 0, 9, .inl (m_nf (m_all kf kc)))), ((aa 29), .inl (cY 0, 9, .inl (m_nf (m_all sf sn)))), ((aa 28), .inl (cY 0, 36, .inl (m_nf rv))), ((aa 30), .inl (cY 0, 60, .inl (m_nf tx))), ((aa 31), .inl (cY 0, 16, .inl (m_nf cv))), ((aa 32), .inl (cY 0, 16, .inl (m_nf bv)))] ++ m_pool sa pt pg pf pe)) C0 hl hP hD hS (c_L_invert_ok l D cY (aa 1) (aa 2) (aa 3) (aa 4) (aa 5) (aa 6) (aa 7) (aa 8) sk (aa 13) cnt f (aa 16) z (aa 17) (aa 18) (aa 19) (aa 20) (aa 21) (aa 22) (aa 23) (aa 24) t0 t1 t2 t3 g0 g1 g2 g3 (aa 9) bp k (aa 0) ov (by first | assumption | omega) (by first | assumption | omega) (by first | assumption | omega) (by first | assumption | omega) (by first | assumption | omega) (by first | assumption | omega) (by first | assumption | omega) (by first | assumption | omega) (by first | assumption | omega) (by first | assumption | omega)) (vx_cwSW 3 hts gL_law_L_invert rfl rfl rfl (by decide +kernel) ⟨Nat.le_of_ble_eq_true rfl, Nat.le_of_ble_eq_true rfl⟩) dL_law_244 [0, 1, 9, 10, 15, 16, 17, 18, 19, 20, 21, 22, 23, 24, 2, 3] [4, 5, 6, 7, 8, 11, 12, 13, 14, 25, 26, 27, 28, 29, 30, 31, 32, 33, 34, 35, 36, 37, 38, 39, 40, 41, 42, 43, 44, 45, 46, 47] rfl rfl (by decide) (by decide) (by decide) rfl (Nat.le_of_ble_eq_true rfl) (by omega) (by omega) (fun _ => rfl) (fun r2 u H1 locs hw hP hD hS => ?_)
  try dsimp only at hw
  obtain rfl := hw
  have hP : va_P D vwCl (law_w cY aa sa bp (vp_updL ov 0 (Int32.toInt64 (nI (np (f k) 65534)))) fr tf len sc cur tx (m_up f k (np (f k) 65534)) cnt rf rc sf sn (min (z + 1) 4) f g0 g1 g2 cnt t0 t1 t2 sk pt pg pf pe th ta yr ys yo yf ye kf kc rv cv bv f cnt sf sn z sk len tx) H1 := hP.sub (ws' := law_w cY aa sa bp (vp_updL ov 0 (Int32.toInt64 (nI (np (f k) 65534)))) fr tf len sc cur tx (m_up f k (np (f k) 65534)) cnt rf rc sf sn (min (z + 1) 4) f g0 g1 g2 cnt t0 t1 t2 sk pt pg pf pe th ta yr ys yo yf ye kf kc rv cv bv f cnt sf sn z sk len tx) [32, 33, 46, 47, 0, 1, 2, 3, 4, 34, 35, 5, 6, 7, 8, 36, 37, 38, 39, 40, 41, 42, 43, 44, 45, 9, 10, 11, 12, 13, 14, 15, 16, 17, 18, 19, 20, 21, 22, 23, 24, 25, 26, 27, 28, 29, 30, 31] rfl
  have hD : va_D A (law_w cY aa sa bp (vp_updL ov 0 (Int32.toInt64 (nI (np (f k) 65534)))) fr tf len sc cur tx (m_up f k (np (f k) 65534)) cnt rf rc sf sn (min (z + 1) 4) f g0 g1 g2 cnt t0 t1 t2 sk pt pg pf pe th ta yr ys yo yf ye kf kc rv cv bv f cnt sf sn z sk len tx) := hD.sub (ws' := law_w cY aa sa bp (vp_updL ov 0 (Int32.toInt64 (nI (np (f k) 65534)))) fr tf len sc cur tx (m_up f k (np (f k) 65534)) cnt rf rc sf sn (min (z + 1) 4) f g0 g1 g2 cnt t0 t1 t2 sk pt pg pf pe th ta yr ys yo yf ye kf kc rv cv bv f cnt sf sn z sk len tx) [32, 33, 46, 47, 0, 1, 2, 3, 4, 34, 35, 5, 6, 7, 8, 36, 37, 38, 39, 40, 41, 42, 43, 44, 45, 9, 10, 11, 12, 13, 14, 15, 16, 17, 18, 19, 20, 21, 22, 23, 24, 25, 26, 27, 28, 29, 30, 31] (by decide) rfl
  refine lv_istore (lv' := [(5, .int (nI 0)), (0, .ref b), (1, .ref (aa 1)), (2, .ref (aa 25)), (3, .ref (aa 0)), (4, .int (nI i))]) hx hb dL_law_247 hl (by decide) rfl (fun ls hl => ?_)
  refine lv_aload_n hx hb dL_law_249 rfl (lv_at hl 3 rfl) ?_
  refine lv_aload_n hx hb dL_law_250 rfl (lv_at hl 1 rfl) ?_
  refine lv_iload hx hb dL_law_251 (lv_at hl 5 rfl) ?_
  refine lv_iconst (v := nI 1) hx hb dL_law_253 (by decide) ?_
  refine lv_iadd hx hb dL_law_254 ?_
  refine lv_topi (nm_r (nI_add _ _) ?_)
  refine va_sld hx hb hX hbl hbA hS (i := nI (i + 1)) (m_in (n := i + 1) (by omega) (by omega)) dL_law_255 ?_
  refine lv_topi (nm_r (show _ = nI k from by rw [nI_clamp (by omega)]; exact hv1) ?_)
  refine m_callVi (As := [.int (nI k)]) (rest := []) C0 hl hP hD hS (c_X7_invert_ok l D cY (aa 25) (aa 26) (aa 27) (aa 28) (aa 29) (aa 30) (aa 31) (aa 32) z sk th len ta yr ys yo yf ye f cnt rv hh k (by first | assumption | omega) (by first | assumption | omega) (by first | assumption | omega) (by first | assumption | omega) (by first | assumption | omega) (by first | assumption | omega)) (cwV 1 hts gL_law_X7_invert rfl rfl rfl (by decide +kernel) ⟨Nat.le_of_ble_eq_true rfl, Nat.le_of_ble_eq_true rfl⟩) dL_law_256 [25, 26, 29] rfl rfl 25 rfl rfl rfl rfl (Nat.le_of_ble_eq_true rfl) (by omega) (by omega) (fun _ => rfl) (fun r4 u H3 locs hw hP hD hS => ?_)
  obtain ⟨rv9_5, rfl⟩ : ∃ z, z = u := ⟨_, rfl⟩
  try dsimp only at hw
  obtain ⟨rfl, hq6⟩ := hw
  have hP : va_P D vwCl (law_w cY aa sa bp (vp_updL ov 0 (Int32.toInt64 (nI (np (f k) 65534)))) fr tf len sc cur tx (m_up f k (np (f k) 65534)) cnt rf rc sf sn (min (z + 1) 4) f g0 g1 g2 cnt t0 t1 t2 sk pt pg pf pe 0 ta yr ys yo yf ye kf kc rv9_5 cv bv (m_up f k (np (f k) 65534)) cnt sf sn (min (z + 1) 4) sk len tx) H3 := hP
  have hD : va_D A (law_w cY aa sa bp (vp_updL ov 0 (Int32.toInt64 (nI (np (f k) 65534)))) fr tf len sc cur tx (m_up f k (np (f k) 65534)) cnt rf rc sf sn (min (z + 1) 4) f g0 g1 g2 cnt t0 t1 t2 sk pt pg pf pe 0 ta yr ys yo yf ye kf kc rv9_5 cv bv (m_up f k (np (f k) 65534)) cnt sf sn (min (z + 1) 4) sk len tx) := hD
  refine lv_istore (lv' := [(6, .int (nI (np (f k) 65534))), (5, .int (nI 0)), (0, .ref b), (1, .ref (aa 1)), (2, .ref (aa 25)), (3, .ref (aa 0)), (4, .int (nI i))]) hx hb dL_law_259 hl (by decide) rfl (fun ls hl => ?_)
  refine lv_aload_n hx hb dL_law_261 rfl (lv_at hl 4 rfl) ?_
  refine m_callVi (As := []) (rest := []) C0 hl hP hD hS (c_X7_thrown l D cY (aa 25) (aa 26) (aa 27) (aa 28) (aa 29) (aa 30) (aa 31) (aa 32) (min (z + 1) 4) sk 0 len ta yr ys yo yf ye ) (cwV 0 hts gL_law_X7_thrown rfl rfl rfl (by decide +kernel) ⟨Nat.le_of_ble_eq_true rfl, Nat.le_of_ble_eq_true rfl⟩) dL_law_262 [25] rfl rfl 25 rfl rfl rfl rfl (Nat.le_of_ble_eq_true rfl) (by omega) (by omega) (fun _ => rfl) (fun r8 u H7 locs hw hP hD hS => ?_)
  try dsimp only at hw
  obtain rfl := hw
  have hP : va_P D vwCl (law_w cY aa sa bp (vp_updL ov 0 (Int32.toInt64 (nI (np (f k) 65534)))) fr tf len sc cur tx (m_up f k (np (f k) 65534)) cnt rf rc sf sn (min (z + 1) 4) f g0 g1 g2 cnt t0 t1 t2 sk pt pg pf pe 0 ta yr ys yo yf ye kf kc rv9_5 cv bv (m_up f k (np (f k) 65534)) cnt sf sn (min (z + 1) 4) sk len tx) H7 := hP
  have hD : va_D A (law_w cY aa sa bp (vp_updL ov 0 (Int32.toInt64 (nI (np (f k) 65534)))) fr tf len sc cur tx (m_up f k (np (f k) 65534)) cnt rf rc sf sn (min (z + 1) 4) f g0 g1 g2 cnt t0 t1 t2 sk pt pg pf pe 0 ta yr ys yo yf ye kf kc rv9_5 cv bv (m_up f k (np (f k) 65534)) cnt sf sn (min (z + 1) 4) sk len tx) := hD
  refine lv_iload hx hb dL_law_265 (lv_at hl 1 rfl) ?_
  refine lv_icmp_eq (tgt := 272) hx hb dL_law_267 (by decide) (fun c267 => ?_) (fun c267 => ?_)
  rotate_left
  · exact absurd rfl c267
  refine lv_iload hx hb dL_law_272 (lv_at hl 1 rfl) ?_
  refine lv_if_ne (tgt := 289) hx hb dL_law_274 (by decide) (fun c274 => ?_) (fun c274 => ?_)
  · exact absurd rfl c274
  refine lv_aload_n hx hb dL_law_277 rfl (lv_at hl 5 rfl) ?_
  refine lv_iconst (v := nI 0) hx hb dL_law_278 (by decide) ?_
  refine va_lald hx hb hK hP 0 2 rfl rfl (m_in (n := 0) (by decide) (by decide)) dL_law_279 ?_
  refine lv_topl (nm_r (show _ = Int32.toInt64 (nI (np (f k) 65534)) from by rw [nI_clamp (by decide)]; exact if_pos rfl) ?_)
  refine lv_iload hx hb dL_law_280 (lv_at hl 0 rfl) ?_
  refine lv_i2l (v := Int32.toInt64 (nI (np (f k) 65534))) hx hb dL_law_282 rfl ?_
  refine W.lcmp hx hb dL_law_283 ?_
  refine lv_topi (nm_r (m_cmp_self _) ?_)
  refine lv_if_eq (tgt := 289) hx hb dL_law_284 (by decide) (fun c284 => ?_) (fun c284 => ?_)
  rotate_left
  · exact absurd rfl c284
  refine lv_goto (tgt := 1541) hx hb dL_law_289 (by decide) ?_
  refine W.widen (k := cells + 1) (n := slots + 6) (by omega) (by omega) ?_
  exact kk (vp_updL ov 0 (Int32.toInt64 (nI (np (f k) 65534)))) fr tf len sc cur tx (m_up f k (np (f k) 65534)) cnt rf rc sf sn (min (z + 1) 4) f g0 g1 g2 cnt t0 t1 t2 sk pt pg pf pe 0 ta yr ys yo yf ye kf kc rv9_5 cv bv _ _ ls (law_I_rec hI hH (law_g_up ⟨hf8, hf16⟩ hk (np_lt _ _)) (hrf8) hq6) hP hD hS (lv_sub hl [2, 3, 4, 5, 6] rfl)
set_option maxHeartbeats 4000000 in
set_option maxRecDepth 100000 in
theorem v_takeRoot_x1 {p : Program} {l : Launch} {e : Env} {s : State} {m : MethodId} {below : List Frame} {meth : Method} {c : Code} {b L : Nat} {xs : Nat → Int32} {D : va_G} {cY : Nat → ClassId} {A : Nat → Prop} {eS : Nat → Nat} {eO : Nat} {Q : State → Prop} {aa sa bp : Nat → Nat} (F : law_F p l e s m meth c b L xs D cY A eS eO bp) {ov : Nat → Int64} {fr : Nat} {tf : Nat → Nat} {len : Nat} {sc : Nat} {cur : Nat} {tx : Nat → Nat} {f : Nat → Nat} {cnt : Nat} {rf : Nat → Nat} {rc : Nat} {sf : Nat → Nat} {sn : Nat} {z : Nat} {g0 : Nat → Nat} {g1 : Nat → Nat} {g2 : Nat → Nat} {g3 : Nat → Nat} {t0 : Nat} {t1 : Nat} {t2 : Nat} {t3 : Nat} {sk : Nat} {pt : Nat → Int32} {pg : Nat → Int32} {pf : Nat → Int32} {pe : Nat → Int32} {th : Nat} {ta : Nat} {yr : Int32} {ys : Int32} {yo : Int32} {yf : Int32} {ye : Int32} {kf : Nat → Nat} {kc : Nat} {rv : Nat → Nat} {cv : Nat → Nat} {bv : Nat → Nat} {i : Nat} (hi : i + 2 < L) {H : Heap} {locs : List Loc} {ls : Array Slot} {cells slots : Nat} (hcl : cells + 1 ≤ room_1.cells) (hsl : slots + 6 ≤ room_1.slots) (x : Int32) (hn : ¬ m_isR x) (hv1 : xs (i + 1) = x)
    (hI : law_I fr tf len tx f rf sf z g0 g1 g2 g3 t0 t1 t2 t3 sk rv) (hP : va_P D vwCl (law_w cY aa sa bp ov fr tf len sc cur tx f cnt rf rc sf sn z g0 g1 g2 g3 t0 t1 t2 t3 sk pt pg pf pe th ta yr ys yo yf ye kf kc rv cv bv f cnt sf sn z sk len tx) H) (hD : va_D A (law_w cY aa sa bp ov fr tf len sc cur tx f cnt rf rc sf sn z g0 g1 g2 g3 t0 t1 t2 t3 sk pt pg pf pe th ta yr ys yo yf ye kf kc rv cv bv f cnt sf sn z sk len tx)) (hS : va_S A s.heap H locs) (hl : lv_has ls 7 [(0, .ref b), (1, .ref (aa 1)), (2, .ref (aa 25)), (3, .ref (aa 0)), (4, .int (nI i))]) (kk : law_K p l e s m below meth c b D cY A Q aa sa bp i (cells + 1) (slots + 6)) :
    W p l e room_1 s m #[.ref b] below meth c H locs cells slots Q (F0 m 292 ls []) := by
  obtain ⟨C0, hE, hX, hbl, hbA, hL, hB, hfl⟩ := id F
  obtain ⟨hx, hb, hr, hml, hts, hown, hlocks, hK, hA⟩ := id C0
  obtain ⟨⟨hf8, hf16⟩, hrf8, ⟨hsf8, hsf16⟩, ⟨⟨hg0, hg0b⟩, ⟨hg1, hg1b⟩, ⟨hg2, hg2b⟩, ⟨hg3, hg3b⟩⟩, hz4, ⟨hfr, htf⟩, ⟨hlen, htx⟩, hsk, hh, hrec, hH⟩ := id hI
  refine lv_aload_n hx hb dL_law_292 rfl (lv_at hl 1 rfl) ?_
  refine lv_aload_n hx hb dL_law_293 rfl (lv_at hl 0 rfl) ?_
  refine lv_iload hx hb dL_law_294 (lv_at hl 4 rfl) ?_
  refine lv_iconst (v := nI 1) hx hb dL_law_296 (by decide) ?_
  refine lv_iadd hx hb dL_law_297 ?_
  refine lv_topi (nm_r (nI_add _ _) ?_)
  refine va_sld hx hb hX hbl hbA hS (i := nI (i + 1)) (m_in (n := i + 1) (by omega) (by omega)) dL_law_298 ?_
  refine lv_topi (nm_r (show _ = x from by rw [nI_clamp (by omega)]; exact hv1) ?_)
  refine lv_aload_n hx hb dL_law_299 rfl (lv_at hl 3 rfl) ?_
  refine m_callTe (As := [.ref (aa 1), .int x, .ref (aa 0)]) (rest := []) C0 hE hl hP hD hS (c_L_takeRoot_x1 l hfl D cY eS eO (aa 1) (aa 2) (aa 3) (aa 4) (aa 5) (aa 6) (aa 7) (aa 8) sk x (aa 0) ov (by first | assumption | omega)) (vx_cwSW 3 hts gL_law_L_takeRoot rfl rfl rfl (by decide +kernel) ⟨Nat.le_of_ble_eq_true rfl, Nat.le_of_ble_eq_true rfl⟩) dL_law_300 [0, 1] rfl rfl rfl (Nat.le_of_ble_eq_true rfl) (by omega) (by omega) (fun _ => rfl) (fun r2 u H1 locs hw hP hD hS => ?_)
  try dsimp only at hw
  obtain rfl := hw
  have hP : va_P D vwCl (law_w cY aa sa bp ov fr tf len sc cur tx f cnt rf rc sf sn z g0 g1 g2 g3 t0 t1 t2 t3 sk pt pg pf pe th ta yr ys yo yf ye kf kc rv cv bv f cnt sf sn z sk len tx) H1 := hP
  have hD : va_D A (law_w cY aa sa bp ov fr tf len sc cur tx f cnt rf rc sf sn z g0 g1 g2 g3 t0 t1 t2 t3 sk pt pg pf pe th ta yr ys yo yf ye kf kc rv cv bv f cnt sf sn z sk len tx) := hD
  refine lv_istore (lv' := [(5, .int (nI 1)), (0, .ref b), (1, .ref (aa 1)), (2, .ref (aa 25)), (3, .ref (aa 0)), (4, .int (nI i))]) hx hb dL_law_303 hl (by decide) rfl (fun ls hl => ?_)
  refine lv_aload_n hx hb dL_law_305 rfl (lv_at hl 3 rfl) ?_
  refine lv_aload_n hx hb dL_law_306 rfl (lv_at hl 1 rfl) ?_
  refine lv_iload hx hb dL_law_307 (lv_at hl 5 rfl) ?_
  refine lv_iconst (v := nI 1) hx hb dL_law_309 (by decide) ?_
  refine lv_iadd hx hb dL_law_310 ?_
  refine lv_topi (nm_r (nI_add _ _) ?_)
  refine va_sld hx hb hX hbl hbA hS (i := nI (i + 1)) (m_in (n := i + 1) (by omega) (by omega)) dL_law_311 ?_
  refine lv_topi (nm_r (show _ = x from by rw [nI_clamp (by omega)]; exact hv1) ?_)
  refine m_callVi (As := [.int x]) (rest := []) C0 hl hP hD hS (c_X7_takeRoot_f1 l D cY (aa 25) (aa 26) (aa 27) (aa 28) (aa 29) (aa 30) (aa 31) (aa 32) z sk th len ta yr ys yo yf ye x (by first | assumption | omega)) (cwV 1 hts gL_law_X7_takeRoot rfl rfl rfl (by decide +kernel) ⟨Nat.le_of_ble_eq_true rfl, Nat.le_of_ble_eq_true rfl⟩) dL_law_312 [25] rfl rfl 25 rfl rfl rfl rfl (Nat.le_of_ble_eq_true rfl) (by omega) (by omega) (fun _ => rfl) (fun r4 u H3 locs hw hP hD hS => ?_)
  try dsimp only at hw
  obtain rfl := hw
  have hP : va_P D vwCl (law_w cY aa sa bp ov fr tf len sc cur tx f cnt rf rc sf sn z g0 g1 g2 g3 t0 t1 t2 t3 sk pt pg pf pe 1 ta yr ys yo yf ye kf kc rv cv bv f cnt sf sn z sk len tx) H3 := hP
  have hD : va_D A (law_w cY aa sa bp ov fr tf len sc cur tx f cnt rf rc sf sn z g0 g1 g2 g3 t0 t1 t2 t3 sk pt pg pf pe 1 ta yr ys yo yf ye kf kc rv cv bv f cnt sf sn z sk len tx) := hD
  refine lv_istore (lv' := [(6, .int (nI 0)), (5, .int (nI 1)), (0, .ref b), (1, .ref (aa 1)), (2, .ref (aa 25)), (3, .ref (aa 0)), (4, .int (nI i))]) hx hb dL_law_315 hl (by decide) rfl (fun ls hl => ?_)
  refine lv_aload_n hx hb dL_law_317 rfl (lv_at hl 4 rfl) ?_
  refine m_callVi (As := []) (rest := []) C0 hl hP hD hS (c_X7_thrown l D cY (aa 25) (aa 26) (aa 27) (aa 28) (aa 29) (aa 30) (aa 31) (aa 32) z sk 1 len ta yr ys yo yf ye ) (cwV 0 hts gL_law_X7_thrown rfl rfl rfl (by decide +kernel) ⟨Nat.le_of_ble_eq_true rfl, Nat.le_of_ble_eq_true rfl⟩) dL_law_318 [25] rfl rfl 25 rfl rfl rfl rfl (Nat.le_of_ble_eq_true rfl) (by omega) (by omega) (fun _ => rfl) (fun r6 u H5 locs hw hP hD hS => ?_)
  try dsimp only at hw
  obtain rfl := hw
  have hP : va_P D vwCl (law_w cY aa sa bp ov fr tf len sc cur tx f cnt rf rc sf sn z g0 g1 g2 g3 t0 t1 t2 t3 sk pt pg pf pe 1 ta yr ys yo yf ye kf kc rv cv bv f cnt sf sn z sk len tx) H5 := hP
  have hD : va_D A (law_w cY aa sa bp ov fr tf len sc cur tx f cnt rf rc sf sn z g0 g1 g2 g3 t0 t1 t2 t3 sk pt pg pf pe 1 ta yr ys yo yf ye kf kc rv cv bv f cnt sf sn z sk len tx) := hD
  refine lv_iload hx hb dL_law_321 (lv_at hl 1 rfl) ?_
  refine lv_icmp_eq (tgt := 328) hx hb dL_law_323 (by decide) (fun c323 => ?_) (fun c323 => ?_)
  rotate_left
  · exact absurd rfl c323
  refine lv_iload hx hb dL_law_328 (lv_at hl 1 rfl) ?_
  refine lv_if_ne (tgt := 345) hx hb dL_law_330 (by decide) (fun c330 => ?_) (fun c330 => ?_)
  rotate_left
  · exact absurd c330 (by decide)
  refine lv_goto (tgt := 1541) hx hb dL_law_345 (by decide) ?_
  refine W.widen (k := cells + 1) (n := slots + 6) (by omega) (by omega) ?_
  exact kk ov fr tf len sc cur tx f cnt rf rc sf sn z g0 g1 g2 g3 t0 t1 t2 t3 sk pt pg pf pe 1 ta yr ys yo yf ye kf kc rv cv bv _ _ ls (hI) hP hD hS (lv_sub hl [2, 3, 4, 5, 6] rfl)
set_option maxHeartbeats 4000000 in
set_option maxRecDepth 100000 in
theorem v_takeRoot_ok {p : Program} {l : Launch} {e : Env} {s : State} {m : MethodId} {below : List Frame} {meth : Method} {c : Code} {b L : Nat} {xs : Nat → Int32} {D : va_G} {cY : Nat → ClassId} {A : Nat → Prop} {eS : Nat → Nat} {eO : Nat} {Q : State → Prop} {aa sa bp : Nat → Nat} (F : law_F p l e s m meth c b L xs D cY A eS eO bp) {ov : Nat → Int64} {fr : Nat} {tf : Nat → Nat} {len : Nat} {sc : Nat} {cur : Nat} {tx : Nat → Nat} {f : Nat → Nat} {cnt : Nat} {rf : Nat → Nat} {rc : Nat} {sf : Nat → Nat} {sn : Nat} {z : Nat} {g0 : Nat → Nat} {g1 : Nat → Nat} {g2 : Nat → Nat} {g3 : Nat → Nat} {t0 : Nat} {t1 : Nat} {t2 : Nat} {t3 : Nat} {sk : Nat} {pt : Nat → Int32} {pg : Nat → Int32} {pf : Nat → Int32} {pe : Nat → Int32} {th : Nat} {ta : Nat} {yr : Int32} {ys : Int32} {yo : Int32} {yf : Int32} {ye : Int32} {kf : Nat → Nat} {kc : Nat} {rv : Nat → Nat} {cv : Nat → Nat} {bv : Nat → Nat} {i : Nat} (hi : i + 2 < L) {H : Heap} {locs : List Loc} {ls : Array Slot} {cells slots : Nat} (hcl : cells + 1 ≤ room_1.cells) (hsl : slots + 6 ≤ room_1.slots) (k : Nat) (hk : k < 8) (hv1 : xs (i + 1) = nI k)
    (hI : law_I fr tf len tx f rf sf z g0 g1 g2 g3 t0 t1 t2 t3 sk rv) (hP : va_P D vwCl (law_w cY aa sa bp ov fr tf len sc cur tx f cnt rf rc sf sn z g0 g1 g2 g3 t0 t1 t2 t3 sk pt pg pf pe th ta yr ys yo yf ye kf kc rv cv bv f cnt sf sn z sk len tx) H) (hD : va_D A (law_w cY aa sa bp ov fr tf len sc cur tx f cnt rf rc sf sn z g0 g1 g2 g3 t0 t1 t2 t3 sk pt pg pf pe th ta yr ys yo yf ye kf kc rv cv bv f cnt sf sn z sk len tx)) (hS : va_S A s.heap H locs) (hl : lv_has ls 7 [(0, .ref b), (1, .ref (aa 1)), (2, .ref (aa 25)), (3, .ref (aa 0)), (4, .int (nI i))]) (kk : law_K p l e s m below meth c b D cY A Q aa sa bp i (cells + 1) (slots + 6)) :
    W p l e room_1 s m #[.ref b] below meth c H locs cells slots Q (F0 m 292 ls []) := by
  obtain ⟨C0, hE, hX, hbl, hbA, hL, hB, hfl⟩ := id F
  obtain ⟨hx, hb, hr, hml, hts, hown, hlocks, hK, hA⟩ := id C0
  obtain ⟨⟨hf8, hf16⟩, hrf8, ⟨hsf8, hsf16⟩, ⟨⟨hg0, hg0b⟩, ⟨hg1, hg1b⟩, ⟨hg2, hg2b⟩, ⟨hg3, hg3b⟩⟩, hz4, ⟨hfr, htf⟩, ⟨hlen, htx⟩, hsk, hh, hrec, hH⟩ := id hI
  refine lv_aload_n hx hb dL_law_292 rfl (lv_at hl 1 rfl) ?_
  refine lv_aload_n hx hb dL_law_293 rfl (lv_at hl 0 rfl) ?_
  refine lv_iload hx hb dL_law_294 (lv_at hl 4 rfl) ?_
  refine lv_iconst (v := nI 1) hx hb dL_law_296 (by decide) ?_
  refine lv_iadd hx hb dL_law_297 ?_
  refine lv_topi (nm_r (nI_add _ _) ?_)
  refine va_sld hx hb hX hbl hbA hS (i := nI (i + 1)) (m_in (n := i + 1) (by omega) (by omega)) dL_law_298 ?_
  refine lv_topi (nm_r (show _ = nI k from by rw [nI_clamp (by omega)]; exact hv1) ?_)
  refine lv_aload_n hx hb dL_law_299 rfl (lv_at hl 3 rfl) ?_
  refine m_callTji (As := [.ref (aa 1), .int (nI k), .ref (aa 0)]) (rest := []) (wr := ([((aa 3), .inr (1, [.ref (aa 10), .int (nI fr)])), ((aa 10), .inl (cY 0, 256, .inl (m_nf tf))), ((aa 4), .inr (3, [.ref (aa 11), .ref (aa 12), .int (nI len), .int (nI sc), .int (nI cur)])), ((aa 11), .inl (cY 1, 60, .inl (m_nf tx))), ((aa 12), .inl (cY 4, 15, .inr (.inr (.inr (.inr (m_sa sa)))))), ((aa 6), .inr (4, [.ref (aa 14), .int (nI rc)])), ((aa 14), .inl (cY 0, 8, .inl (m_nf rf))), ((aa 7), .inr (4, [.ref (aa 15), .int (nI sn)])), ((aa 15), .inl (cY 0, 8, .inl (m_nf sf))), ((aa 25), .inr (7, [.ref (aa 26), .ref (aa 27), .ref (aa 28), .int (nI z), .ref (aa 29), .int (nI sk), .int (nI th), .ref (aa 30), .int (nI len), .int (nI ta), .int yr, .int ys, .int yo, .int yf, .int ye, .ref (aa 31), .ref (aa 32)])), ((aa 26), .inl (cY 0, 9, .inl (m_nf (m_all f cnt)))), ((aa 27), .inl (cY 0, 9, .inl (m_nf (m_all kf kc)))), ((aa 29), .inl (cY 0, 9, .inl (m_nf (m_all sf sn)))), ((aa 28), .inl (cY 0, 36, .inl (m_nf rv))), ((aa 30), .inl (cY 0, 60, .inl (m_nf tx))), ((aa 31), .inl (cY 0, 16, .inl (m_nf cv))), ((aa 32), .inl (cY 0, 16, .inl (m_nf bv)))] ++ m_pool sa pt pg pf pe)) C0 hl hP hD hS (c_L_takeRoot_ok l D cY (aa 1) (aa 2) (aa 3) (aa 4) (aa 5) (aa 6) (aa 7) (aa 8) sk (aa 13) cnt f (aa 16) z (aa 17) (aa 18) (aa 19) (aa 20) (aa 21) (aa 22) (aa 23) (aa 24) t0 t1 t2 t3 g0 g1 g2 g3 (aa 9) bp k (aa 0) ov (by first | assumption | omega) (by first | assumption | omega) (by first | assumption | omega) (by first | assumption | omega) (by first | assumption | omega) (by first | assumption | omega) (by first | assumption | omega) (by first | assumption | omega) (by first | assumption | omega)) (vx_cwSW 3 hts gL_law_L_takeRoot rfl rfl rfl (by decide +kernel) ⟨Nat.le_of_ble_eq_true rfl, Nat.le_of_ble_eq_true rfl⟩) dL_law_300 [0, 1, 9, 10, 15, 16, 17, 18, 19, 20, 21, 22, 23, 24, 2, 3] [4, 5, 6, 7, 8, 11, 12, 13, 14, 25, 26, 27, 28, 29, 30, 31, 32, 33, 34, 35, 36, 37, 38, 39, 40, 41, 42, 43, 44, 45, 46, 47] rfl rfl (by decide) (by decide) (by decide) rfl (Nat.le_of_ble_eq_true rfl) (by omega) (by omega) (fun _ => rfl) (fun r2 u H1 locs hw hP hD hS => ?_)
  try dsimp only at hw
  obtain rfl := hw
  have hP : va_P D vwCl (law_w cY aa sa bp (vp_updL ov 0 (Int32.toInt64 (nI (np (f k) 32768)))) fr tf len sc cur tx (m_up f k (np (f k) 32768)) cnt rf rc sf sn (min (z + 1) 4) f g0 g1 g2 cnt t0 t1 t2 sk pt pg pf pe th ta yr ys yo yf ye kf kc rv cv bv f cnt sf sn z sk len tx) H1 := hP.sub (ws' := law_w cY aa sa bp (vp_updL ov 0 (Int32.toInt64 (nI (np (f k) 32768)))) fr tf len sc cur tx (m_up f k (np (f k) 32768)) cnt rf rc sf sn (min (z + 1) 4) f g0 g1 g2 cnt t0 t1 t2 sk pt pg pf pe th ta yr ys yo yf ye kf kc rv cv bv f cnt sf sn z sk len tx) [32, 33, 46, 47, 0, 1, 2, 3, 4, 34, 35, 5, 6, 7, 8, 36, 37, 38, 39, 40, 41, 42, 43, 44, 45, 9, 10, 11, 12, 13, 14, 15, 16, 17, 18, 19, 20, 21, 22, 23, 24, 25, 26, 27, 28, 29, 30, 31] rfl
  have hD : va_D A (law_w cY aa sa bp (vp_updL ov 0 (Int32.toInt64 (nI (np (f k) 32768)))) fr tf len sc cur tx (m_up f k (np (f k) 32768)) cnt rf rc sf sn (min (z + 1) 4) f g0 g1 g2 cnt t0 t1 t2 sk pt pg pf pe th ta yr ys yo yf ye kf kc rv cv bv f cnt sf sn z sk len tx) := hD.sub (ws' := law_w cY aa sa bp (vp_updL ov 0 (Int32.toInt64 (nI (np (f k) 32768)))) fr tf len sc cur tx (m_up f k (np (f k) 32768)) cnt rf rc sf sn (min (z + 1) 4) f g0 g1 g2 cnt t0 t1 t2 sk pt pg pf pe th ta yr ys yo yf ye kf kc rv cv bv f cnt sf sn z sk len tx) [32, 33, 46, 47, 0, 1, 2, 3, 4, 34, 35, 5, 6, 7, 8, 36, 37, 38, 39, 40, 41, 42, 43, 44, 45, 9, 10, 11, 12, 13, 14, 15, 16, 17, 18, 19, 20, 21, 22, 23, 24, 25, 26, 27, 28, 29, 30, 31] (by decide) rfl
  refine lv_istore (lv' := [(5, .int (nI 0)), (0, .ref b), (1, .ref (aa 1)), (2, .ref (aa 25)), (3, .ref (aa 0)), (4, .int (nI i))]) hx hb dL_law_303 hl (by decide) rfl (fun ls hl => ?_)
  refine lv_aload_n hx hb dL_law_305 rfl (lv_at hl 3 rfl) ?_
  refine lv_aload_n hx hb dL_law_306 rfl (lv_at hl 1 rfl) ?_
  refine lv_iload hx hb dL_law_307 (lv_at hl 5 rfl) ?_
  refine lv_iconst (v := nI 1) hx hb dL_law_309 (by decide) ?_
  refine lv_iadd hx hb dL_law_310 ?_
  refine lv_topi (nm_r (nI_add _ _) ?_)
  refine va_sld hx hb hX hbl hbA hS (i := nI (i + 1)) (m_in (n := i + 1) (by omega) (by omega)) dL_law_311 ?_
  refine lv_topi (nm_r (show _ = nI k from by rw [nI_clamp (by omega)]; exact hv1) ?_)
  refine m_callVi (As := [.int (nI k)]) (rest := []) C0 hl hP hD hS (c_X7_takeRoot_ok l D cY (aa 25) (aa 26) (aa 27) (aa 28) (aa 29) (aa 30) (aa 31) (aa 32) z sk th len ta yr ys yo yf ye f cnt rv hh k (by first | assumption | omega) (by first | assumption | omega) (by first | assumption | omega) (by first | assumption | omega) (by first | assumption | omega)) (cwV 1 hts gL_law_X7_takeRoot rfl rfl rfl (by decide +kernel) ⟨Nat.le_of_ble_eq_true rfl, Nat.le_of_ble_eq_true rfl⟩) dL_law_312 [25, 26, 29] rfl rfl 25 rfl rfl rfl rfl (Nat.le_of_ble_eq_true rfl) (by omega) (by omega) (fun _ => rfl) (fun r4 u H3 locs hw hP hD hS => ?_)
  obtain ⟨rv9_5, rfl⟩ : ∃ z, z = u := ⟨_, rfl⟩
  try dsimp only at hw
  obtain ⟨rfl, hq6⟩ := hw
  have hP : va_P D vwCl (law_w cY aa sa bp (vp_updL ov 0 (Int32.toInt64 (nI (np (f k) 32768)))) fr tf len sc cur tx (m_up f k (np (f k) 32768)) cnt rf rc sf sn (min (z + 1) 4) f g0 g1 g2 cnt t0 t1 t2 sk pt pg pf pe 0 ta yr ys yo yf ye kf kc rv9_5 cv bv (m_up f k (np (f k) 32768)) cnt sf sn (min (z + 1) 4) sk len tx) H3 := hP
  have hD : va_D A (law_w cY aa sa bp (vp_updL ov 0 (Int32.toInt64 (nI (np (f k) 32768)))) fr tf len sc cur tx (m_up f k (np (f k) 32768)) cnt rf rc sf sn (min (z + 1) 4) f g0 g1 g2 cnt t0 t1 t2 sk pt pg pf pe 0 ta yr ys yo yf ye kf kc rv9_5 cv bv (m_up f k (np (f k) 32768)) cnt sf sn (min (z + 1) 4) sk len tx) := hD
  refine lv_istore (lv' := [(6, .int (nI (np (f k) 32768))), (5, .int (nI 0)), (0, .ref b), (1, .ref (aa 1)), (2, .ref (aa 25)), (3, .ref (aa 0)), (4, .int (nI i))]) hx hb dL_law_315 hl (by decide) rfl (fun ls hl => ?_)
  refine lv_aload_n hx hb dL_law_317 rfl (lv_at hl 4 rfl) ?_
  refine m_callVi (As := []) (rest := []) C0 hl hP hD hS (c_X7_thrown l D cY (aa 25) (aa 26) (aa 27) (aa 28) (aa 29) (aa 30) (aa 31) (aa 32) (min (z + 1) 4) sk 0 len ta yr ys yo yf ye ) (cwV 0 hts gL_law_X7_thrown rfl rfl rfl (by decide +kernel) ⟨Nat.le_of_ble_eq_true rfl, Nat.le_of_ble_eq_true rfl⟩) dL_law_318 [25] rfl rfl 25 rfl rfl rfl rfl (Nat.le_of_ble_eq_true rfl) (by omega) (by omega) (fun _ => rfl) (fun r8 u H7 locs hw hP hD hS => ?_)
  try dsimp only at hw
  obtain rfl := hw
  have hP : va_P D vwCl (law_w cY aa sa bp (vp_updL ov 0 (Int32.toInt64 (nI (np (f k) 32768)))) fr tf len sc cur tx (m_up f k (np (f k) 32768)) cnt rf rc sf sn (min (z + 1) 4) f g0 g1 g2 cnt t0 t1 t2 sk pt pg pf pe 0 ta yr ys yo yf ye kf kc rv9_5 cv bv (m_up f k (np (f k) 32768)) cnt sf sn (min (z + 1) 4) sk len tx) H7 := hP
  have hD : va_D A (law_w cY aa sa bp (vp_updL ov 0 (Int32.toInt64 (nI (np (f k) 32768)))) fr tf len sc cur tx (m_up f k (np (f k) 32768)) cnt rf rc sf sn (min (z + 1) 4) f g0 g1 g2 cnt t0 t1 t2 sk pt pg pf pe 0 ta yr ys yo yf ye kf kc rv9_5 cv bv (m_up f k (np (f k) 32768)) cnt sf sn (min (z + 1) 4) sk len tx) := hD
  refine lv_iload hx hb dL_law_321 (lv_at hl 1 rfl) ?_
  refine lv_icmp_eq (tgt := 328) hx hb dL_law_323 (by decide) (fun c323 => ?_) (fun c323 => ?_)
  rotate_left
  · exact absurd rfl c323
  refine lv_iload hx hb dL_law_328 (lv_at hl 1 rfl) ?_
  refine lv_if_ne (tgt := 345) hx hb dL_law_330 (by decide) (fun c330 => ?_) (fun c330 => ?_)
  · exact absurd rfl c330
  refine lv_aload_n hx hb dL_law_333 rfl (lv_at hl 5 rfl) ?_
  refine lv_iconst (v := nI 0) hx hb dL_law_334 (by decide) ?_
  refine va_lald hx hb hK hP 0 2 rfl rfl (m_in (n := 0) (by decide) (by decide)) dL_law_335 ?_
  refine lv_topl (nm_r (show _ = Int32.toInt64 (nI (np (f k) 32768)) from by rw [nI_clamp (by decide)]; exact if_pos rfl) ?_)
  refine lv_iload hx hb dL_law_336 (lv_at hl 0 rfl) ?_
  refine lv_i2l (v := Int32.toInt64 (nI (np (f k) 32768))) hx hb dL_law_338 rfl ?_
  refine W.lcmp hx hb dL_law_339 ?_
  refine lv_topi (nm_r (m_cmp_self _) ?_)
  refine lv_if_eq (tgt := 345) hx hb dL_law_340 (by decide) (fun c340 => ?_) (fun c340 => ?_)
  rotate_left
  · exact absurd rfl c340
  refine lv_goto (tgt := 1541) hx hb dL_law_345 (by decide) ?_
  refine W.widen (k := cells + 1) (n := slots + 6) (by omega) (by omega) ?_
  exact kk (vp_updL ov 0 (Int32.toInt64 (nI (np (f k) 32768)))) fr tf len sc cur tx (m_up f k (np (f k) 32768)) cnt rf rc sf sn (min (z + 1) 4) f g0 g1 g2 cnt t0 t1 t2 sk pt pg pf pe 0 ta yr ys yo yf ye kf kc rv9_5 cv bv _ _ ls (law_I_rec hI hH (law_g_up ⟨hf8, hf16⟩ hk (np_lt _ _)) (hrf8) hq6) hP hD hS (lv_sub hl [2, 3, 4, 5, 6] rfl)
set_option maxHeartbeats 4000000 in
set_option maxRecDepth 100000 in
theorem v_multiply_x1 {p : Program} {l : Launch} {e : Env} {s : State} {m : MethodId} {below : List Frame} {meth : Method} {c : Code} {b L : Nat} {xs : Nat → Int32} {D : va_G} {cY : Nat → ClassId} {A : Nat → Prop} {eS : Nat → Nat} {eO : Nat} {Q : State → Prop} {aa sa bp : Nat → Nat} (F : law_F p l e s m meth c b L xs D cY A eS eO bp) {ov : Nat → Int64} {fr : Nat} {tf : Nat → Nat} {len : Nat} {sc : Nat} {cur : Nat} {tx : Nat → Nat} {f : Nat → Nat} {cnt : Nat} {rf : Nat → Nat} {rc : Nat} {sf : Nat → Nat} {sn : Nat} {z : Nat} {g0 : Nat → Nat} {g1 : Nat → Nat} {g2 : Nat → Nat} {g3 : Nat → Nat} {t0 : Nat} {t1 : Nat} {t2 : Nat} {t3 : Nat} {sk : Nat} {pt : Nat → Int32} {pg : Nat → Int32} {pf : Nat → Int32} {pe : Nat → Int32} {th : Nat} {ta : Nat} {yr : Int32} {ys : Int32} {yo : Int32} {yf : Int32} {ye : Int32} {kf : Nat → Nat} {kc : Nat} {rv : Nat → Nat} {cv : Nat → Nat} {bv : Nat → Nat} {i : Nat} (hi : i + 2 < L) {H : Heap} {locs : List Loc} {ls : Array Slot} {cells slots : Nat} (hcl : cells + 1 ≤ room_1.cells) (hsl : slots + 6 ≤ room_1.slots) (x y : Int32) (hn : ¬ (m_isR x ∧ m_isR y)) (hv1 : xs (i + 1) = x) (hv2 : xs (i + 2) = y)
    (hI : law_I fr tf len tx f rf sf z g0 g1 g2 g3 t0 t1 t2 t3 sk rv) (hP : va_P D vwCl (law_w cY aa sa bp ov fr tf len sc cur tx f cnt rf rc sf sn z g0 g1 g2 g3 t0 t1 t2 t3 sk pt pg pf pe th ta yr ys yo yf ye kf kc rv cv bv f cnt sf sn z sk len tx) H) (hD : va_D A (law_w cY aa sa bp ov fr tf len sc cur tx f cnt rf rc sf sn z g0 g1 g2 g3 t0 t1 t2 t3 sk pt pg pf pe th ta yr ys yo yf ye kf kc rv cv bv f cnt sf sn z sk len tx)) (hS : va_S A s.heap H locs) (hl : lv_has ls 7 [(0, .ref b), (1, .ref (aa 1)), (2, .ref (aa 25)), (3, .ref (aa 0)), (4, .int (nI i))]) (kk : law_K p l e s m below meth c b D cY A Q aa sa bp i (cells + 1) (slots + 6)) :
    W p l e room_1 s m #[.ref b] below meth c H locs cells slots Q (F0 m 348 ls []) := by
  obtain ⟨C0, hE, hX, hbl, hbA, hL, hB, hfl⟩ := id F
  obtain ⟨hx, hb, hr, hml, hts, hown, hlocks, hK, hA⟩ := id C0
  obtain ⟨⟨hf8, hf16⟩, hrf8, ⟨hsf8, hsf16⟩, ⟨⟨hg0, hg0b⟩, ⟨hg1, hg1b⟩, ⟨hg2, hg2b⟩, ⟨hg3, hg3b⟩⟩, hz4, ⟨hfr, htf⟩, ⟨hlen, htx⟩, hsk, hh, hrec, hH⟩ := id hI
  refine lv_aload_n hx hb dL_law_348 rfl (lv_at hl 1 rfl) ?_
  refine lv_aload_n hx hb dL_law_349 rfl (lv_at hl 0 rfl) ?_
  refine lv_iload hx hb dL_law_350 (lv_at hl 4 rfl) ?_
  refine lv_iconst (v := nI 1) hx hb dL_law_352 (by decide) ?_
  refine lv_iadd hx hb dL_law_353 ?_
  refine lv_topi (nm_r (nI_add _ _) ?_)
  refine va_sld hx hb hX hbl hbA hS (i := nI (i + 1)) (m_in (n := i + 1) (by omega) (by omega)) dL_law_354 ?_
  refine lv_topi (nm_r (show _ = x from by rw [nI_clamp (by omega)]; exact hv1) ?_)
  refine lv_aload_n hx hb dL_law_355 rfl (lv_at hl 0 rfl) ?_
  refine lv_iload hx hb dL_law_356 (lv_at hl 4 rfl) ?_
  refine lv_iconst (v := nI 2) hx hb dL_law_358 (by decide) ?_
  refine lv_iadd hx hb dL_law_359 ?_
  refine lv_topi (nm_r (nI_add _ _) ?_)
  refine va_sld hx hb hX hbl hbA hS (i := nI (i + 2)) (m_in (n := i + 2) (by omega) (by omega)) dL_law_360 ?_
  refine lv_topi (nm_r (show _ = y from by rw [nI_clamp (by omega)]; exact hv2) ?_)
  refine lv_aload_n hx hb dL_law_361 rfl (lv_at hl 3 rfl) ?_
  refine m_callTe (As := [.ref (aa 1), .int x, .int y, .ref (aa 0)]) (rest := []) C0 hE hl hP hD hS (c_L_multiply_x1 l hfl D cY eS eO (aa 1) (aa 2) (aa 3) (aa 4) (aa 5) (aa 6) (aa 7) (aa 8) sk x y (aa 0) ov (by first | assumption | omega)) (vx_cwSW 4 hts gL_law_L_multiply rfl rfl rfl (by decide +kernel) ⟨Nat.le_of_ble_eq_true rfl, Nat.le_of_ble_eq_true rfl⟩) dL_law_362 [0, 1] rfl rfl rfl (Nat.le_of_ble_eq_true rfl) (by omega) (by omega) (fun _ => rfl) (fun r2 u H1 locs hw hP hD hS => ?_)
  try dsimp only at hw
  obtain rfl := hw
  have hP : va_P D vwCl (law_w cY aa sa bp ov fr tf len sc cur tx f cnt rf rc sf sn z g0 g1 g2 g3 t0 t1 t2 t3 sk pt pg pf pe th ta yr ys yo yf ye kf kc rv cv bv f cnt sf sn z sk len tx) H1 := hP
  have hD : va_D A (law_w cY aa sa bp ov fr tf len sc cur tx f cnt rf rc sf sn z g0 g1 g2 g3 t0 t1 t2 t3 sk pt pg pf pe th ta yr ys yo yf ye kf kc rv cv bv f cnt sf sn z sk len tx) := hD
  refine lv_istore (lv' := [(5, .int (nI 1)), (0, .ref b), (1, .ref (aa 1)), (2, .ref (aa 25)), (3, .ref (aa 0)), (4, .int (nI i))]) hx hb dL_law_365 hl (by decide) rfl (fun ls hl => ?_)
  refine lv_aload_n hx hb dL_law_367 rfl (lv_at hl 3 rfl) ?_
  refine lv_aload_n hx hb dL_law_368 rfl (lv_at hl 1 rfl) ?_
  refine lv_iload hx hb dL_law_369 (lv_at hl 5 rfl) ?_
  refine lv_iconst (v := nI 1) hx hb dL_law_371 (by decide) ?_
  refine lv_iadd hx hb dL_law_372 ?_
  refine lv_topi (nm_r (nI_add _ _) ?_)
  refine va_sld hx hb hX hbl hbA hS (i := nI (i + 1)) (m_in (n := i + 1) (by omega) (by omega)) dL_law_373 ?_
  refine lv_topi (nm_r (show _ = x from by rw [nI_clamp (by omega)]; exact hv1) ?_)
  refine lv_aload_n hx hb dL_law_374 rfl (lv_at hl 1 rfl) ?_
  refine lv_iload hx hb dL_law_375 (lv_at hl 5 rfl) ?_
  refine lv_iconst (v := nI 2) hx hb dL_law_377 (by decide) ?_
  refine lv_iadd hx hb dL_law_378 ?_
  refine lv_topi (nm_r (nI_add _ _) ?_)
  refine va_sld hx hb hX hbl hbA hS (i := nI (i + 2)) (m_in (n := i + 2) (by omega) (by omega)) dL_law_379 ?_
  refine lv_topi (nm_r (show _ = y from by rw [nI_clamp (by omega)]; exact hv2) ?_)
  refine m_callVi (As := [.int x, .int y]) (rest := []) C0 hl hP hD hS (c_X7_multiply_f1 l D cY (aa 25) (aa 26) (aa 27) (aa 28) (aa 29) (aa 30) (aa 31) (aa 32) z sk th len ta yr ys yo yf ye x y (by first | assumption | omega)) (cwV 2 hts gL_law_X7_multiply rfl rfl rfl (by decide +kernel) ⟨Nat.le_of_ble_eq_true rfl, Nat.le_of_ble_eq_true rfl⟩) dL_law_380 [25] rfl rfl 25 rfl rfl rfl rfl (Nat.le_of_ble_eq_true rfl) (by omega) (by omega) (fun _ => rfl) (fun r4 u H3 locs hw hP hD hS => ?_)
  try dsimp only at hw
  obtain rfl := hw
  have hP : va_P D vwCl (law_w cY aa sa bp ov fr tf len sc cur tx f cnt rf rc sf sn z g0 g1 g2 g3 t0 t1 t2 t3 sk pt pg pf pe 1 ta yr ys yo yf ye kf kc rv cv bv f cnt sf sn z sk len tx) H3 := hP
  have hD : va_D A (law_w cY aa sa bp ov fr tf len sc cur tx f cnt rf rc sf sn z g0 g1 g2 g3 t0 t1 t2 t3 sk pt pg pf pe 1 ta yr ys yo yf ye kf kc rv cv bv f cnt sf sn z sk len tx) := hD
  refine lv_istore (lv' := [(6, .int (nI 0)), (5, .int (nI 1)), (0, .ref b), (1, .ref (aa 1)), (2, .ref (aa 25)), (3, .ref (aa 0)), (4, .int (nI i))]) hx hb dL_law_383 hl (by decide) rfl (fun ls hl => ?_)
  refine lv_aload_n hx hb dL_law_385 rfl (lv_at hl 4 rfl) ?_
  refine m_callVi (As := []) (rest := []) C0 hl hP hD hS (c_X7_thrown l D cY (aa 25) (aa 26) (aa 27) (aa 28) (aa 29) (aa 30) (aa 31) (aa 32) z sk 1 len ta yr ys yo yf ye ) (cwV 0 hts gL_law_X7_thrown rfl rfl rfl (by decide +kernel) ⟨Nat.le_of_ble_eq_true rfl, Nat.le_of_ble_eq_true rfl⟩) dL_law_386 [25] rfl rfl 25 rfl rfl rfl rfl (Nat.le_of_ble_eq_true rfl) (by omega) (by omega) (fun _ => rfl) (fun r6 u H5 locs hw hP hD hS => ?_)
  try dsimp only at hw
  obtain rfl := hw
  have hP : va_P D vwCl (law_w cY aa sa bp ov fr tf len sc cur tx f cnt rf rc sf sn z g0 g1 g2 g3 t0 t1 t2 t3 sk pt pg pf pe 1 ta yr ys yo yf ye kf kc rv cv bv f cnt sf sn z sk len tx) H5 := hP
  have hD : va_D A (law_w cY aa sa bp ov fr tf len sc cur tx f cnt rf rc sf sn z g0 g1 g2 g3 t0 t1 t2 t3 sk pt pg pf pe 1 ta yr ys yo yf ye kf kc rv cv bv f cnt sf sn z sk len tx) := hD
  refine lv_iload hx hb dL_law_389 (lv_at hl 1 rfl) ?_
  refine lv_icmp_eq (tgt := 396) hx hb dL_law_391 (by decide) (fun c391 => ?_) (fun c391 => ?_)
  rotate_left
  · exact absurd rfl c391
  refine lv_iload hx hb dL_law_396 (lv_at hl 1 rfl) ?_
  refine lv_if_ne (tgt := 413) hx hb dL_law_398 (by decide) (fun c398 => ?_) (fun c398 => ?_)
  rotate_left
  · exact absurd c398 (by decide)
  refine lv_goto (tgt := 1541) hx hb dL_law_413 (by decide) ?_
  refine W.widen (k := cells + 1) (n := slots + 6) (by omega) (by omega) ?_
  exact kk ov fr tf len sc cur tx f cnt rf rc sf sn z g0 g1 g2 g3 t0 t1 t2 t3 sk pt pg pf pe 1 ta yr ys yo yf ye kf kc rv cv bv _ _ ls (hI) hP hD hS (lv_sub hl [2, 3, 4, 5, 6] rfl)
set_option maxHeartbeats 4000000 in
set_option maxRecDepth 100000 in
theorem v_multiply_ok {p : Program} {l : Launch} {e : Env} {s : State} {m : MethodId} {below : List Frame} {meth : Method} {c : Code} {b L : Nat} {xs : Nat → Int32} {D : va_G} {cY : Nat → ClassId} {A : Nat → Prop} {eS : Nat → Nat} {eO : Nat} {Q : State → Prop} {aa sa bp : Nat → Nat} (F : law_F p l e s m meth c b L xs D cY A eS eO bp) {ov : Nat → Int64} {fr : Nat} {tf : Nat → Nat} {len : Nat} {sc : Nat} {cur : Nat} {tx : Nat → Nat} {f : Nat → Nat} {cnt : Nat} {rf : Nat → Nat} {rc : Nat} {sf : Nat → Nat} {sn : Nat} {z : Nat} {g0 : Nat → Nat} {g1 : Nat → Nat} {g2 : Nat → Nat} {g3 : Nat → Nat} {t0 : Nat} {t1 : Nat} {t2 : Nat} {t3 : Nat} {sk : Nat} {pt : Nat → Int32} {pg : Nat → Int32} {pf : Nat → Int32} {pe : Nat → Int32} {th : Nat} {ta : Nat} {yr : Int32} {ys : Int32} {yo : Int32} {yf : Int32} {ye : Int32} {kf : Nat → Nat} {kc : Nat} {rv : Nat → Nat} {cv : Nat → Nat} {bv : Nat → Nat} {i : Nat} (hi : i + 2 < L) {H : Heap} {locs : List Loc} {ls : Array Slot} {cells slots : Nat} (hcl : cells + 1 ≤ room_1.cells) (hsl : slots + 6 ≤ room_1.slots) (k j : Nat) (hk : k < 8) (hj : j < 8) (hv1 : xs (i + 1) = nI k) (hv2 : xs (i + 2) = nI j)
    (hI : law_I fr tf len tx f rf sf z g0 g1 g2 g3 t0 t1 t2 t3 sk rv) (hP : va_P D vwCl (law_w cY aa sa bp ov fr tf len sc cur tx f cnt rf rc sf sn z g0 g1 g2 g3 t0 t1 t2 t3 sk pt pg pf pe th ta yr ys yo yf ye kf kc rv cv bv f cnt sf sn z sk len tx) H) (hD : va_D A (law_w cY aa sa bp ov fr tf len sc cur tx f cnt rf rc sf sn z g0 g1 g2 g3 t0 t1 t2 t3 sk pt pg pf pe th ta yr ys yo yf ye kf kc rv cv bv f cnt sf sn z sk len tx)) (hS : va_S A s.heap H locs) (hl : lv_has ls 7 [(0, .ref b), (1, .ref (aa 1)), (2, .ref (aa 25)), (3, .ref (aa 0)), (4, .int (nI i))]) (kk : law_K p l e s m below meth c b D cY A Q aa sa bp i (cells + 1) (slots + 6)) :
    W p l e room_1 s m #[.ref b] below meth c H locs cells slots Q (F0 m 348 ls []) := by
  obtain ⟨C0, hE, hX, hbl, hbA, hL, hB, hfl⟩ := id F
  obtain ⟨hx, hb, hr, hml, hts, hown, hlocks, hK, hA⟩ := id C0
  obtain ⟨⟨hf8, hf16⟩, hrf8, ⟨hsf8, hsf16⟩, ⟨⟨hg0, hg0b⟩, ⟨hg1, hg1b⟩, ⟨hg2, hg2b⟩, ⟨hg3, hg3b⟩⟩, hz4, ⟨hfr, htf⟩, ⟨hlen, htx⟩, hsk, hh, hrec, hH⟩ := id hI
  refine lv_aload_n hx hb dL_law_348 rfl (lv_at hl 1 rfl) ?_
  refine lv_aload_n hx hb dL_law_349 rfl (lv_at hl 0 rfl) ?_
  refine lv_iload hx hb dL_law_350 (lv_at hl 4 rfl) ?_
  refine lv_iconst (v := nI 1) hx hb dL_law_352 (by decide) ?_
  refine lv_iadd hx hb dL_law_353 ?_
  refine lv_topi (nm_r (nI_add _ _) ?_)
  refine va_sld hx hb hX hbl hbA hS (i := nI (i + 1)) (m_in (n := i + 1) (by omega) (by omega)) dL_law_354 ?_
  refine lv_topi (nm_r (show _ = nI k from by rw [nI_clamp (by omega)]; exact hv1) ?_)
  refine lv_aload_n hx hb dL_law_355 rfl (lv_at hl 0 rfl) ?_
  refine lv_iload hx hb dL_law_356 (lv_at hl 4 rfl) ?_
  refine lv_iconst (v := nI 2) hx hb dL_law_358 (by decide) ?_
  refine lv_iadd hx hb dL_law_359 ?_
  refine lv_topi (nm_r (nI_add _ _) ?_)
  refine va_sld hx hb hX hbl hbA hS (i := nI (i + 2)) (m_in (n := i + 2) (by omega) (by omega)) dL_law_360 ?_
  refine lv_topi (nm_r (show _ = nI j from by rw [nI_clamp (by omega)]; exact hv2) ?_)
  refine lv_aload_n hx hb dL_law_361 rfl (lv_at hl 3 rfl) ?_
  refine m_callTji (As := [.ref (aa 1), .int (nI k), .int (nI j), .ref (aa 0)]) (rest := []) (wr := ([((aa 3), .inr (1, [.ref (aa 10), .int (nI fr)])), ((aa 10), .inl (cY 0, 256, .inl (m_nf tf))), ((aa 4), .inr (3, [.ref (aa 11), .ref (aa 12), .int (nI len), .int (nI sc), .int (nI cur)])), ((aa 11), .inl (cY 1, 60, .inl (m_nf tx))), ((aa 12), .inl (cY 4, 15, .inr (.inr (.inr (.inr (m_sa sa)))))), ((aa 6), .inr (4, [.ref (aa 14), .int (nI rc)])), ((aa 14), .inl (cY 0, 8, .inl (m_nf rf))), ((aa 7), .inr (4, [.ref (aa 15), .int (nI sn)])), ((aa 15), .inl (cY 0, 8, .inl (m_nf sf))), ((aa 25), .inr (7, [.ref (aa 26), .ref (aa 27), .ref (aa 28), .int (nI z), .ref (aa 29), .int (nI sk), .int (nI th), .ref (aa 30), .int (nI len), .int (nI ta), .int yr, .int ys, .int yo, .int yf, .int ye, .ref (aa 31), .ref (aa 32)])), ((aa 26), .inl (cY 0, 9, .inl (m_nf (m_all f cnt)))), ((aa 27), .inl (cY 0, 9, .inl (m_nf (m_all kf kc)))), ((aa 29), .inl (cY 0, 9, .inl (m_nf (m_all sf sn)))), ((aa 28), .inl (cY 0, 36, .inl (m_nf rv))), ((aa 30), .inl (cY 0, 60, .inl (m_nf tx))), ((aa 31), .inl (cY 0, 16, .inl (m_nf cv))), ((aa 32), .inl (cY 0, 16, .inl (m_nf bv)))] ++ m_pool sa pt pg pf pe)) C0 hl hP hD hS (c_L_multiply_ok l D cY (aa 1) (aa 2) (aa 3) (aa 4) (aa 5) (aa 6) (aa 7) (aa 8) sk (aa 13) cnt f (aa 16) z (aa 17) (aa 18) (aa 19) (aa 20) (aa 21) (aa 22) (aa 23) (aa 24) t0 t1 t2 t3 g0 g1 g2 g3 (aa 9) bp k j (aa 0) ov (by first | assumption | omega) (by first | assumption | omega) (by first | assumption | omega) (by first | assumption | omega) (by first | assumption | omega) (by first | assumption | omega) (by first | assumption | omega) (by first | assumption | omega) (by first | assumption | omega) (by first | assumption | omega)) (vx_cwSW 4 hts gL_law_L_multiply rfl rfl rfl (by decide +kernel) ⟨Nat.le_of_ble_eq_true rfl, Nat.le_of_ble_eq_true rfl⟩) dL_law_362 [0, 1, 9, 10, 15, 16, 17, 18, 19, 20, 21, 22, 23, 24, 2, 3] [4, 5, 6, 7, 8, 11, 12, 13, 14, 25, 26, 27, 28, 29, 30, 31, 32, 33, 34, 35, 36, 37, 38, 39, 40, 41, 42, 43, 44, 45, 46, 47] rfl rfl (by decide) (by decide) (by decide) rfl (Nat.le_of_ble_eq_true rfl) (by omega) (by omega) (fun _ => rfl) (fun r2 u H1 locs hw hP hD hS => ?_)
  try dsimp only at hw
  obtain rfl := hw
  have hP : va_P D vwCl (law_w cY aa sa bp (vp_updL ov 0 (Int32.toInt64 (nI (nm (f k) (f j))))) fr tf len sc cur tx (m_up f k (nm (f k) (f j))) (cnt + 1) rf rc sf sn (min (z + 1) 4) f g0 g1 g2 cnt t0 t1 t2 sk pt pg pf pe th ta yr ys yo yf ye kf kc rv cv bv f cnt sf sn z sk len tx) H1 := hP.sub (ws' := law_w cY aa sa bp (vp_updL ov 0 (Int32.toInt64 (nI (nm (f k) (f j))))) fr tf len sc cur tx (m_up f k (nm (f k) (f j))) (cnt + 1) rf rc sf sn (min (z + 1) 4) f g0 g1 g2 cnt t0 t1 t2 sk pt pg pf pe th ta yr ys yo yf ye kf kc rv cv bv f cnt sf sn z sk len tx) [32, 33, 46, 47, 0, 1, 2, 3, 4, 34, 35, 5, 6, 7, 8, 36, 37, 38, 39, 40, 41, 42, 43, 44, 45, 9, 10, 11, 12, 13, 14, 15, 16, 17, 18, 19, 20, 21, 22, 23, 24, 25, 26, 27, 28, 29, 30, 31] rfl
  have hD : va_D A (law_w cY aa sa bp (vp_updL ov 0 (Int32.toInt64 (nI (nm (f k) (f j))))) fr tf len sc cur tx (m_up f k (nm (f k) (f j))) (cnt + 1) rf rc sf sn (min (z + 1) 4) f g0 g1 g2 cnt t0 t1 t2 sk pt pg pf pe th ta yr ys yo yf ye kf kc rv cv bv f cnt sf sn z sk len tx) := hD.sub (ws' := law_w cY aa sa bp (vp_updL ov 0 (Int32.toInt64 (nI (nm (f k) (f j))))) fr tf len sc cur tx (m_up f k (nm (f k) (f j))) (cnt + 1) rf rc sf sn (min (z + 1) 4) f g0 g1 g2 cnt t0 t1 t2 sk pt pg pf pe th ta yr ys yo yf ye kf kc rv cv bv f cnt sf sn z sk len tx) [32, 33, 46, 47, 0, 1, 2, 3, 4, 34, 35, 5, 6, 7, 8, 36, 37, 38, 39, 40, 41, 42, 43, 44, 45, 9, 10, 11, 12, 13, 14, 15, 16, 17, 18, 19, 20, 21, 22, 23, 24, 25, 26, 27, 28, 29, 30, 31] (by decide) rfl
  refine lv_istore (lv' := [(5, .int (nI 0)), (0, .ref b), (1, .ref (aa 1)), (2, .ref (aa 25)), (3, .ref (aa 0)), (4, .int (nI i))]) hx hb dL_law_365 hl (by decide) rfl (fun ls hl => ?_)
  refine lv_aload_n hx hb dL_law_367 rfl (lv_at hl 3 rfl) ?_
  refine lv_aload_n hx hb dL_law_368 rfl (lv_at hl 1 rfl) ?_
  refine lv_iload hx hb dL_law_369 (lv_at hl 5 rfl) ?_
  refine lv_iconst (v := nI 1) hx hb dL_law_371 (by decide) ?_
  refine lv_iadd hx hb dL_law_372 ?_
  refine lv_topi (nm_r (nI_add _ _) ?_)
  refine va_sld hx hb hX hbl hbA hS (i := nI (i + 1)) (m_in (n := i + 1) (by omega) (by omega)) dL_law_373 ?_
  refine lv_topi (nm_r (show _ = nI k from by rw [nI_clamp (by omega)]; exact hv1) ?_)
  refine lv_aload_n hx hb dL_law_374 rfl (lv_at hl 1 rfl) ?_
  refine lv_iload hx hb dL_law_375 (lv_at hl 5 rfl) ?_
  refine lv_iconst (v := nI 2) hx hb dL_law_377 (by decide) ?_
  refine lv_iadd hx hb dL_law_378 ?_
  refine lv_topi (nm_r (nI_add _ _) ?_)
  refine va_sld hx hb hX hbl hbA hS (i := nI (i + 2)) (m_in (n := i + 2) (by omega) (by omega)) dL_law_379 ?_
  refine lv_topi (nm_r (show _ = nI j from by rw [nI_clamp (by omega)]; exact hv2) ?_)
  refine m_callVi (As := [.int (nI k), .int (nI j)]) (rest := []) C0 hl hP hD hS (c_X7_multiply_ok l D cY (aa 25) (aa 26) (aa 27) (aa 28) (aa 29) (aa 30) (aa 31) (aa 32) z sk th len ta yr ys yo yf ye f cnt rv hh k j (by first | assumption | omega) (by first | assumption | omega) (by first | assumption | omega) (by first | assumption | omega) (by first | assumption | omega) (by first | assumption | omega)) (cwV 2 hts gL_law_X7_multiply rfl rfl rfl (by decide +kernel) ⟨Nat.le_of_ble_eq_true rfl, Nat.le_of_ble_eq_true rfl⟩) dL_law_380 [25, 26, 29] rfl rfl 25 rfl rfl rfl rfl (Nat.le_of_ble_eq_true rfl) (by omega) (by omega) (fun _ => rfl) (fun r4 u H3 locs hw hP hD hS => ?_)
  obtain ⟨rv9_5, rfl⟩ : ∃ z, z = u := ⟨_, rfl⟩
  try dsimp only at hw
  obtain ⟨rfl, hq6⟩ := hw
  have hP : va_P D vwCl (law_w cY aa sa bp (vp_updL ov 0 (Int32.toInt64 (nI (nm (f k) (f j))))) fr tf len sc cur tx (m_up f k (nm (f k) (f j))) (cnt + 1) rf rc sf sn (min (z + 1) 4) f g0 g1 g2 cnt t0 t1 t2 sk pt pg pf pe 0 ta yr ys yo yf ye kf kc rv9_5 cv bv (m_up f k (nm (f k) (f j))) (cnt + 1) sf sn (min (z + 1) 4) sk len tx) H3 := hP
  have hD : va_D A (law_w cY aa sa bp (vp_updL ov 0 (Int32.toInt64 (nI (nm (f k) (f j))))) fr tf len sc cur tx (m_up f k (nm (f k) (f j))) (cnt + 1) rf rc sf sn (min (z + 1) 4) f g0 g1 g2 cnt t0 t1 t2 sk pt pg pf pe 0 ta yr ys yo yf ye kf kc rv9_5 cv bv (m_up f k (nm (f k) (f j))) (cnt + 1) sf sn (min (z + 1) 4) sk len tx) := hD
  refine lv_istore (lv' := [(6, .int (nI (nm (f k) (f j)))), (5, .int (nI 0)), (0, .ref b), (1, .ref (aa 1)), (2, .ref (aa 25)), (3, .ref (aa 0)), (4, .int (nI i))]) hx hb dL_law_383 hl (by decide) rfl (fun ls hl => ?_)
  refine lv_aload_n hx hb dL_law_385 rfl (lv_at hl 4 rfl) ?_
  refine m_callVi (As := []) (rest := []) C0 hl hP hD hS (c_X7_thrown l D cY (aa 25) (aa 26) (aa 27) (aa 28) (aa 29) (aa 30) (aa 31) (aa 32) (min (z + 1) 4) sk 0 len ta yr ys yo yf ye ) (cwV 0 hts gL_law_X7_thrown rfl rfl rfl (by decide +kernel) ⟨Nat.le_of_ble_eq_true rfl, Nat.le_of_ble_eq_true rfl⟩) dL_law_386 [25] rfl rfl 25 rfl rfl rfl rfl (Nat.le_of_ble_eq_true rfl) (by omega) (by omega) (fun _ => rfl) (fun r8 u H7 locs hw hP hD hS => ?_)
  try dsimp only at hw
  obtain rfl := hw
  have hP : va_P D vwCl (law_w cY aa sa bp (vp_updL ov 0 (Int32.toInt64 (nI (nm (f k) (f j))))) fr tf len sc cur tx (m_up f k (nm (f k) (f j))) (cnt + 1) rf rc sf sn (min (z + 1) 4) f g0 g1 g2 cnt t0 t1 t2 sk pt pg pf pe 0 ta yr ys yo yf ye kf kc rv9_5 cv bv (m_up f k (nm (f k) (f j))) (cnt + 1) sf sn (min (z + 1) 4) sk len tx) H7 := hP
  have hD : va_D A (law_w cY aa sa bp (vp_updL ov 0 (Int32.toInt64 (nI (nm (f k) (f j))))) fr tf len sc cur tx (m_up f k (nm (f k) (f j))) (cnt + 1) rf rc sf sn (min (z + 1) 4) f g0 g1 g2 cnt t0 t1 t2 sk pt pg pf pe 0 ta yr ys yo yf ye kf kc rv9_5 cv bv (m_up f k (nm (f k) (f j))) (cnt + 1) sf sn (min (z + 1) 4) sk len tx) := hD
  refine lv_iload hx hb dL_law_389 (lv_at hl 1 rfl) ?_
  refine lv_icmp_eq (tgt := 396) hx hb dL_law_391 (by decide) (fun c391 => ?_) (fun c391 => ?_)
  rotate_left
  · exact absurd rfl c391
  refine lv_iload hx hb dL_law_396 (lv_at hl 1 rfl) ?_
  refine lv_if_ne (tgt := 413) hx hb dL_law_398 (by decide) (fun c398 => ?_) (fun c398 => ?_)
  · exact absurd rfl c398
  refine lv_aload_n hx hb dL_law_401 rfl (lv_at hl 5 rfl) ?_
  refine lv_iconst (v := nI 0) hx hb dL_law_402 (by decide) ?_
  refine va_lald hx hb hK hP 0 2 rfl rfl (m_in (n := 0) (by decide) (by decide)) dL_law_403 ?_
  refine lv_topl (nm_r (show _ = Int32.toInt64 (nI (nm (f k) (f j))) from by rw [nI_clamp (by decide)]; exact if_pos rfl) ?_)
  refine lv_iload hx hb dL_law_404 (lv_at hl 0 rfl) ?_
  refine lv_i2l (v := Int32.toInt64 (nI (nm (f k) (f j)))) hx hb dL_law_406 rfl ?_
  refine W.lcmp hx hb dL_law_407 ?_
  refine lv_topi (nm_r (m_cmp_self _) ?_)
  refine lv_if_eq (tgt := 413) hx hb dL_law_408 (by decide) (fun c408 => ?_) (fun c408 => ?_)
  rotate_left
  · exact absurd rfl c408
  refine lv_goto (tgt := 1541) hx hb dL_law_413 (by decide) ?_
  refine W.widen (k := cells + 1) (n := slots + 6) (by omega) (by omega) ?_
  exact kk (vp_updL ov 0 (Int32.toInt64 (nI (nm (f k) (f j))))) fr tf len sc cur tx (m_up f k (nm (f k) (f j))) (cnt + 1) rf rc sf sn (min (z + 1) 4) f g0 g1 g2 cnt t0 t1 t2 sk pt pg pf pe 0 ta yr ys yo yf ye kf kc rv9_5 cv bv _ _ ls (law_I_rec hI hH (law_g_up ⟨hf8, hf16⟩ hk (nm_lt _ _)) (hrf8) hq6) hP hD hS (lv_sub hl [2, 3, 4, 5, 6] rfl)
