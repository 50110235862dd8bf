/-! isStep, case by case. -/
def s_F (p : Program) (l : Launch) (e : Env) (s : State) (m : MethodId) (meth : Method) (cq : Code) (x y : Int32) (D : va_G) (cY : Nat → ClassId) (A : Nat → Prop) (eS : Nat → Nat) (eO : Nat) (aa sa bp ab sb bq : Nat → Nat) : Prop :=
  m_C p l e s m [.ref (aa 0), .ref (ab 0), .int x, .int y] meth cq cL_isStep (some .boolean) 12 RL wsL_isStep D cY A ∧ m_E eS eO A s s.heap ∧ n_bp bp ∧ n_bp bq ∧ l.stackTraces = false
def s_Q (below : List Frame) (s : State) (x y : Int32) (D : va_G) (cY : Nat → ClassId) (A : Nat → Prop) (aa sa bp ab sb bq : Nat → Nat) : State → Prop :=
  MQ below (va_Qi (fun (res : Int32) (u : oJ × oC × oJ × oC) => (res = nI 1) ∧ (o_J u.1) ∧ (o_C u.2.1) ∧ (o_J u.2.2.1) ∧ (o_C u.2.2.2) ∧ (o_R u.2.1 u.2.2.2)) (fun (u : oJ × oC × oJ × oC) t => va_P D vwCl (o_w cY aa sa bp u.1 u.2.1 ++ o_w cY ab sb bq u.2.2.1 u.2.2.2) t.heap) A) ([.ref (aa 0), .ref (ab 0), .int x, .int y] : List Value).toArray s 2 12 A
set_option maxHeartbeats 8000000 in
set_option maxRecDepth 100000 in
theorem s_case112 {p : Program} {l : Launch} {e : Env} {s : State} {m : MethodId} {below : List Frame} {meth : Method} {cq : Code} {x y : Int32} {D : va_G} {cY : Nat → ClassId} {A : Nat → Prop} {eS : Nat → Nat} {eO : Nat} {aa sa bp ab sb bq : Nat → Nat} (F : s_F p l e s m meth cq x y D cY A eS eO aa sa bp ab sb bq) {j : oJ} {c : oC} {k9 : oJ} {d : oC} (hj : o_J j) (hc : o_C c) (hk9 : o_J k9) (hd : o_C d) (hR : o_R c d) {z : Int32} {k jj : Nat} (hk : k < 8) (hjj : jj < 8) {H : Heap} {locs : List Loc} {ls : Array Slot} (hP : va_P D vwCl (o_w cY aa sa bp j c ++ o_w cY ab sb bq k9 d) H) (hD : va_D A (o_w cY aa sa bp j c ++ o_w cY ab sb bq k9 d)) (hS : va_S A s.heap H locs) (hl : lv_has ls 12 [(9, .int (nI (m_xr c.1 8))), (8, .int (nI (c.1 jj))), (7, .int (nI (c.1 k))), (6, .int (nI jj)), (5, .int (nI k)), (4, .int z), (0, .ref (aa 0)), (1, .ref (ab 0)), (2, .int x), (3, .int y)]) :
    W p l e { frames := 60, cells := 2, slots := 12, locals := 4000 } s m ([.ref (aa 0), .ref (ab 0), .int x, .int y] : List Value).toArray below meth cq H locs 0 0 (s_Q below s x y D cY A aa sa bp ab sb bq) (F0 m 112 ls []) := by
  obtain ⟨C0, hE, hB, hBp, hfl⟩ := id F
  obtain ⟨hx, hb, hr, hml, hts, hown, hlocks, hK, hA⟩ := id C0
  have hck := hc.1.2 k
  have hRk : d.1 (7 - k) = q_s (c.1 k) := hR.1 k hk
  have hwd0 := hts (.constant RL 20 (900002)) (by decide +kernel)
  rcases Decidable.em (c.1 k = 0) with h0 | h0
  · skip
    refine lv_aload_n hx hb dL_isStep_112 rfl (lv_at hl 6 rfl) ?_
    refine lv_iload hx hb dL_isStep_113 (lv_at hl 4 rfl) ?_
    refine f_TL (As := [.ref (aa 0), .int (nI k)]) (rest := []) C0 hE hl hP hD hS (o_invert_x l hfl D cY eS eO aa sa bp hB j c hj hc k (by first | assumption | omega | exact nm_lt _ _ | exact np_lt _ _ | exact q_s_lt _ | decide) (by first | assumption | omega | exact nm_lt _ _ | exact np_lt _ _ | exact q_s_lt _ | decide)) (vx_cwSW 2 hts gL_isStep_L_invert rfl rfl rfl (by decide +kernel) ⟨Nat.le_of_ble_eq_true rfl, Nat.le_of_ble_eq_true rfl⟩) dL_isStep_115 rfl (Nat.le_of_ble_eq_true rfl) (Nat.le_of_ble_eq_true rfl) (Nat.le_of_ble_eq_true rfl) (fun _ => rfl) (fun r2 u H1 locs hw hP hD hS => ?_)
    try dsimp only at hw
    obtain rfl := hw
    have hP : va_P D vwCl (o_w cY aa sa bp j c ++ o_w cY ab sb bq k9 d) H1 := hP
    have hD : va_D A (o_w cY aa sa bp j c ++ o_w cY ab sb bq k9 d) := hD
    have hnp := np_lt (c.1 k) 65534
    refine lv_istore (lv' := [(10, .int (nI 900002)), (9, .int (nI (m_xr c.1 8))), (8, .int (nI (c.1 jj))), (7, .int (nI (c.1 k))), (6, .int (nI jj)), (5, .int (nI k)), (4, .int z), (0, .ref (aa 0)), (1, .ref (ab 0)), (2, .int x), (3, .int y)]) hx hb dL_isStep_118 hl (by decide) rfl (fun ls hl => ?_)
    refine lv_iload hx hb dL_isStep_120 (lv_at hl 0 rfl) ?_
    refine lv_ldc hx hb hown hwd0 dL_isStep_122 ?_
    refine lv_topi (nm_r (show ((900002 : Int32)) = nI 900002 from by decide) ?_)
    refine lv_icmp_ne (tgt := 154) hx hb dL_isStep_124 (by decide) (fun c124 => ?_) (fun c124 => ?_)
    · exact absurd c124 (by decide)
    · refine lv_iload hx hb dL_isStep_127 (lv_at hl 3 rfl) ?_
      refine lv_if_ne (tgt := 150) hx hb dL_isStep_129 (by decide) (fun h => absurd (show nI (c.1 k) = nI 0 from congrArg nI h0) h) (fun _ => ?_)
      refine lv_aload_n hx hb dL_isStep_132 rfl (lv_at hl 8 rfl) ?_
      refine lv_bipush (v := nI 7) hx hb dL_isStep_133 (by decide) ?_
      refine lv_iload hx hb dL_isStep_135 (lv_at hl 5 rfl) ?_
      refine lv_isub hx hb dL_isStep_137 ?_
      refine lv_topi (nm_r (pk_sub (by omega)) ?_)
      refine f_TR (As := [.ref (ab 0), .int (nI (7 - k))]) (rest := []) C0 hE hl hP hD hS (o_invert_x l hfl D cY eS eO ab sb bq hBp k9 d hk9 hd (7 - k) (by first | assumption | omega | exact nm_lt _ _ | exact np_lt _ _ | exact q_s_lt _ | decide) (by rw [hRk, h0]; exact q_s0)) (vx_cwSW 2 hts gL_isStep_L_invert rfl rfl rfl (by decide +kernel) ⟨Nat.le_of_ble_eq_true rfl, Nat.le_of_ble_eq_true rfl⟩) dL_isStep_138 rfl (Nat.le_of_ble_eq_true rfl) (Nat.le_of_ble_eq_true rfl) (Nat.le_of_ble_eq_true rfl) (fun _ => rfl) (fun r4 u H3 locs hw hP hD hS => ?_)
      try dsimp only at hw
      obtain rfl := hw
      have hP : va_P D vwCl (o_w cY aa sa bp j c ++ o_w cY ab sb bq k9 d) H3 := hP
      have hD : va_D A (o_w cY aa sa bp j c ++ o_w cY ab sb bq k9 d) := hD
      refine lv_ldc hx hb hown hwd0 dL_isStep_141 ?_
      refine lv_topi (nm_r (show ((900002 : Int32)) = nI 900002 from by decide) ?_)
      refine lv_icmp_ne (tgt := 150) hx hb dL_isStep_143 (by decide) (fun c143 => ?_) (fun c143 => ?_)
      · exact absurd c143 (by decide)
      · refine lv_iconst (v := nI 1) hx hb dL_isStep_146 (by decide) ?_
        refine lv_goto (tgt := 204) hx hb dL_isStep_147 (by decide) ?_
        exact f_zret (by decide) (by decide) C0 (by decide) hS dL_isStep_204 (u := (j, c, k9, d)) hP ⟨rfl, hj, hc, hk9, hd, hR⟩
  · skip
    refine lv_aload_n hx hb dL_isStep_112 rfl (lv_at hl 6 rfl) ?_
    refine lv_iload hx hb dL_isStep_113 (lv_at hl 4 rfl) ?_
    refine f_TL (As := [.ref (aa 0), .int (nI k)]) (rest := []) C0 hE hl hP hD hS (o_invert l hfl D cY eS eO aa sa bp hB j c hj hc k (by first | assumption | omega | exact nm_lt _ _ | exact np_lt _ _ | exact q_s_lt _ | decide) (by first | assumption | omega | exact nm_lt _ _ | exact np_lt _ _ | exact q_s_lt _ | decide)) (vx_cwSW 2 hts gL_isStep_L_invert rfl rfl rfl (by decide +kernel) ⟨Nat.le_of_ble_eq_true rfl, Nat.le_of_ble_eq_true rfl⟩) dL_isStep_115 rfl (Nat.le_of_ble_eq_true rfl) (Nat.le_of_ble_eq_true rfl) (Nat.le_of_ble_eq_true rfl) (fun _ => rfl) (fun r6 u H5 locs hw hP hD hS => ?_)
    try dsimp only at hw
    obtain rfl := hw
    have hc7 : o_C (o_rec c (m_up c.1 k (np (c.1 k) 65534)) c.2.1) := o_C_rec hc (o_g_up hc.1 (by first | assumption | omega | exact nm_lt _ _ | exact np_lt _ _ | exact q_s_lt _ | decide) (np_lt _ _))
    have hP : va_P D vwCl (o_w cY aa sa bp j (o_rec c (m_up c.1 k (np (c.1 k) 65534)) c.2.1) ++ o_w cY ab sb bq k9 d) H5 := hP
    have hD : va_D A (o_w cY aa sa bp j (o_rec c (m_up c.1 k (np (c.1 k) 65534)) c.2.1) ++ o_w cY ab sb bq k9 d) := hD
    have hnp := np_lt (c.1 k) 65534
    refine lv_istore (lv' := [(10, .int (nI (np (c.1 k) 65534))), (9, .int (nI (m_xr c.1 8))), (8, .int (nI (c.1 jj))), (7, .int (nI (c.1 k))), (6, .int (nI jj)), (5, .int (nI k)), (4, .int z), (0, .ref (aa 0)), (1, .ref (ab 0)), (2, .int x), (3, .int y)]) hx hb dL_isStep_118 hl (by decide) rfl (fun ls hl => ?_)
    refine lv_iload hx hb dL_isStep_120 (lv_at hl 0 rfl) ?_
    refine lv_ldc hx hb hown hwd0 dL_isStep_122 ?_
    refine lv_topi (nm_r (show ((900002 : Int32)) = nI 900002 from by decide) ?_)
    refine lv_icmp_ne (tgt := 154) hx hb dL_isStep_124 (by decide) (fun c124 => ?_) (fun c124 => ?_)
    · have c124 : ¬ ((np (c.1 k) 65534) = 900002) := fun qq9 => c124 ((nI_eq (a := (np (c.1 k) 65534)) (b := 900002) (by first | omega | exact Nat.lt_of_le_of_lt Nat.and_le_right (by decide) | exact Nat.lt_trans (nm_lt _ _) (by decide) | exact Nat.lt_trans (np_lt _ _) (by decide) | exact Nat.lt_trans (p_at_lt htx) (by decide)) (by first | omega | exact Nat.lt_of_le_of_lt Nat.and_le_right (by decide) | exact Nat.lt_trans (nm_lt _ _) (by decide) | exact Nat.lt_trans (np_lt _ _) (by decide) | exact Nat.lt_trans (p_at_lt htx) (by decide))).mpr qq9)
      refine lv_aload_n hx hb dL_isStep_154 rfl (lv_at hl 7 rfl) ?_
      refine lv_iload hx hb dL_isStep_155 (lv_at hl 0 rfl) ?_
      refine f_SL (As := [.ref (aa 0), .int (nI (np (c.1 k) 65534))]) (rest := []) C0 hE hl hP hD hS (o_square l hfl D cY eS eO aa sa bp hB j (o_rec c (m_up c.1 k (np (c.1 k) 65534)) c.2.1) hj hc7 (np (c.1 k) 65534) (by first | assumption | omega | exact nm_lt _ _ | exact np_lt _ _ | exact q_s_lt _ | decide)) (va_cwS 2 hts gL_isStep_L_square rfl rfl rfl (by decide +kernel) ⟨Nat.le_of_ble_eq_true rfl, Nat.le_of_ble_eq_true rfl⟩) dL_isStep_157 rfl (Nat.le_of_ble_eq_true rfl) (Nat.le_of_ble_eq_true rfl) (Nat.le_of_ble_eq_true rfl) (fun _ => rfl) (fun r9 u H8 locs hw hP hD hS => ?_)
      try dsimp only at hw
      obtain rfl := hw
      have hP : va_P D vwCl (o_w cY aa sa bp j (o_rec c (m_up c.1 k (np (c.1 k) 65534)) c.2.1) ++ o_w cY ab sb bq k9 d) H8 := hP
      have hD : va_D A (o_w cY aa sa bp j (o_rec c (m_up c.1 k (np (c.1 k) 65534)) c.2.1) ++ o_w cY ab sb bq k9 d) := hD
      refine lv_aload_n hx hb dL_isStep_160 rfl (lv_at hl 8 rfl) ?_
      refine lv_bipush (v := nI 7) hx hb dL_isStep_161 (by decide) ?_
      refine lv_iload hx hb dL_isStep_163 (lv_at hl 5 rfl) ?_
      refine lv_isub hx hb dL_isStep_165 ?_
      refine lv_topi (nm_r (pk_sub (by omega)) ?_)
      refine f_TR (As := [.ref (ab 0), .int (nI (7 - k))]) (rest := [.int (nI (q_s (np (c.1 k) 65534)))]) C0 hE hl hP hD hS (o_invert l hfl D cY eS eO ab sb bq hBp k9 d hk9 hd (7 - k) (by first | assumption | omega | exact nm_lt _ _ | exact np_lt _ _ | exact q_s_lt _ | decide) (by rw [hRk, q_s_z hck]; exact h0)) (vx_cwSW 2 hts gL_isStep_L_invert rfl rfl rfl (by decide +kernel) ⟨Nat.le_of_ble_eq_true rfl, Nat.le_of_ble_eq_true rfl⟩) dL_isStep_166 rfl (Nat.le_of_ble_eq_true rfl) (Nat.le_of_ble_eq_true rfl) (Nat.le_of_ble_eq_true rfl) (fun _ => rfl) (fun r11 u H10 locs hw hP hD hS => ?_)
      try dsimp only at hw
      obtain rfl := hw
      have hc12 : o_C (o_rec d (m_up d.1 (7 - k) (np (d.1 (7 - k)) 65534)) d.2.1) := o_C_rec hd (o_g_up hd.1 (by first | assumption | omega | exact nm_lt _ _ | exact np_lt _ _ | exact q_s_lt _ | decide) (np_lt _ _))
      have hP : va_P D vwCl (o_w cY aa sa bp j (o_rec c (m_up c.1 k (np (c.1 k) 65534)) c.2.1) ++ o_w cY ab sb bq k9 (o_rec d (m_up d.1 (7 - k) (np (d.1 (7 - k)) 65534)) d.2.1)) H10 := hP
      have hD : va_D A (o_w cY aa sa bp j (o_rec c (m_up c.1 k (np (c.1 k) 65534)) c.2.1) ++ o_w cY ab sb bq k9 (o_rec d (m_up d.1 (7 - k) (np (d.1 (7 - k)) 65534)) d.2.1)) := hD
      refine lv_icmp_ne (tgt := 203) hx hb dL_isStep_169 (by decide) (fun h => absurd (show nI (q_s (np (c.1 k) 65534)) = nI (np (d.1 (7 - k)) 65534) from congrArg nI ((q_s_p _ _).trans (by rw [hRk]))) h) (fun _ => ?_)
      refine lv_aload_n hx hb dL_isStep_172 rfl (lv_at hl 7 rfl) ?_
      refine lv_iload hx hb dL_isStep_173 (lv_at hl 3 rfl) ?_
      refine lv_iload hx hb dL_isStep_175 (lv_at hl 0 rfl) ?_
      refine f_TL (As := [.ref (aa 0), .int (nI (c.1 k)), .int (nI (np (c.1 k) 65534))]) (rest := []) C0 hE hl hP hD hS (o_halves l hfl D cY eS eO aa sa bp hB j (o_rec c (m_up c.1 k (np (c.1 k) 65534)) c.2.1) hj hc7 (c.1 k) (np (c.1 k) 65534) (by first | assumption | omega | exact nm_lt _ _ | exact np_lt _ _ | exact q_s_lt _ | decide) (by first | assumption | omega | exact nm_lt _ _ | exact np_lt _ _ | exact q_s_lt _ | decide)) (vx_cwSW 3 hts gL_isStep_L_halves rfl rfl rfl (by decide +kernel) ⟨Nat.le_of_ble_eq_true rfl, Nat.le_of_ble_eq_true rfl⟩) dL_isStep_177 rfl (Nat.le_of_ble_eq_true rfl) (Nat.le_of_ble_eq_true rfl) (Nat.le_of_ble_eq_true rfl) (fun _ => rfl) (fun r14 u H13 locs hw hP hD hS => ?_)
      try dsimp only at hw
      obtain rfl := hw
      have hP : va_P D vwCl (o_w cY aa sa bp j (o_rec c (m_up c.1 k (np (c.1 k) 65534)) c.2.1) ++ o_w cY ab sb bq k9 (o_rec d (m_up d.1 (7 - k) (np (d.1 (7 - k)) 65534)) d.2.1)) H13 := hP
      have hD : va_D A (o_w cY aa sa bp j (o_rec c (m_up c.1 k (np (c.1 k) 65534)) c.2.1) ++ o_w cY ab sb bq k9 (o_rec d (m_up d.1 (7 - k) (np (d.1 (7 - k)) 65534)) d.2.1)) := hD
      refine lv_iconst (v := nI 1) hx hb dL_isStep_180 (by decide) ?_
      refine lv_icmp_ne (tgt := 203) hx hb dL_isStep_181 (by decide) (fun h => absurd (show nI (nm (c.1 k) (np (c.1 k) 65534)) = nI 1 from congrArg nI (q_inv hck h0)) h) (fun _ => ?_)
      refine lv_aload_n hx hb dL_isStep_184 rfl (lv_at hl 7 rfl) ?_
      refine f_VL (As := []) (rest := []) C0 hE hl hP hD hS (o_sumOfAll l hfl D cY eS eO aa sa bp hB j (o_rec c (m_up c.1 k (np (c.1 k) 65534)) c.2.1) hj hc7  ) (cwV 0 hts gL_isStep_X6_sumOfAll rfl rfl rfl (by decide +kernel) ⟨Nat.le_of_ble_eq_true rfl, Nat.le_of_ble_eq_true rfl⟩) dL_isStep_185 0 rfl rfl rfl rfl (Nat.le_of_ble_eq_true rfl) (Nat.le_of_ble_eq_true rfl) (Nat.le_of_ble_eq_true rfl) (fun _ => rfl) (fun r16 u H15 locs hw hP hD hS => ?_)
      try dsimp only at hw
      obtain rfl := hw
      have hP : va_P D vwCl (o_w cY aa sa bp j (o_rec c (m_up c.1 k (np (c.1 k) 65534)) c.2.1) ++ o_w cY ab sb bq k9 (o_rec d (m_up d.1 (7 - k) (np (d.1 (7 - k)) 65534)) d.2.1)) H15 := hP
      have hD : va_D A (o_w cY aa sa bp j (o_rec c (m_up c.1 k (np (c.1 k) 65534)) c.2.1) ++ o_w cY ab sb bq k9 (o_rec d (m_up d.1 (7 - k) (np (d.1 (7 - k)) 65534)) d.2.1)) := hD
      refine lv_iload hx hb dL_isStep_188 (lv_at hl 1 rfl) ?_
      refine lv_iload hx hb dL_isStep_190 (lv_at hl 3 rfl) ?_
      refine lv_ixor hx hb dL_isStep_192 ?_
      refine lv_topi (nm_r (nx_xor _ _) ?_)
      refine lv_iload hx hb dL_isStep_193 (lv_at hl 0 rfl) ?_
      refine lv_ixor hx hb dL_isStep_195 ?_
      refine lv_topi (nm_r (nx_xor _ _) ?_)
      refine lv_icmp_ne (tgt := 203) hx hb dL_isStep_196 (by decide) (fun h => absurd (show nI (m_xr (o_rec c (m_up c.1 k (np (c.1 k) 65534)) c.2.1).1 8) = nI (((m_xr c.1 8) ^^^ (c.1 k)) ^^^ (np (c.1 k) 65534)) from congrArg nI (q_xr_up hk)) h) (fun _ => ?_)
      refine lv_iconst (v := nI 1) hx hb dL_isStep_199 (by decide) ?_
      refine lv_goto (tgt := 204) hx hb dL_isStep_200 (by decide) ?_
      exact f_zret (by decide) (by decide) C0 (by decide) hS dL_isStep_204 (u := (j, o_rec c (m_up c.1 k (np (c.1 k) 65534)) c.2.1, k9, o_rec d (m_up d.1 (7 - k) (np (d.1 (7 - k)) 65534)) d.2.1)) hP ⟨rfl, hj, hc7, hk9, hc12, o_R_rec hR (q_R_up hR.1 hk (by rw [hRk, q_s_p])) hR.2.1⟩
    · have c124 : (np (c.1 k) 65534) = 900002 := (nI_eq (a := (np (c.1 k) 65534)) (b := 900002) (by first | omega | exact Nat.lt_of_le_of_lt Nat.and_le_right (by decide) | exact Nat.lt_trans (nm_lt _ _) (by decide) | exact Nat.lt_trans (np_lt _ _) (by decide) | exact Nat.lt_trans (p_at_lt htx) (by decide)) (by first | omega | exact Nat.lt_of_le_of_lt Nat.and_le_right (by decide) | exact Nat.lt_trans (nm_lt _ _) (by decide) | exact Nat.lt_trans (np_lt _ _) (by decide) | exact Nat.lt_trans (p_at_lt htx) (by decide))).mp c124
      exfalso; omega
set_option maxHeartbeats 8000000 in
set_option maxRecDepth 100000 in
theorem s_case205 {p : Program} {l : Launch} {e : Env} {s : State} {m : MethodId} {below : List Frame} {meth : Method} {cq : Code} {x y : Int32} {D : va_G} {cY : Nat → ClassId} {A : Nat → Prop} {eS : Nat → Nat} {eO : Nat} {aa sa bp ab sb bq : Nat → Nat} (F : s_F p l e s m meth cq x y D cY A eS eO aa sa bp ab sb bq) {j : oJ} {c : oC} {k9 : oJ} {d : oC} (hj : o_J j) (hc : o_C c) (hk9 : o_J k9) (hd : o_C d) (hR : o_R c d) {z : Int32} {k jj : Nat} (hk : k < 8) (hjj : jj < 8) {H : Heap} {locs : List Loc} {ls : Array Slot} (hP : va_P D vwCl (o_w cY aa sa bp j c ++ o_w cY ab sb bq k9 d) H) (hD : va_D A (o_w cY aa sa bp j c ++ o_w cY ab sb bq k9 d)) (hS : va_S A s.heap H locs) (hl : lv_has ls 12 [(9, .int (nI (m_xr c.1 8))), (8, .int (nI (c.1 jj))), (7, .int (nI (c.1 k))), (6, .int (nI jj)), (5, .int (nI k)), (4, .int z), (0, .ref (aa 0)), (1, .ref (ab 0)), (2, .int x), (3, .int y)]) :
    W p l e { frames := 60, cells := 2, slots := 12, locals := 4000 } s m ([.ref (aa 0), .ref (ab 0), .int x, .int y] : List Value).toArray below meth cq H locs 0 0 (s_Q below s x y D cY A aa sa bp ab sb bq) (F0 m 205 ls []) := by
  obtain ⟨C0, hE, hB, hBp, hfl⟩ := id F
  obtain ⟨hx, hb, hr, hml, hts, hown, hlocks, hK, hA⟩ := id C0
  have hck := hc.1.2 k
  have hRk : d.1 (7 - k) = q_s (c.1 k) := hR.1 k hk
  refine lv_aload_n hx hb dL_isStep_205 rfl (lv_at hl 6 rfl) ?_
  refine lv_iload hx hb dL_isStep_206 (lv_at hl 4 rfl) ?_
  refine f_TL (As := [.ref (aa 0), .int (nI k)]) (rest := []) C0 hE hl hP hD hS (o_takeRoot l hfl D cY eS eO aa sa bp hB j c hj hc k (by first | assumption | omega | exact nm_lt _ _ | exact np_lt _ _ | exact q_s_lt _ | decide)) (vx_cwSW 2 hts gL_isStep_L_takeRoot rfl rfl rfl (by decide +kernel) ⟨Nat.le_of_ble_eq_true rfl, Nat.le_of_ble_eq_true rfl⟩) dL_isStep_208 rfl (Nat.le_of_ble_eq_true rfl) (Nat.le_of_ble_eq_true rfl) (Nat.le_of_ble_eq_true rfl) (fun _ => rfl) (fun r2 u H1 locs hw hP hD hS => ?_)
  try dsimp only at hw
  obtain rfl := hw
  have hc3 : o_C (o_rec c (m_up c.1 k (np (c.1 k) 32768)) c.2.1) := o_C_rec hc (o_g_up hc.1 (by first | assumption | omega | exact nm_lt _ _ | exact np_lt _ _ | exact q_s_lt _ | decide) (np_lt _ _))
  have hP : va_P D vwCl (o_w cY aa sa bp j (o_rec c (m_up c.1 k (np (c.1 k) 32768)) c.2.1) ++ o_w cY ab sb bq k9 d) H1 := hP
  have hD : va_D A (o_w cY aa sa bp j (o_rec c (m_up c.1 k (np (c.1 k) 32768)) c.2.1) ++ o_w cY ab sb bq k9 d) := hD
  refine lv_istore (lv' := [(10, .int (nI (np (c.1 k) 32768))), (9, .int (nI (m_xr c.1 8))), (8, .int (nI (c.1 jj))), (7, .int (nI (c.1 k))), (6, .int (nI jj)), (5, .int (nI k)), (4, .int z), (0, .ref (aa 0)), (1, .ref (ab 0)), (2, .int x), (3, .int y)]) hx hb dL_isStep_211 hl (by decide) rfl (fun ls hl => ?_)
  refine lv_aload_n hx hb dL_isStep_213 rfl (lv_at hl 8 rfl) ?_
  refine lv_bipush (v := nI 7) hx hb dL_isStep_214 (by decide) ?_
  refine lv_iload hx hb dL_isStep_216 (lv_at hl 5 rfl) ?_
  refine lv_isub hx hb dL_isStep_218 ?_
  refine lv_topi (nm_r (pk_sub (by omega)) ?_)
  refine f_TR (As := [.ref (ab 0), .int (nI (7 - k))]) (rest := []) C0 hE hl hP hD hS (o_takeRoot l hfl D cY eS eO ab sb bq hBp k9 d hk9 hd (7 - k) (by first | assumption | omega | exact nm_lt _ _ | exact np_lt _ _ | exact q_s_lt _ | decide)) (vx_cwSW 2 hts gL_isStep_L_takeRoot rfl rfl rfl (by decide +kernel) ⟨Nat.le_of_ble_eq_true rfl, Nat.le_of_ble_eq_true rfl⟩) dL_isStep_219 rfl (Nat.le_of_ble_eq_true rfl) (Nat.le_of_ble_eq_true rfl) (Nat.le_of_ble_eq_true rfl) (fun _ => rfl) (fun r5 u H4 locs hw hP hD hS => ?_)
  try dsimp only at hw
  obtain rfl := hw
  have hc6 : o_C (o_rec d (m_up d.1 (7 - k) (np (d.1 (7 - k)) 32768)) d.2.1) := o_C_rec hd (o_g_up hd.1 (by first | assumption | omega | exact nm_lt _ _ | exact np_lt _ _ | exact q_s_lt _ | decide) (np_lt _ _))
  have hP : va_P D vwCl (o_w cY aa sa bp j (o_rec c (m_up c.1 k (np (c.1 k) 32768)) c.2.1) ++ o_w cY ab sb bq k9 (o_rec d (m_up d.1 (7 - k) (np (d.1 (7 - k)) 32768)) d.2.1)) H4 := hP
  have hD : va_D A (o_w cY aa sa bp j (o_rec c (m_up c.1 k (np (c.1 k) 32768)) c.2.1) ++ o_w cY ab sb bq k9 (o_rec d (m_up d.1 (7 - k) (np (d.1 (7 - k)) 32768)) d.2.1)) := hD
  refine lv_iload hx hb dL_isStep_222 (lv_at hl 3 rfl) ?_
  refine lv_icmp_ne (tgt := 242) hx hb dL_isStep_224 (by decide) (fun h => absurd (show nI (np (d.1 (7 - k)) 32768) = nI (c.1 k) from congrArg nI (by rw [hRk]; exact q_rt hck)) h) (fun _ => ?_)
  refine lv_aload_n hx hb dL_isStep_227 rfl (lv_at hl 7 rfl) ?_
  refine lv_iload hx hb dL_isStep_228 (lv_at hl 0 rfl) ?_
  refine f_SL (As := [.ref (aa 0), .int (nI (np (c.1 k) 32768))]) (rest := []) C0 hE hl hP hD hS (o_square l hfl D cY eS eO aa sa bp hB j (o_rec c (m_up c.1 k (np (c.1 k) 32768)) c.2.1) hj hc3 (np (c.1 k) 32768) (by first | assumption | omega | exact nm_lt _ _ | exact np_lt _ _ | exact q_s_lt _ | decide)) (va_cwS 2 hts gL_isStep_L_square rfl rfl rfl (by decide +kernel) ⟨Nat.le_of_ble_eq_true rfl, Nat.le_of_ble_eq_true rfl⟩) dL_isStep_230 rfl (Nat.le_of_ble_eq_true rfl) (Nat.le_of_ble_eq_true rfl) (Nat.le_of_ble_eq_true rfl) (fun _ => rfl) (fun r8 u H7 locs hw hP hD hS => ?_)
  try dsimp only at hw
  obtain rfl := hw
  have hP : va_P D vwCl (o_w cY aa sa bp j (o_rec c (m_up c.1 k (np (c.1 k) 32768)) c.2.1) ++ o_w cY ab sb bq k9 (o_rec d (m_up d.1 (7 - k) (np (d.1 (7 - k)) 32768)) d.2.1)) H7 := hP
  have hD : va_D A (o_w cY aa sa bp j (o_rec c (m_up c.1 k (np (c.1 k) 32768)) c.2.1) ++ o_w cY ab sb bq k9 (o_rec d (m_up d.1 (7 - k) (np (d.1 (7 - k)) 32768)) d.2.1)) := hD
  refine lv_iload hx hb dL_isStep_233 (lv_at hl 3 rfl) ?_
  refine lv_icmp_ne (tgt := 242) hx hb dL_isStep_235 (by decide) (fun h => absurd (show nI (q_s (np (c.1 k) 32768)) = nI (c.1 k) from congrArg nI (q_s_rt hck)) h) (fun _ => ?_)
  refine lv_iconst (v := nI 1) hx hb dL_isStep_238 (by decide) ?_
  refine lv_goto (tgt := 243) hx hb dL_isStep_239 (by decide) ?_
  exact f_zret (by decide) (by decide) C0 (by decide) hS dL_isStep_243 (u := (j, o_rec c (m_up c.1 k (np (c.1 k) 32768)) c.2.1, k9, o_rec d (m_up d.1 (7 - k) (np (d.1 (7 - k)) 32768)) d.2.1)) hP ⟨rfl, hj, hc3, hk9, hc6, o_R_rec hR (q_R_up hR.1 hk (by rw [hRk, q_rt hck, q_s_rt hck])) hR.2.1⟩
set_option maxHeartbeats 8000000 in
set_option maxRecDepth 100000 in
theorem s_case244 {p : Program} {l : Launch} {e : Env} {s : State} {m : MethodId} {below : List Frame} {meth : Method} {cq : Code} {x y : Int32} {D : va_G} {cY : Nat → ClassId} {A : Nat → Prop} {eS : Nat → Nat} {eO : Nat} {aa sa bp ab sb bq : Nat → Nat} (F : s_F p l e s m meth cq x y D cY A eS eO aa sa bp ab sb bq) {j : oJ} {c : oC} {k9 : oJ} {d : oC} (hj : o_J j) (hc : o_C c) (hk9 : o_J k9) (hd : o_C d) (hR : o_R c d) {z : Int32} {k jj : Nat} (hk : k < 8) (hjj : jj < 8) {H : Heap} {locs : List Loc} {ls : Array Slot} (hP : va_P D vwCl (o_w cY aa sa bp j c ++ o_w cY ab sb bq k9 d) H) (hD : va_D A (o_w cY aa sa bp j c ++ o_w cY ab sb bq k9 d)) (hS : va_S A s.heap H locs) (hl : lv_has ls 12 [(9, .int (nI (m_xr c.1 8))), (8, .int (nI (c.1 jj))), (7, .int (nI (c.1 k))), (6, .int (nI jj)), (5, .int (nI k)), (4, .int z), (0, .ref (aa 0)), (1, .ref (ab 0)), (2, .int x), (3, .int y)]) :
    W p l e { frames := 60, cells := 2, slots := 12, locals := 4000 } s m ([.ref (aa 0), .ref (ab 0), .int x, .int y] : List Value).toArray below meth cq H locs 0 0 (s_Q below s x y D cY A aa sa bp ab sb bq) (F0 m 244 ls []) := by
  obtain ⟨C0, hE, hB, hBp, hfl⟩ := id F
  obtain ⟨hx, hb, hr, hml, hts, hown, hlocks, hK, hA⟩ := id C0
  have hck := hc.1.2 k
  have hRk : d.1 (7 - k) = q_s (c.1 k) := hR.1 k hk
  have hRj : d.1 (7 - jj) = q_s (c.1 jj) := hR.1 jj hjj
  have hcj := hc.1.2 jj
  refine lv_aload_n hx hb dL_isStep_244 rfl (lv_at hl 6 rfl) ?_
  refine lv_iload hx hb dL_isStep_245 (lv_at hl 4 rfl) ?_
  refine lv_iload hx hb dL_isStep_247 (lv_at hl 3 rfl) ?_
  refine f_TL (As := [.ref (aa 0), .int (nI k), .int (nI jj)]) (rest := []) C0 hE hl hP hD hS (o_multiply l hfl D cY eS eO aa sa bp hB j c hj hc k jj (by first | assumption | omega | exact nm_lt _ _ | exact np_lt _ _ | exact q_s_lt _ | decide) (by first | assumption | omega | exact nm_lt _ _ | exact np_lt _ _ | exact q_s_lt _ | decide)) (vx_cwSW 3 hts gL_isStep_L_multiply rfl rfl rfl (by decide +kernel) ⟨Nat.le_of_ble_eq_true rfl, Nat.le_of_ble_eq_true rfl⟩) dL_isStep_249 rfl (Nat.le_of_ble_eq_true rfl) (Nat.le_of_ble_eq_true rfl) (Nat.le_of_ble_eq_true rfl) (fun _ => rfl) (fun r2 u H1 locs hw hP hD hS => ?_)
  try dsimp only at hw
  obtain rfl := hw
  have hc3 : o_C (o_rec c (m_up c.1 k (nm (c.1 k) (c.1 jj))) (c.2.1 + 1)) := o_C_rec hc (o_g_up hc.1 (by first | assumption | omega | exact nm_lt _ _ | exact np_lt _ _ | exact q_s_lt _ | decide) (nm_lt _ _))
  have hP : va_P D vwCl (o_w cY aa sa bp j (o_rec c (m_up c.1 k (nm (c.1 k) (c.1 jj))) (c.2.1 + 1)) ++ o_w cY ab sb bq k9 d) H1 := hP
  have hD : va_D A (o_w cY aa sa bp j (o_rec c (m_up c.1 k (nm (c.1 k) (c.1 jj))) (c.2.1 + 1)) ++ o_w cY ab sb bq k9 d) := hD
  refine lv_istore (lv' := [(10, .int (nI (nm (c.1 k) (c.1 jj)))), (9, .int (nI (m_xr c.1 8))), (8, .int (nI (c.1 jj))), (7, .int (nI (c.1 k))), (6, .int (nI jj)), (5, .int (nI k)), (4, .int z), (0, .ref (aa 0)), (1, .ref (ab 0)), (2, .int x), (3, .int y)]) hx hb dL_isStep_252 hl (by decide) rfl (fun ls hl => ?_)
  refine lv_aload_n hx hb dL_isStep_254 rfl (lv_at hl 8 rfl) ?_
  refine f_VR (As := []) (rest := []) C0 hE hl hP hD hS (o_products l hfl D cY eS eO ab sb bq hBp k9 d hk9 hd  ) (cwV 0 hts gL_isStep_X6_products rfl rfl rfl (by decide +kernel) ⟨Nat.le_of_ble_eq_true rfl, Nat.le_of_ble_eq_true rfl⟩) dL_isStep_255 0 rfl rfl rfl rfl (Nat.le_of_ble_eq_true rfl) (Nat.le_of_ble_eq_true rfl) (Nat.le_of_ble_eq_true rfl) (fun _ => rfl) (fun r5 u H4 locs hw hP hD hS => ?_)
  try dsimp only at hw
  obtain rfl := hw
  have hP : va_P D vwCl (o_w cY aa sa bp j (o_rec c (m_up c.1 k (nm (c.1 k) (c.1 jj))) (c.2.1 + 1)) ++ o_w cY ab sb bq k9 d) H4 := hP
  have hD : va_D A (o_w cY aa sa bp j (o_rec c (m_up c.1 k (nm (c.1 k) (c.1 jj))) (c.2.1 + 1)) ++ o_w cY ab sb bq k9 d) := hD
  refine lv_istore (lv' := [(11, .int (nI d.2.1)), (10, .int (nI (nm (c.1 k) (c.1 jj)))), (9, .int (nI (m_xr c.1 8))), (8, .int (nI (c.1 jj))), (7, .int (nI (c.1 k))), (6, .int (nI jj)), (5, .int (nI k)), (4, .int z), (0, .ref (aa 0)), (1, .ref (ab 0)), (2, .int x), (3, .int y)]) hx hb dL_isStep_258 hl (by decide) rfl (fun ls hl => ?_)
  refine lv_aload_n hx hb dL_isStep_260 rfl (lv_at hl 8 rfl) ?_
  refine lv_iload hx hb dL_isStep_261 (lv_at hl 1 rfl) ?_
  refine f_SL (As := [.ref (aa 0), .int (nI (nm (c.1 k) (c.1 jj)))]) (rest := []) C0 hE hl hP hD hS (o_square l hfl D cY eS eO aa sa bp hB j (o_rec c (m_up c.1 k (nm (c.1 k) (c.1 jj))) (c.2.1 + 1)) hj hc3 (nm (c.1 k) (c.1 jj)) (by first | assumption | omega | exact nm_lt _ _ | exact np_lt _ _ | exact q_s_lt _ | decide)) (va_cwS 2 hts gL_isStep_L_square rfl rfl rfl (by decide +kernel) ⟨Nat.le_of_ble_eq_true rfl, Nat.le_of_ble_eq_true rfl⟩) dL_isStep_263 rfl (Nat.le_of_ble_eq_true rfl) (Nat.le_of_ble_eq_true rfl) (Nat.le_of_ble_eq_true rfl) (fun _ => rfl) (fun r7 u H6 locs hw hP hD hS => ?_)
  try dsimp only at hw
  obtain rfl := hw
  have hP : va_P D vwCl (o_w cY aa sa bp j (o_rec c (m_up c.1 k (nm (c.1 k) (c.1 jj))) (c.2.1 + 1)) ++ o_w cY ab sb bq k9 d) H6 := hP
  have hD : va_D A (o_w cY aa sa bp j (o_rec c (m_up c.1 k (nm (c.1 k) (c.1 jj))) (c.2.1 + 1)) ++ o_w cY ab sb bq k9 d) := hD
  refine lv_aload_n hx hb dL_isStep_266 rfl (lv_at hl 9 rfl) ?_
  refine lv_bipush (v := nI 7) hx hb dL_isStep_267 (by decide) ?_
  refine lv_iload hx hb dL_isStep_269 (lv_at hl 6 rfl) ?_
  refine lv_isub hx hb dL_isStep_271 ?_
  refine lv_topi (nm_r (pk_sub (by omega)) ?_)
  refine lv_bipush (v := nI 7) hx hb dL_isStep_272 (by decide) ?_
  refine lv_iload hx hb dL_isStep_274 (lv_at hl 5 rfl) ?_
  refine lv_isub hx hb dL_isStep_276 ?_
  refine lv_topi (nm_r (pk_sub (by omega)) ?_)
  refine f_TR (As := [.ref (ab 0), .int (nI (7 - k)), .int (nI (7 - jj))]) (rest := [.int (nI (q_s (nm (c.1 k) (c.1 jj))))]) C0 hE hl hP hD hS (o_multiply l hfl D cY eS eO ab sb bq hBp k9 d hk9 hd (7 - k) (7 - jj) (by first | assumption | omega | exact nm_lt _ _ | exact np_lt _ _ | exact q_s_lt _ | decide) (by first | assumption | omega | exact nm_lt _ _ | exact np_lt _ _ | exact q_s_lt _ | decide)) (vx_cwSW 3 hts gL_isStep_L_multiply rfl rfl rfl (by decide +kernel) ⟨Nat.le_of_ble_eq_true rfl, Nat.le_of_ble_eq_true rfl⟩) dL_isStep_277 rfl (Nat.le_of_ble_eq_true rfl) (Nat.le_of_ble_eq_true rfl) (Nat.le_of_ble_eq_true rfl) (fun _ => rfl) (fun r9 u H8 locs hw hP hD hS => ?_)
  try dsimp only at hw
  obtain rfl := hw
  have hc10 : o_C (o_rec d (m_up d.1 (7 - k) (nm (d.1 (7 - k)) (d.1 (7 - jj)))) (d.2.1 + 1)) := o_C_rec hd (o_g_up hd.1 (by first | assumption | omega | exact nm_lt _ _ | exact np_lt _ _ | exact q_s_lt _ | decide) (nm_lt _ _))
  have hP : va_P D vwCl (o_w cY aa sa bp j (o_rec c (m_up c.1 k (nm (c.1 k) (c.1 jj))) (c.2.1 + 1)) ++ o_w cY ab sb bq k9 (o_rec d (m_up d.1 (7 - k) (nm (d.1 (7 - k)) (d.1 (7 - jj)))) (d.2.1 + 1))) H8 := hP
  have hD : va_D A (o_w cY aa sa bp j (o_rec c (m_up c.1 k (nm (c.1 k) (c.1 jj))) (c.2.1 + 1)) ++ o_w cY ab sb bq k9 (o_rec d (m_up d.1 (7 - k) (nm (d.1 (7 - k)) (d.1 (7 - jj)))) (d.2.1 + 1))) := hD
  refine lv_icmp_ne (tgt := 311) hx hb dL_isStep_280 (by decide) (fun h => absurd (show nI (q_s (nm (c.1 k) (c.1 jj))) = nI (nm (d.1 (7 - k)) (d.1 (7 - jj))) from congrArg nI (by rw [hRk, hRj]; exact q_s_m _ _)) h) (fun _ => ?_)
  refine lv_iload hx hb dL_isStep_283 (lv_at hl 1 rfl) ?_
  refine lv_aload_n hx hb dL_isStep_285 rfl (lv_at hl 8 rfl) ?_
  refine lv_iload hx hb dL_isStep_286 (lv_at hl 4 rfl) ?_
  refine lv_iload hx hb dL_isStep_288 (lv_at hl 3 rfl) ?_
  refine f_TL (As := [.ref (aa 0), .int (nI (c.1 k)), .int (nI (c.1 jj))]) (rest := [.int (nI (nm (c.1 k) (c.1 jj)))]) C0 hE hl hP hD hS (o_bits l hfl D cY eS eO aa sa bp hB j (o_rec c (m_up c.1 k (nm (c.1 k) (c.1 jj))) (c.2.1 + 1)) hj hc3 (c.1 k) (c.1 jj) (by first | assumption | omega | exact nm_lt _ _ | exact np_lt _ _ | exact q_s_lt _ | decide) (by first | assumption | omega | exact nm_lt _ _ | exact np_lt _ _ | exact q_s_lt _ | decide)) (vx_cwSW 3 hts gL_isStep_L_bits rfl rfl rfl (by decide +kernel) ⟨Nat.le_of_ble_eq_true rfl, Nat.le_of_ble_eq_true rfl⟩) dL_isStep_290 rfl (Nat.le_of_ble_eq_true rfl) (Nat.le_of_ble_eq_true rfl) (Nat.le_of_ble_eq_true rfl) (fun _ => rfl) (fun r12 u H11 locs hw hP hD hS => ?_)
  try dsimp only at hw
  obtain rfl := hw
  have hP : va_P D vwCl (o_w cY aa sa bp j (o_rec c (m_up c.1 k (nm (c.1 k) (c.1 jj))) (c.2.1 + 1)) ++ o_w cY ab sb bq k9 (o_rec d (m_up d.1 (7 - k) (nm (d.1 (7 - k)) (d.1 (7 - jj)))) (d.2.1 + 1))) H11 := hP
  have hD : va_D A (o_w cY aa sa bp j (o_rec c (m_up c.1 k (nm (c.1 k) (c.1 jj))) (c.2.1 + 1)) ++ o_w cY ab sb bq k9 (o_rec d (m_up d.1 (7 - k) (nm (d.1 (7 - k)) (d.1 (7 - jj)))) (d.2.1 + 1))) := hD
  refine lv_icmp_ne (tgt := 311) hx hb dL_isStep_293 (by decide) (fun h => absurd (show nI (nm (c.1 k) (c.1 jj)) = nI (nm (c.1 k) (c.1 jj)) from rfl) h) (fun _ => ?_)
  refine lv_aload_n hx hb dL_isStep_296 rfl (lv_at hl 9 rfl) ?_
  refine f_VR (As := []) (rest := []) C0 hE hl hP hD hS (o_products l hfl D cY eS eO ab sb bq hBp k9 (o_rec d (m_up d.1 (7 - k) (nm (d.1 (7 - k)) (d.1 (7 - jj)))) (d.2.1 + 1)) hk9 hc10  ) (cwV 0 hts gL_isStep_X6_products rfl rfl rfl (by decide +kernel) ⟨Nat.le_of_ble_eq_true rfl, Nat.le_of_ble_eq_true rfl⟩) dL_isStep_297 0 rfl rfl rfl rfl (Nat.le_of_ble_eq_true rfl) (Nat.le_of_ble_eq_true rfl) (Nat.le_of_ble_eq_true rfl) (fun _ => rfl) (fun r14 u H13 locs hw hP hD hS => ?_)
  try dsimp only at hw
  obtain rfl := hw
  have hP : va_P D vwCl (o_w cY aa sa bp j (o_rec c (m_up c.1 k (nm (c.1 k) (c.1 jj))) (c.2.1 + 1)) ++ o_w cY ab sb bq k9 (o_rec d (m_up d.1 (7 - k) (nm (d.1 (7 - k)) (d.1 (7 - jj)))) (d.2.1 + 1))) H13 := hP
  have hD : va_D A (o_w cY aa sa bp j (o_rec c (m_up c.1 k (nm (c.1 k) (c.1 jj))) (c.2.1 + 1)) ++ o_w cY ab sb bq k9 (o_rec d (m_up d.1 (7 - k) (nm (d.1 (7 - k)) (d.1 (7 - jj)))) (d.2.1 + 1))) := hD
  refine lv_iload hx hb dL_isStep_300 (lv_at hl 0 rfl) ?_
  refine lv_iconst (v := nI 1) hx hb dL_isStep_302 (by decide) ?_
  refine lv_iadd hx hb dL_isStep_303 ?_
  refine lv_topi (nm_r (nI_add _ _) ?_)
  refine lv_icmp_ne (tgt := 311) hx hb dL_isStep_304 (by decide) (fun h => absurd (show nI ((o_rec d (m_up d.1 (7 - k) (nm (d.1 (7 - k)) (d.1 (7 - jj)))) (d.2.1 + 1)).2.1) = nI (d.2.1 + 1) from rfl) h) (fun _ => ?_)
  refine lv_iconst (v := nI 1) hx hb dL_isStep_307 (by decide) ?_
  refine lv_goto (tgt := 312) hx hb dL_isStep_308 (by decide) ?_
  exact f_zret (by decide) (by decide) C0 (by decide) hS dL_isStep_312 (u := (j, o_rec c (m_up c.1 k (nm (c.1 k) (c.1 jj))) (c.2.1 + 1), k9, o_rec d (m_up d.1 (7 - k) (nm (d.1 (7 - k)) (d.1 (7 - jj)))) (d.2.1 + 1))) hP ⟨rfl, hj, hc3, hk9, hc10, o_R_rec hR (q_R_up hR.1 hk (by rw [hRk, hRj, q_s_m])) (congrArg (fun n => n + 1) hR.2.1)⟩
set_option maxHeartbeats 8000000 in
set_option maxRecDepth 100000 in
theorem s_case313 {p : Program} {l : Launch} {e : Env} {s : State} {m : MethodId} {below : List Frame} {meth : Method} {cq : Code} {x y : Int32} {D : va_G} {cY : Nat → ClassId} {A : Nat → Prop} {eS : Nat → Nat} {eO : Nat} {aa sa bp ab sb bq : Nat → Nat} (F : s_F p l e s m meth cq x y D cY A eS eO aa sa bp ab sb bq) {j : oJ} {c : oC} {k9 : oJ} {d : oC} (hj : o_J j) (hc : o_C c) (hk9 : o_J k9) (hd : o_C d) (hR : o_R c d) {z : Int32} {k jj : Nat} (hk : k < 8) (hjj : jj < 8) {H : Heap} {locs : List Loc} {ls : Array Slot} (hP : va_P D vwCl (o_w cY aa sa bp j c ++ o_w cY ab sb bq k9 d) H) (hD : va_D A (o_w cY aa sa bp j c ++ o_w cY ab sb bq k9 d)) (hS : va_S A s.heap H locs) (hl : lv_has ls 12 [(9, .int (nI (m_xr c.1 8))), (8, .int (nI (c.1 jj))), (7, .int (nI (c.1 k))), (6, .int (nI jj)), (5, .int (nI k)), (4, .int z), (0, .ref (aa 0)), (1, .ref (ab 0)), (2, .int x), (3, .int y)]) :
    W p l e { frames := 60, cells := 2, slots := 12, locals := 4000 } s m ([.ref (aa 0), .ref (ab 0), .int x, .int y] : List Value).toArray below meth cq H locs 0 0 (s_Q below s x y D cY A aa sa bp ab sb bq) (F0 m 313 ls []) := by
  obtain ⟨C0, hE, hB, hBp, hfl⟩ := id F
  obtain ⟨hx, hb, hr, hml, hts, hown, hlocks, hK, hA⟩ := id C0
  have hck := hc.1.2 k
  have hRk : d.1 (7 - k) = q_s (c.1 k) := hR.1 k hk
  have hRj : d.1 (7 - jj) = q_s (c.1 jj) := hR.1 jj hjj
  have hcj := hc.1.2 jj
  refine lv_aload_n hx hb dL_isStep_313 rfl (lv_at hl 6 rfl) ?_
  refine lv_iload hx hb dL_isStep_314 (lv_at hl 4 rfl) ?_
  refine lv_iload hx hb dL_isStep_316 (lv_at hl 3 rfl) ?_
  refine f_TL (As := [.ref (aa 0), .int (nI k), .int (nI jj)]) (rest := []) C0 hE hl hP hD hS (o_exchange l hfl D cY eS eO aa sa bp hB j c hj hc k jj (by first | assumption | omega | exact nm_lt _ _ | exact np_lt _ _ | exact q_s_lt _ | decide) (by first | assumption | omega | exact nm_lt _ _ | exact np_lt _ _ | exact q_s_lt _ | decide)) (vx_cwSW 3 hts gL_isStep_L_exchange rfl rfl rfl (by decide +kernel) ⟨Nat.le_of_ble_eq_true rfl, Nat.le_of_ble_eq_true rfl⟩) dL_isStep_318 rfl (Nat.le_of_ble_eq_true rfl) (Nat.le_of_ble_eq_true rfl) (Nat.le_of_ble_eq_true rfl) (fun _ => rfl) (fun r2 u H1 locs hw hP hD hS => ?_)
  try dsimp only at hw
  obtain rfl := hw
  have hc3 : o_C (o_rec c (m_up (m_up c.1 k (c.1 jj)) jj (c.1 k)) c.2.1) := o_C_rec hc (o_g_up (o_g_up hc.1 (by first | assumption | omega | exact nm_lt _ _ | exact np_lt _ _ | exact q_s_lt _ | decide) (hc.1.2 _)) (by first | assumption | omega | exact nm_lt _ _ | exact np_lt _ _ | exact q_s_lt _ | decide) (hc.1.2 _))
  have hP : va_P D vwCl (o_w cY aa sa bp j (o_rec c (m_up (m_up c.1 k (c.1 jj)) jj (c.1 k)) c.2.1) ++ o_w cY ab sb bq k9 d) H1 := hP
  have hD : va_D A (o_w cY aa sa bp j (o_rec c (m_up (m_up c.1 k (c.1 jj)) jj (c.1 k)) c.2.1) ++ o_w cY ab sb bq k9 d) := hD
  refine lv_iload hx hb dL_isStep_321 (lv_at hl 1 rfl) ?_
  refine lv_icmp_ne (tgt := 362) hx hb dL_isStep_323 (by decide) (fun h => absurd (show nI (c.1 jj) = nI (c.1 jj) from rfl) h) (fun _ => ?_)
  refine lv_aload_n hx hb dL_isStep_326 rfl (lv_at hl 7 rfl) ?_
  refine lv_bipush (v := nI 7) hx hb dL_isStep_327 (by decide) ?_
  refine lv_iload hx hb dL_isStep_329 (lv_at hl 4 rfl) ?_
  refine lv_isub hx hb dL_isStep_331 ?_
  refine lv_topi (nm_r (pk_sub (by omega)) ?_)
  refine lv_bipush (v := nI 7) hx hb dL_isStep_332 (by decide) ?_
  refine lv_iload hx hb dL_isStep_334 (lv_at hl 3 rfl) ?_
  refine lv_isub hx hb dL_isStep_336 ?_
  refine lv_topi (nm_r (pk_sub (by omega)) ?_)
  refine f_TR (As := [.ref (ab 0), .int (nI (7 - k)), .int (nI (7 - jj))]) (rest := []) C0 hE hl hP hD hS (o_exchange l hfl D cY eS eO ab sb bq hBp k9 d hk9 hd (7 - k) (7 - jj) (by first | assumption | omega | exact nm_lt _ _ | exact np_lt _ _ | exact q_s_lt _ | decide) (by first | assumption | omega | exact nm_lt _ _ | exact np_lt _ _ | exact q_s_lt _ | decide)) (vx_cwSW 3 hts gL_isStep_L_exchange rfl rfl rfl (by decide +kernel) ⟨Nat.le_of_ble_eq_true rfl, Nat.le_of_ble_eq_true rfl⟩) dL_isStep_337 rfl (Nat.le_of_ble_eq_true rfl) (Nat.le_of_ble_eq_true rfl) (Nat.le_of_ble_eq_true rfl) (fun _ => rfl) (fun r5 u H4 locs hw hP hD hS => ?_)
  try dsimp only at hw
  obtain rfl := hw
  have hc6 : o_C (o_rec d (m_up (m_up d.1 (7 - k) (d.1 (7 - jj))) (7 - jj) (d.1 (7 - k))) d.2.1) := o_C_rec hd (o_g_up (o_g_up hd.1 (by first | assumption | omega | exact nm_lt _ _ | exact np_lt _ _ | exact q_s_lt _ | decide) (hd.1.2 _)) (by first | assumption | omega | exact nm_lt _ _ | exact np_lt _ _ | exact q_s_lt _ | decide) (hd.1.2 _))
  have hP : va_P D vwCl (o_w cY aa sa bp j (o_rec c (m_up (m_up c.1 k (c.1 jj)) jj (c.1 k)) c.2.1) ++ o_w cY ab sb bq k9 (o_rec d (m_up (m_up d.1 (7 - k) (d.1 (7 - jj))) (7 - jj) (d.1 (7 - k))) d.2.1)) H4 := hP
  have hD : va_D A (o_w cY aa sa bp j (o_rec c (m_up (m_up c.1 k (c.1 jj)) jj (c.1 k)) c.2.1) ++ o_w cY ab sb bq k9 (o_rec d (m_up (m_up d.1 (7 - k) (d.1 (7 - jj))) (7 - jj) (d.1 (7 - k))) d.2.1)) := hD
  refine lv_aload_n hx hb dL_isStep_340 rfl (lv_at hl 6 rfl) ?_
  refine lv_iload hx hb dL_isStep_341 (lv_at hl 1 rfl) ?_
  refine f_SL (As := [.ref (aa 0), .int (nI (c.1 jj))]) (rest := [.int (nI (d.1 (7 - jj)))]) C0 hE hl hP hD hS (o_square l hfl D cY eS eO aa sa bp hB j (o_rec c (m_up (m_up c.1 k (c.1 jj)) jj (c.1 k)) c.2.1) hj hc3 (c.1 jj) (by first | assumption | omega | exact nm_lt _ _ | exact np_lt _ _ | exact q_s_lt _ | decide)) (va_cwS 2 hts gL_isStep_L_square rfl rfl rfl (by decide +kernel) ⟨Nat.le_of_ble_eq_true rfl, Nat.le_of_ble_eq_true rfl⟩) dL_isStep_343 rfl (Nat.le_of_ble_eq_true rfl) (Nat.le_of_ble_eq_true rfl) (Nat.le_of_ble_eq_true rfl) (fun _ => rfl) (fun r8 u H7 locs hw hP hD hS => ?_)
  try dsimp only at hw
  obtain rfl := hw
  have hP : va_P D vwCl (o_w cY aa sa bp j (o_rec c (m_up (m_up c.1 k (c.1 jj)) jj (c.1 k)) c.2.1) ++ o_w cY ab sb bq k9 (o_rec d (m_up (m_up d.1 (7 - k) (d.1 (7 - jj))) (7 - jj) (d.1 (7 - k))) d.2.1)) H7 := hP
  have hD : va_D A (o_w cY aa sa bp j (o_rec c (m_up (m_up c.1 k (c.1 jj)) jj (c.1 k)) c.2.1) ++ o_w cY ab sb bq k9 (o_rec d (m_up (m_up d.1 (7 - k) (d.1 (7 - jj))) (7 - jj) (d.1 (7 - k))) d.2.1)) := hD
  refine lv_icmp_ne (tgt := 362) hx hb dL_isStep_346 (by decide) (fun h => absurd (show nI (d.1 (7 - jj)) = nI (q_s (c.1 jj)) from congrArg nI hRj) h) (fun _ => ?_)
  refine lv_aload_n hx hb dL_isStep_349 rfl (lv_at hl 6 rfl) ?_
  refine f_VL (As := []) (rest := []) C0 hE hl hP hD hS (o_sumOfAll l hfl D cY eS eO aa sa bp hB j (o_rec c (m_up (m_up c.1 k (c.1 jj)) jj (c.1 k)) c.2.1) hj hc3  ) (cwV 0 hts gL_isStep_X6_sumOfAll rfl rfl rfl (by decide +kernel) ⟨Nat.le_of_ble_eq_true rfl, Nat.le_of_ble_eq_true rfl⟩) dL_isStep_350 0 rfl rfl rfl rfl (Nat.le_of_ble_eq_true rfl) (Nat.le_of_ble_eq_true rfl) (Nat.le_of_ble_eq_true rfl) (fun _ => rfl) (fun r10 u H9 locs hw hP hD hS => ?_)
  try dsimp only at hw
  obtain rfl := hw
  have hP : va_P D vwCl (o_w cY aa sa bp j (o_rec c (m_up (m_up c.1 k (c.1 jj)) jj (c.1 k)) c.2.1) ++ o_w cY ab sb bq k9 (o_rec d (m_up (m_up d.1 (7 - k) (d.1 (7 - jj))) (7 - jj) (d.1 (7 - k))) d.2.1)) H9 := hP
  have hD : va_D A (o_w cY aa sa bp j (o_rec c (m_up (m_up c.1 k (c.1 jj)) jj (c.1 k)) c.2.1) ++ o_w cY ab sb bq k9 (o_rec d (m_up (m_up d.1 (7 - k) (d.1 (7 - jj))) (7 - jj) (d.1 (7 - k))) d.2.1)) := hD
  refine lv_iload hx hb dL_isStep_353 (lv_at hl 0 rfl) ?_
  refine lv_icmp_ne (tgt := 362) hx hb dL_isStep_355 (by decide) (fun h => absurd (show nI (m_xr (o_rec c (m_up (m_up c.1 k (c.1 jj)) jj (c.1 k)) c.2.1).1 8) = nI (m_xr c.1 8) from congrArg nI (q_xr_ex hk hjj)) h) (fun _ => ?_)
  refine lv_iconst (v := nI 1) hx hb dL_isStep_358 (by decide) ?_
  refine lv_goto (tgt := 363) hx hb dL_isStep_359 (by decide) ?_
  exact f_zret (by decide) (by decide) C0 (by decide) hS dL_isStep_363 (u := (j, o_rec c (m_up (m_up c.1 k (c.1 jj)) jj (c.1 k)) c.2.1, k9, o_rec d (m_up (m_up d.1 (7 - k) (d.1 (7 - jj))) (7 - jj) (d.1 (7 - k))) d.2.1)) hP ⟨rfl, hj, hc3, hk9, hc6, o_R_rec hR (q_R_up (q_R_up hR.1 hk hRj) hjj hRk) hR.2.1⟩
set_option maxHeartbeats 8000000 in
set_option maxRecDepth 100000 in
theorem s_case364 {p : Program} {l : Launch} {e : Env} {s : State} {m : MethodId} {below : List Frame} {meth : Method} {cq : Code} {x y : Int32} {D : va_G} {cY : Nat → ClassId} {A : Nat → Prop} {eS : Nat → Nat} {eO : Nat} {aa sa bp ab sb bq : Nat → Nat} (F : s_F p l e s m meth cq x y D cY A eS eO aa sa bp ab sb bq) {j : oJ} {c : oC} {k9 : oJ} {d : oC} (hj : o_J j) (hc : o_C c) (hk9 : o_J k9) (hd : o_C d) (hR : o_R c d) {z : Int32} {k jj : Nat} (hk : k < 8) (hjj : jj < 8) {H : Heap} {locs : List Loc} {ls : Array Slot} (hP : va_P D vwCl (o_w cY aa sa bp j c ++ o_w cY ab sb bq k9 d) H) (hD : va_D A (o_w cY aa sa bp j c ++ o_w cY ab sb bq k9 d)) (hS : va_S A s.heap H locs) (hl : lv_has ls 12 [(9, .int (nI (m_xr c.1 8))), (8, .int (nI (c.1 jj))), (7, .int (nI (c.1 k))), (6, .int (nI jj)), (5, .int (nI k)), (4, .int z), (0, .ref (aa 0)), (1, .ref (ab 0)), (2, .int x), (3, .int y)]) :
    W p l e { frames := 60, cells := 2, slots := 12, locals := 4000 } s m ([.ref (aa 0), .ref (ab 0), .int x, .int y] : List Value).toArray below meth cq H locs 0 0 (s_Q below s x y D cY A aa sa bp ab sb bq) (F0 m 364 ls []) := by
  obtain ⟨C0, hE, hB, hBp, hfl⟩ := id F
  obtain ⟨hx, hb, hr, hml, hts, hown, hlocks, hK, hA⟩ := id C0
  have hck := hc.1.2 k
  have hRk : d.1 (7 - k) = q_s (c.1 k) := hR.1 k hk
  have hwd0 := hts (.constant RL 130 (65535)) (by decide +kernel)
  refine lv_iload hx hb dL_isStep_364 (lv_at hl 5 rfl) ?_
  refine lv_iconst (v := nI 3) hx hb dL_isStep_366 (by decide) ?_
  refine lv_iushr hx hb dL_isStep_367 rfl ?_
  refine lv_ldc hx hb hown hwd0 dL_isStep_368 ?_
  refine lv_topi (nm_r (show ((65535 : Int32)) = nI 65535 from by decide) ?_)
  refine lv_iand hx hb dL_isStep_370 ?_
  obtain ⟨nb, hnb9, enb⟩ := l_andm ((z.toUInt32 >>> ((nI 3).toUInt32 &&& Int32.toUInt32 31)).toInt32) (m := 65535) (by decide)
  have hnb : nb < 65536 := by omega
  refine lv_topi (nm_r (enb) ?_)
  refine lv_istore (lv' := [(10, .int (nI nb)), (9, .int (nI (m_xr c.1 8))), (8, .int (nI (c.1 jj))), (7, .int (nI (c.1 k))), (6, .int (nI jj)), (5, .int (nI k)), (4, .int z), (0, .ref (aa 0)), (1, .ref (ab 0)), (2, .int x), (3, .int y)]) hx hb dL_isStep_371 hl (by decide) rfl (fun ls hl => ?_)
  refine lv_aload_n hx hb dL_isStep_373 rfl (lv_at hl 7 rfl) ?_
  refine lv_iload hx hb dL_isStep_374 (lv_at hl 5 rfl) ?_
  refine lv_bipush (v := nI 43) hx hb dL_isStep_376 (by decide) ?_
  refine lv_iload hx hb dL_isStep_378 (lv_at hl 0 rfl) ?_
  refine f_SL (As := [.ref (aa 0), .int (nI k), .int (nI 43), .int (nI nb)]) (rest := []) C0 hE hl hP hD hS (o_written l hfl D cY eS eO aa sa bp hB j c hj hc k 43 nb (c.1 k ^^^ nb) (by first | assumption | omega | exact nm_lt _ _ | exact np_lt _ _ | exact q_s_lt _ | decide) (Or.inl rfl) (by first | assumption | omega | exact nm_lt _ _ | exact np_lt _ _ | exact q_s_lt _ | decide) (rfl)) (va_cwS 4 hts gL_isStep_L_written rfl rfl rfl (by decide +kernel) ⟨Nat.le_of_ble_eq_true rfl, Nat.le_of_ble_eq_true rfl⟩) dL_isStep_380 rfl (Nat.le_of_ble_eq_true rfl) (Nat.le_of_ble_eq_true rfl) (Nat.le_of_ble_eq_true rfl) (fun _ => rfl) (fun r2 u H1 locs hw hP hD hS => ?_)
  obtain ⟨j2_3, rfl⟩ : ∃ z, z = u := ⟨_, rfl⟩
  try dsimp only at hw
  obtain ⟨rfl, hq4, hq5⟩ := hw
  have hj6 : o_J j2_3 := hq4
  have hc7 : o_C (o_rec c (m_up c.1 k (c.1 k ^^^ nb)) (if 43 = 42 then c.2.1 + 1 else c.2.1)) := hq5
  have hP : va_P D vwCl (o_w cY aa sa bp j2_3 (o_rec c (m_up c.1 k (c.1 k ^^^ nb)) (if 43 = 42 then c.2.1 + 1 else c.2.1)) ++ o_w cY ab sb bq k9 d) H1 := hP
  have hD : va_D A (o_w cY aa sa bp j2_3 (o_rec c (m_up c.1 k (c.1 k ^^^ nb)) (if 43 = 42 then c.2.1 + 1 else c.2.1)) ++ o_w cY ab sb bq k9 d) := hD
  refine lv_iload hx hb dL_isStep_383 (lv_at hl 3 rfl) ?_
  refine lv_iload hx hb dL_isStep_385 (lv_at hl 0 rfl) ?_
  refine lv_ixor hx hb dL_isStep_387 ?_
  refine lv_topi (nm_r (nx_xor _ _) ?_)
  refine lv_icmp_ne (tgt := 424) hx hb dL_isStep_388 (by decide) (fun h => absurd (show nI (c.1 k ^^^ nb) = nI ((c.1 k) ^^^ nb) from rfl) h) (fun _ => ?_)
  refine lv_aload_n hx hb dL_isStep_391 rfl (lv_at hl 8 rfl) ?_
  refine lv_bipush (v := nI 7) hx hb dL_isStep_392 (by decide) ?_
  refine lv_iload hx hb dL_isStep_394 (lv_at hl 5 rfl) ?_
  refine lv_isub hx hb dL_isStep_396 ?_
  refine lv_topi (nm_r (pk_sub (by omega)) ?_)
  refine lv_bipush (v := nI 43) hx hb dL_isStep_397 (by decide) ?_
  refine lv_aload_n hx hb dL_isStep_399 rfl (lv_at hl 7 rfl) ?_
  refine lv_iload hx hb dL_isStep_400 (lv_at hl 0 rfl) ?_
  refine f_SL (As := [.ref (aa 0), .int (nI nb)]) (rest := [.int (nI 43), .int (nI (7 - k)), .ref (ab 0)]) C0 hE hl hP hD hS (o_square l hfl D cY eS eO aa sa bp hB j2_3 (o_rec c (m_up c.1 k (c.1 k ^^^ nb)) (if 43 = 42 then c.2.1 + 1 else c.2.1)) hj6 hc7 nb (by first | assumption | omega | exact nm_lt _ _ | exact np_lt _ _ | exact q_s_lt _ | decide)) (va_cwS 2 hts gL_isStep_L_square rfl rfl rfl (by decide +kernel) ⟨Nat.le_of_ble_eq_true rfl, Nat.le_of_ble_eq_true rfl⟩) dL_isStep_402 rfl (Nat.le_of_ble_eq_true rfl) (Nat.le_of_ble_eq_true rfl) (Nat.le_of_ble_eq_true rfl) (fun _ => rfl) (fun r9 u H8 locs hw hP hD hS => ?_)
  try dsimp only at hw
  obtain rfl := hw
  have hP : va_P D vwCl (o_w cY aa sa bp j2_3 (o_rec c (m_up c.1 k (c.1 k ^^^ nb)) (if 43 = 42 then c.2.1 + 1 else c.2.1)) ++ o_w cY ab sb bq k9 d) H8 := hP
  have hD : va_D A (o_w cY aa sa bp j2_3 (o_rec c (m_up c.1 k (c.1 k ^^^ nb)) (if 43 = 42 then c.2.1 + 1 else c.2.1)) ++ o_w cY ab sb bq k9 d) := hD
  refine f_SR (As := [.ref (ab 0), .int (nI (7 - k)), .int (nI 43), .int (nI (q_s nb))]) (rest := []) C0 hE hl hP hD hS (o_written l hfl D cY eS eO ab sb bq hBp k9 d hk9 hd (7 - k) 43 (q_s nb) (d.1 (7 - k) ^^^ q_s nb) (by first | assumption | omega | exact nm_lt _ _ | exact np_lt _ _ | exact q_s_lt _ | decide) (Or.inl rfl) (by first | assumption | omega | exact nm_lt _ _ | exact np_lt _ _ | exact q_s_lt _ | decide) (rfl)) (va_cwS 4 hts gL_isStep_L_written rfl rfl rfl (by decide +kernel) ⟨Nat.le_of_ble_eq_true rfl, Nat.le_of_ble_eq_true rfl⟩) dL_isStep_405 rfl (Nat.le_of_ble_eq_true rfl) (Nat.le_of_ble_eq_true rfl) (Nat.le_of_ble_eq_true rfl) (fun _ => rfl) (fun r11 u H10 locs hw hP hD hS => ?_)
  obtain ⟨j2_12, rfl⟩ : ∃ z, z = u := ⟨_, rfl⟩
  try dsimp only at hw
  obtain ⟨rfl, hq13, hq14⟩ := hw
  have hj15 : o_J j2_12 := hq13
  have hc16 : o_C (o_rec d (m_up d.1 (7 - k) (d.1 (7 - k) ^^^ q_s nb)) (if 43 = 42 then d.2.1 + 1 else d.2.1)) := hq14
  have hP : va_P D vwCl (o_w cY aa sa bp j2_3 (o_rec c (m_up c.1 k (c.1 k ^^^ nb)) (if 43 = 42 then c.2.1 + 1 else c.2.1)) ++ o_w cY ab sb bq j2_12 (o_rec d (m_up d.1 (7 - k) (d.1 (7 - k) ^^^ q_s nb)) (if 43 = 42 then d.2.1 + 1 else d.2.1))) H10 := hP
  have hD : va_D A (o_w cY aa sa bp j2_3 (o_rec c (m_up c.1 k (c.1 k ^^^ nb)) (if 43 = 42 then c.2.1 + 1 else c.2.1)) ++ o_w cY ab sb bq j2_12 (o_rec d (m_up d.1 (7 - k) (d.1 (7 - k) ^^^ q_s nb)) (if 43 = 42 then d.2.1 + 1 else d.2.1))) := hD
  refine lv_aload_n hx hb dL_isStep_408 rfl (lv_at hl 7 rfl) ?_
  refine lv_iload hx hb dL_isStep_409 (lv_at hl 3 rfl) ?_
  refine lv_iload hx hb dL_isStep_411 (lv_at hl 0 rfl) ?_
  refine lv_ixor hx hb dL_isStep_413 ?_
  refine lv_topi (nm_r (nx_xor _ _) ?_)
  refine f_SL (As := [.ref (aa 0), .int (nI ((c.1 k) ^^^ nb))]) (rest := [.int (nI (d.1 (7 - k) ^^^ q_s nb))]) C0 hE hl hP hD hS (o_square l hfl D cY eS eO aa sa bp hB j2_3 (o_rec c (m_up c.1 k (c.1 k ^^^ nb)) (if 43 = 42 then c.2.1 + 1 else c.2.1)) hj6 hc7 ((c.1 k) ^^^ nb) (n_x16 hck hnb)) (va_cwS 2 hts gL_isStep_L_square rfl rfl rfl (by decide +kernel) ⟨Nat.le_of_ble_eq_true rfl, Nat.le_of_ble_eq_true rfl⟩) dL_isStep_414 rfl (Nat.le_of_ble_eq_true rfl) (Nat.le_of_ble_eq_true rfl) (Nat.le_of_ble_eq_true rfl) (fun _ => rfl) (fun r18 u H17 locs hw hP hD hS => ?_)
  try dsimp only at hw
  obtain rfl := hw
  have hP : va_P D vwCl (o_w cY aa sa bp j2_3 (o_rec c (m_up c.1 k (c.1 k ^^^ nb)) (if 43 = 42 then c.2.1 + 1 else c.2.1)) ++ o_w cY ab sb bq j2_12 (o_rec d (m_up d.1 (7 - k) (d.1 (7 - k) ^^^ q_s nb)) (if 43 = 42 then d.2.1 + 1 else d.2.1))) H17 := hP
  have hD : va_D A (o_w cY aa sa bp j2_3 (o_rec c (m_up c.1 k (c.1 k ^^^ nb)) (if 43 = 42 then c.2.1 + 1 else c.2.1)) ++ o_w cY ab sb bq j2_12 (o_rec d (m_up d.1 (7 - k) (d.1 (7 - k) ^^^ q_s nb)) (if 43 = 42 then d.2.1 + 1 else d.2.1))) := hD
  refine lv_icmp_ne (tgt := 424) hx hb dL_isStep_417 (by decide) (fun h => absurd (show nI (d.1 (7 - k) ^^^ q_s nb) = nI (q_s ((c.1 k) ^^^ nb)) from congrArg nI (by rw [hRk, q_s_x])) h) (fun _ => ?_)
  refine lv_iconst (v := nI 1) hx hb dL_isStep_420 (by decide) ?_
  refine lv_goto (tgt := 425) hx hb dL_isStep_421 (by decide) ?_
  exact f_zret (by decide) (by decide) C0 (by decide) hS dL_isStep_425 (u := (j2_3, o_rec c (m_up c.1 k (c.1 k ^^^ nb)) (if 43 = 42 then c.2.1 + 1 else c.2.1), j2_12, o_rec d (m_up d.1 (7 - k) (d.1 (7 - k) ^^^ q_s nb)) (if 43 = 42 then d.2.1 + 1 else d.2.1))) hP ⟨rfl, hj6, hc7, hj15, hc16, o_R_rec hR (q_R_up hR.1 hk (by rw [hRk, q_s_x])) (congrArg (fun n => if 43 = 42 then n + 1 else n) hR.2.1)⟩
set_option maxHeartbeats 8000000 in
set_option maxRecDepth 100000 in
theorem s_case426 {p : Program} {l : Launch} {e : Env} {s : State} {m : MethodId} {below : List Frame} {meth : Method} {cq : Code} {x y : Int32} {D : va_G} {cY : Nat → ClassId} {A : Nat → Prop} {eS : Nat → Nat} {eO : Nat} {aa sa bp ab sb bq : Nat → Nat} (F : s_F p l e s m meth cq x y D cY A eS eO aa sa bp ab sb bq) {j : oJ} {c : oC} {k9 : oJ} {d : oC} (hj : o_J j) (hc : o_C c) (hk9 : o_J k9) (hd : o_C d) (hR : o_R c d) {z : Int32} {k jj : Nat} (hk : k < 8) (hjj : jj < 8) {H : Heap} {locs : List Loc} {ls : Array Slot} (hP : va_P D vwCl (o_w cY aa sa bp j c ++ o_w cY ab sb bq k9 d) H) (hD : va_D A (o_w cY aa sa bp j c ++ o_w cY ab sb bq k9 d)) (hS : va_S A s.heap H locs) (hl : lv_has ls 12 [(9, .int (nI (m_xr c.1 8))), (8, .int (nI (c.1 jj))), (7, .int (nI (c.1 k))), (6, .int (nI jj)), (5, .int (nI k)), (4, .int z), (0, .ref (aa 0)), (1, .ref (ab 0)), (2, .int x), (3, .int y)]) :
    W p l e { frames := 60, cells := 2, slots := 12, locals := 4000 } s m ([.ref (aa 0), .ref (ab 0), .int x, .int y] : List Value).toArray below meth cq H locs 0 0 (s_Q below s x y D cY A aa sa bp ab sb bq) (F0 m 426 ls []) := by
  obtain ⟨C0, hE, hB, hBp, hfl⟩ := id F
  obtain ⟨hx, hb, hr, hml, hts, hown, hlocks, hK, hA⟩ := id C0
  have hck := hc.1.2 k
  have hRk : d.1 (7 - k) = q_s (c.1 k) := hR.1 k hk
  have hwd0 := hts (.constant RL 130 (65535)) (by decide +kernel)
  refine lv_iload hx hb dL_isStep_426 (lv_at hl 5 rfl) ?_
  refine lv_iconst (v := nI 3) hx hb dL_isStep_428 (by decide) ?_
  refine lv_iushr hx hb dL_isStep_429 rfl ?_
  refine lv_ldc hx hb hown hwd0 dL_isStep_430 ?_
  refine lv_topi (nm_r (show ((65535 : Int32)) = nI 65535 from by decide) ?_)
  refine lv_iand hx hb dL_isStep_432 ?_
  obtain ⟨nb, hnb9, enb⟩ := l_andm ((z.toUInt32 >>> ((nI 3).toUInt32 &&& Int32.toUInt32 31)).toInt32) (m := 65535) (by decide)
  have hnb : nb < 65536 := by omega
  refine lv_topi (nm_r (enb) ?_)
  refine lv_istore (lv' := [(10, .int (nI nb)), (9, .int (nI (m_xr c.1 8))), (8, .int (nI (c.1 jj))), (7, .int (nI (c.1 k))), (6, .int (nI jj)), (5, .int (nI k)), (4, .int z), (0, .ref (aa 0)), (1, .ref (ab 0)), (2, .int x), (3, .int y)]) hx hb dL_isStep_433 hl (by decide) rfl (fun ls hl => ?_)
  refine lv_aload_n hx hb dL_isStep_435 rfl (lv_at hl 7 rfl) ?_
  refine lv_iload hx hb dL_isStep_436 (lv_at hl 5 rfl) ?_
  refine lv_bipush (v := nI 42) hx hb dL_isStep_438 (by decide) ?_
  refine lv_iload hx hb dL_isStep_440 (lv_at hl 0 rfl) ?_
  refine f_SL (As := [.ref (aa 0), .int (nI k), .int (nI 42), .int (nI nb)]) (rest := []) C0 hE hl hP hD hS (o_written l hfl D cY eS eO aa sa bp hB j c hj hc k 42 nb (nm (c.1 k) nb) (by first | assumption | omega | exact nm_lt _ _ | exact np_lt _ _ | exact q_s_lt _ | decide) (Or.inr (Or.inl rfl)) (by first | assumption | omega | exact nm_lt _ _ | exact np_lt _ _ | exact q_s_lt _ | decide) (rfl)) (va_cwS 4 hts gL_isStep_L_written rfl rfl rfl (by decide +kernel) ⟨Nat.le_of_ble_eq_true rfl, Nat.le_of_ble_eq_true rfl⟩) dL_isStep_442 rfl (Nat.le_of_ble_eq_true rfl) (Nat.le_of_ble_eq_true rfl) (Nat.le_of_ble_eq_true rfl) (fun _ => rfl) (fun r2 u H1 locs hw hP hD hS => ?_)
  obtain ⟨j2_3, rfl⟩ : ∃ z, z = u := ⟨_, rfl⟩
  try dsimp only at hw
  obtain ⟨rfl, hq4, hq5⟩ := hw
  have hj6 : o_J j2_3 := hq4
  have hc7 : o_C (o_rec c (m_up c.1 k (nm (c.1 k) nb)) (if 42 = 42 then c.2.1 + 1 else c.2.1)) := hq5
  have hP : va_P D vwCl (o_w cY aa sa bp j2_3 (o_rec c (m_up c.1 k (nm (c.1 k) nb)) (if 42 = 42 then c.2.1 + 1 else c.2.1)) ++ o_w cY ab sb bq k9 d) H1 := hP
  have hD : va_D A (o_w cY aa sa bp j2_3 (o_rec c (m_up c.1 k (nm (c.1 k) nb)) (if 42 = 42 then c.2.1 + 1 else c.2.1)) ++ o_w cY ab sb bq k9 d) := hD
  refine lv_istore (lv' := [(11, .int (nI (nm (c.1 k) nb))), (10, .int (nI nb)), (9, .int (nI (m_xr c.1 8))), (8, .int (nI (c.1 jj))), (7, .int (nI (c.1 k))), (6, .int (nI jj)), (5, .int (nI k)), (4, .int z), (0, .ref (aa 0)), (1, .ref (ab 0)), (2, .int x), (3, .int y)]) hx hb dL_isStep_445 hl (by decide) rfl (fun ls hl => ?_)
  refine lv_iload hx hb dL_isStep_447 (lv_at hl 0 rfl) ?_
  refine lv_aload_n hx hb dL_isStep_449 rfl (lv_at hl 8 rfl) ?_
  refine lv_iload hx hb dL_isStep_450 (lv_at hl 4 rfl) ?_
  refine lv_iload hx hb dL_isStep_452 (lv_at hl 1 rfl) ?_
  refine f_TL (As := [.ref (aa 0), .int (nI (c.1 k)), .int (nI nb)]) (rest := [.int (nI (nm (c.1 k) nb))]) C0 hE hl hP hD hS (o_halves l hfl D cY eS eO aa sa bp hB j2_3 (o_rec c (m_up c.1 k (nm (c.1 k) nb)) (if 42 = 42 then c.2.1 + 1 else c.2.1)) hj6 hc7 (c.1 k) nb (by first | assumption | omega | exact nm_lt _ _ | exact np_lt _ _ | exact q_s_lt _ | decide) (by first | assumption | omega | exact nm_lt _ _ | exact np_lt _ _ | exact q_s_lt _ | decide)) (vx_cwSW 3 hts gL_isStep_L_halves rfl rfl rfl (by decide +kernel) ⟨Nat.le_of_ble_eq_true rfl, Nat.le_of_ble_eq_true rfl⟩) dL_isStep_454 rfl (Nat.le_of_ble_eq_true rfl) (Nat.le_of_ble_eq_true rfl) (Nat.le_of_ble_eq_true rfl) (fun _ => rfl) (fun r9 u H8 locs hw hP hD hS => ?_)
  try dsimp only at hw
  obtain rfl := hw
  have hP : va_P D vwCl (o_w cY aa sa bp j2_3 (o_rec c (m_up c.1 k (nm (c.1 k) nb)) (if 42 = 42 then c.2.1 + 1 else c.2.1)) ++ o_w cY ab sb bq k9 d) H8 := hP
  have hD : va_D A (o_w cY aa sa bp j2_3 (o_rec c (m_up c.1 k (nm (c.1 k) nb)) (if 42 = 42 then c.2.1 + 1 else c.2.1)) ++ o_w cY ab sb bq k9 d) := hD
  refine lv_icmp_ne (tgt := 490) hx hb dL_isStep_457 (by decide) (fun h => absurd (show nI (nm (c.1 k) nb) = nI (nm (c.1 k) nb) from rfl) h) (fun _ => ?_)
  refine lv_aload_n hx hb dL_isStep_460 rfl (lv_at hl 9 rfl) ?_
  refine lv_bipush (v := nI 7) hx hb dL_isStep_461 (by decide) ?_
  refine lv_iload hx hb dL_isStep_463 (lv_at hl 6 rfl) ?_
  refine lv_isub hx hb dL_isStep_465 ?_
  refine lv_topi (nm_r (pk_sub (by omega)) ?_)
  refine lv_bipush (v := nI 42) hx hb dL_isStep_466 (by decide) ?_
  refine lv_aload_n hx hb dL_isStep_468 rfl (lv_at hl 8 rfl) ?_
  refine lv_iload hx hb dL_isStep_469 (lv_at hl 1 rfl) ?_
  refine f_SL (As := [.ref (aa 0), .int (nI nb)]) (rest := [.int (nI 42), .int (nI (7 - k)), .ref (ab 0)]) C0 hE hl hP hD hS (o_square l hfl D cY eS eO aa sa bp hB j2_3 (o_rec c (m_up c.1 k (nm (c.1 k) nb)) (if 42 = 42 then c.2.1 + 1 else c.2.1)) hj6 hc7 nb (by first | assumption | omega | exact nm_lt _ _ | exact np_lt _ _ | exact q_s_lt _ | decide)) (va_cwS 2 hts gL_isStep_L_square rfl rfl rfl (by decide +kernel) ⟨Nat.le_of_ble_eq_true rfl, Nat.le_of_ble_eq_true rfl⟩) dL_isStep_471 rfl (Nat.le_of_ble_eq_true rfl) (Nat.le_of_ble_eq_true rfl) (Nat.le_of_ble_eq_true rfl) (fun _ => rfl) (fun r11 u H10 locs hw hP hD hS => ?_)
  try dsimp only at hw
  obtain rfl := hw
  have hP : va_P D vwCl (o_w cY aa sa bp j2_3 (o_rec c (m_up c.1 k (nm (c.1 k) nb)) (if 42 = 42 then c.2.1 + 1 else c.2.1)) ++ o_w cY ab sb bq k9 d) H10 := hP
  have hD : va_D A (o_w cY aa sa bp j2_3 (o_rec c (m_up c.1 k (nm (c.1 k) nb)) (if 42 = 42 then c.2.1 + 1 else c.2.1)) ++ o_w cY ab sb bq k9 d) := hD
  refine f_SR (As := [.ref (ab 0), .int (nI (7 - k)), .int (nI 42), .int (nI (q_s nb))]) (rest := []) C0 hE hl hP hD hS (o_written l hfl D cY eS eO ab sb bq hBp k9 d hk9 hd (7 - k) 42 (q_s nb) (nm (d.1 (7 - k)) (q_s nb)) (by first | assumption | omega | exact nm_lt _ _ | exact np_lt _ _ | exact q_s_lt _ | decide) (Or.inr (Or.inl rfl)) (by first | assumption | omega | exact nm_lt _ _ | exact np_lt _ _ | exact q_s_lt _ | decide) (rfl)) (va_cwS 4 hts gL_isStep_L_written rfl rfl rfl (by decide +kernel) ⟨Nat.le_of_ble_eq_true rfl, Nat.le_of_ble_eq_true rfl⟩) dL_isStep_474 rfl (Nat.le_of_ble_eq_true rfl) (Nat.le_of_ble_eq_true rfl) (Nat.le_of_ble_eq_true rfl) (fun _ => rfl) (fun r13 u H12 locs hw hP hD hS => ?_)
  obtain ⟨j2_14, rfl⟩ : ∃ z, z = u := ⟨_, rfl⟩
  try dsimp only at hw
  obtain ⟨rfl, hq15, hq16⟩ := hw
  have hj17 : o_J j2_14 := hq15
  have hc18 : o_C (o_rec d (m_up d.1 (7 - k) (nm (d.1 (7 - k)) (q_s nb))) (if 42 = 42 then d.2.1 + 1 else d.2.1)) := hq16
  have hP : va_P D vwCl (o_w cY aa sa bp j2_3 (o_rec c (m_up c.1 k (nm (c.1 k) nb)) (if 42 = 42 then c.2.1 + 1 else c.2.1)) ++ o_w cY ab sb bq j2_14 (o_rec d (m_up d.1 (7 - k) (nm (d.1 (7 - k)) (q_s nb))) (if 42 = 42 then d.2.1 + 1 else d.2.1))) H12 := hP
  have hD : va_D A (o_w cY aa sa bp j2_3 (o_rec c (m_up c.1 k (nm (c.1 k) nb)) (if 42 = 42 then c.2.1 + 1 else c.2.1)) ++ o_w cY ab sb bq j2_14 (o_rec d (m_up d.1 (7 - k) (nm (d.1 (7 - k)) (q_s nb))) (if 42 = 42 then d.2.1 + 1 else d.2.1))) := hD
  refine lv_aload_n hx hb dL_isStep_477 rfl (lv_at hl 8 rfl) ?_
  refine lv_iload hx hb dL_isStep_478 (lv_at hl 0 rfl) ?_
  refine f_SL (As := [.ref (aa 0), .int (nI (nm (c.1 k) nb))]) (rest := [.int (nI (nm (d.1 (7 - k)) (q_s nb)))]) C0 hE hl hP hD hS (o_square l hfl D cY eS eO aa sa bp hB j2_3 (o_rec c (m_up c.1 k (nm (c.1 k) nb)) (if 42 = 42 then c.2.1 + 1 else c.2.1)) hj6 hc7 (nm (c.1 k) nb) (by first | assumption | omega | exact nm_lt _ _ | exact np_lt _ _ | exact q_s_lt _ | decide)) (va_cwS 2 hts gL_isStep_L_square rfl rfl rfl (by decide +kernel) ⟨Nat.le_of_ble_eq_true rfl, Nat.le_of_ble_eq_true rfl⟩) dL_isStep_480 rfl (Nat.le_of_ble_eq_true rfl) (Nat.le_of_ble_eq_true rfl) (Nat.le_of_ble_eq_true rfl) (fun _ => rfl) (fun r20 u H19 locs hw hP hD hS => ?_)
  try dsimp only at hw
  obtain rfl := hw
  have hP : va_P D vwCl (o_w cY aa sa bp j2_3 (o_rec c (m_up c.1 k (nm (c.1 k) nb)) (if 42 = 42 then c.2.1 + 1 else c.2.1)) ++ o_w cY ab sb bq j2_14 (o_rec d (m_up d.1 (7 - k) (nm (d.1 (7 - k)) (q_s nb))) (if 42 = 42 then d.2.1 + 1 else d.2.1))) H19 := hP
  have hD : va_D A (o_w cY aa sa bp j2_3 (o_rec c (m_up c.1 k (nm (c.1 k) nb)) (if 42 = 42 then c.2.1 + 1 else c.2.1)) ++ o_w cY ab sb bq j2_14 (o_rec d (m_up d.1 (7 - k) (nm (d.1 (7 - k)) (q_s nb))) (if 42 = 42 then d.2.1 + 1 else d.2.1))) := hD
  refine lv_icmp_ne (tgt := 490) hx hb dL_isStep_483 (by decide) (fun h => absurd (show nI (nm (d.1 (7 - k)) (q_s nb)) = nI (q_s (nm (c.1 k) nb)) from congrArg nI (by rw [hRk, q_s_m])) h) (fun _ => ?_)
  refine lv_iconst (v := nI 1) hx hb dL_isStep_486 (by decide) ?_
  refine lv_goto (tgt := 491) hx hb dL_isStep_487 (by decide) ?_
  exact f_zret (by decide) (by decide) C0 (by decide) hS dL_isStep_491 (u := (j2_3, o_rec c (m_up c.1 k (nm (c.1 k) nb)) (if 42 = 42 then c.2.1 + 1 else c.2.1), j2_14, o_rec d (m_up d.1 (7 - k) (nm (d.1 (7 - k)) (q_s nb))) (if 42 = 42 then d.2.1 + 1 else d.2.1))) hP ⟨rfl, hj6, hc7, hj17, hc18, o_R_rec hR (q_R_up hR.1 hk (by rw [hRk, q_s_m])) (congrArg (fun n => if 42 = 42 then n + 1 else n) hR.2.1)⟩
set_option maxHeartbeats 8000000 in
set_option maxRecDepth 100000 in
theorem s_case492 {p : Program} {l : Launch} {e : Env} {s : State} {m : MethodId} {below : List Frame} {meth : Method} {cq : Code} {x y : Int32} {D : va_G} {cY : Nat → ClassId} {A : Nat → Prop} {eS : Nat → Nat} {eO : Nat} {aa sa bp ab sb bq : Nat → Nat} (F : s_F p l e s m meth cq x y D cY A eS eO aa sa bp ab sb bq) {j : oJ} {c : oC} {k9 : oJ} {d : oC} (hj : o_J j) (hc : o_C c) (hk9 : o_J k9) (hd : o_C d) (hR : o_R c d) {z : Int32} {k jj : Nat} (hk : k < 8) (hjj : jj < 8) {H : Heap} {locs : List Loc} {ls : Array Slot} (hP : va_P D vwCl (o_w cY aa sa bp j c ++ o_w cY ab sb bq k9 d) H) (hD : va_D A (o_w cY aa sa bp j c ++ o_w cY ab sb bq k9 d)) (hS : va_S A s.heap H locs) (hl : lv_has ls 12 [(9, .int (nI (m_xr c.1 8))), (8, .int (nI (c.1 jj))), (7, .int (nI (c.1 k))), (6, .int (nI jj)), (5, .int (nI k)), (4, .int z), (0, .ref (aa 0)), (1, .ref (ab 0)), (2, .int x), (3, .int y)]) :
    W p l e { frames := 60, cells := 2, slots := 12, locals := 4000 } s m ([.ref (aa 0), .ref (ab 0), .int x, .int y] : List Value).toArray below meth cq H locs 0 0 (s_Q below s x y D cY A aa sa bp ab sb bq) (F0 m 492 ls []) := by
  obtain ⟨C0, hE, hB, hBp, hfl⟩ := id F
  obtain ⟨hx, hb, hr, hml, hts, hown, hlocks, hK, hA⟩ := id C0
  have hck := hc.1.2 k
  have hRk : d.1 (7 - k) = q_s (c.1 k) := hR.1 k hk
  have hwd0 := hts (.constant RL 130 (65535)) (by decide +kernel)
  refine lv_iload hx hb dL_isStep_492 (lv_at hl 5 rfl) ?_
  refine lv_iconst (v := nI 3) hx hb dL_isStep_494 (by decide) ?_
  refine lv_iushr hx hb dL_isStep_495 rfl ?_
  refine lv_ldc hx hb hown hwd0 dL_isStep_496 ?_
  refine lv_topi (nm_r (show ((65535 : Int32)) = nI 65535 from by decide) ?_)
  refine lv_iand hx hb dL_isStep_498 ?_
  obtain ⟨nb, hnb9, enb⟩ := l_andm ((z.toUInt32 >>> ((nI 3).toUInt32 &&& Int32.toUInt32 31)).toInt32) (m := 65535) (by decide)
  have hnb : nb < 65536 := by omega
  refine lv_topi (nm_r (enb) ?_)
  refine lv_istore (lv' := [(10, .int (nI nb)), (9, .int (nI (m_xr c.1 8))), (8, .int (nI (c.1 jj))), (7, .int (nI (c.1 k))), (6, .int (nI jj)), (5, .int (nI k)), (4, .int z), (0, .ref (aa 0)), (1, .ref (ab 0)), (2, .int x), (3, .int y)]) hx hb dL_isStep_499 hl (by decide) rfl (fun ls hl => ?_)
  refine lv_aload_n hx hb dL_isStep_501 rfl (lv_at hl 7 rfl) ?_
  refine lv_iload hx hb dL_isStep_502 (lv_at hl 5 rfl) ?_
  refine lv_bipush (v := nI 94) hx hb dL_isStep_504 (by decide) ?_
  refine lv_iload hx hb dL_isStep_506 (lv_at hl 0 rfl) ?_
  refine f_SL (As := [.ref (aa 0), .int (nI k), .int (nI 94), .int (nI nb)]) (rest := []) C0 hE hl hP hD hS (o_written l hfl D cY eS eO aa sa bp hB j c hj hc k 94 nb (np (c.1 k) nb) (by first | assumption | omega | exact nm_lt _ _ | exact np_lt _ _ | exact q_s_lt _ | decide) (Or.inr (Or.inr (Or.inr rfl))) (by first | assumption | omega | exact nm_lt _ _ | exact np_lt _ _ | exact q_s_lt _ | decide) (rfl)) (va_cwS 4 hts gL_isStep_L_written rfl rfl rfl (by decide +kernel) ⟨Nat.le_of_ble_eq_true rfl, Nat.le_of_ble_eq_true rfl⟩) dL_isStep_508 rfl (Nat.le_of_ble_eq_true rfl) (Nat.le_of_ble_eq_true rfl) (Nat.le_of_ble_eq_true rfl) (fun _ => rfl) (fun r2 u H1 locs hw hP hD hS => ?_)
  obtain ⟨j2_3, rfl⟩ : ∃ z, z = u := ⟨_, rfl⟩
  try dsimp only at hw
  obtain ⟨rfl, hq4, hq5⟩ := hw
  have hj6 : o_J j2_3 := hq4
  have hc7 : o_C (o_rec c (m_up c.1 k (np (c.1 k) nb)) (if 94 = 42 then c.2.1 + 1 else c.2.1)) := hq5
  have hP : va_P D vwCl (o_w cY aa sa bp j2_3 (o_rec c (m_up c.1 k (np (c.1 k) nb)) (if 94 = 42 then c.2.1 + 1 else c.2.1)) ++ o_w cY ab sb bq k9 d) H1 := hP
  have hD : va_D A (o_w cY aa sa bp j2_3 (o_rec c (m_up c.1 k (np (c.1 k) nb)) (if 94 = 42 then c.2.1 + 1 else c.2.1)) ++ o_w cY ab sb bq k9 d) := hD
  refine lv_istore (lv' := [(11, .int (nI (np (c.1 k) nb))), (10, .int (nI nb)), (9, .int (nI (m_xr c.1 8))), (8, .int (nI (c.1 jj))), (7, .int (nI (c.1 k))), (6, .int (nI jj)), (5, .int (nI k)), (4, .int z), (0, .ref (aa 0)), (1, .ref (ab 0)), (2, .int x), (3, .int y)]) hx hb dL_isStep_511 hl (by decide) rfl (fun ls hl => ?_)
  refine lv_iload hx hb dL_isStep_513 (lv_at hl 0 rfl) ?_
  refine lv_aload_n hx hb dL_isStep_515 rfl (lv_at hl 8 rfl) ?_
  refine lv_iload hx hb dL_isStep_516 (lv_at hl 4 rfl) ?_
  refine lv_iload hx hb dL_isStep_518 (lv_at hl 1 rfl) ?_
  refine f_TL (As := [.ref (aa 0), .int (nI (c.1 k)), .int (nI nb)]) (rest := [.int (nI (np (c.1 k) nb))]) C0 hE hl hP hD hS (o_power l hfl D cY eS eO aa sa bp hB j2_3 (o_rec c (m_up c.1 k (np (c.1 k) nb)) (if 94 = 42 then c.2.1 + 1 else c.2.1)) hj6 hc7 (c.1 k) nb (by first | assumption | omega | exact nm_lt _ _ | exact np_lt _ _ | exact q_s_lt _ | decide) (by first | assumption | omega | exact nm_lt _ _ | exact np_lt _ _ | exact q_s_lt _ | decide)) (vx_cwSW 3 hts gL_isStep_L_power rfl rfl rfl (by decide +kernel) ⟨Nat.le_of_ble_eq_true rfl, Nat.le_of_ble_eq_true rfl⟩) dL_isStep_520 rfl (Nat.le_of_ble_eq_true rfl) (Nat.le_of_ble_eq_true rfl) (Nat.le_of_ble_eq_true rfl) (fun _ => rfl) (fun r9 u H8 locs hw hP hD hS => ?_)
  try dsimp only at hw
  obtain rfl := hw
  have hP : va_P D vwCl (o_w cY aa sa bp j2_3 (o_rec c (m_up c.1 k (np (c.1 k) nb)) (if 94 = 42 then c.2.1 + 1 else c.2.1)) ++ o_w cY ab sb bq k9 d) H8 := hP
  have hD : va_D A (o_w cY aa sa bp j2_3 (o_rec c (m_up c.1 k (np (c.1 k) nb)) (if 94 = 42 then c.2.1 + 1 else c.2.1)) ++ o_w cY ab sb bq k9 d) := hD
  refine lv_icmp_ne (tgt := 552) hx hb dL_isStep_523 (by decide) (fun h => absurd (show nI (np (c.1 k) nb) = nI (np (c.1 k) nb) from rfl) h) (fun _ => ?_)
  refine lv_aload_n hx hb dL_isStep_526 rfl (lv_at hl 9 rfl) ?_
  refine lv_bipush (v := nI 7) hx hb dL_isStep_527 (by decide) ?_
  refine lv_iload hx hb dL_isStep_529 (lv_at hl 6 rfl) ?_
  refine lv_isub hx hb dL_isStep_531 ?_
  refine lv_topi (nm_r (pk_sub (by omega)) ?_)
  refine lv_bipush (v := nI 94) hx hb dL_isStep_532 (by decide) ?_
  refine lv_iload hx hb dL_isStep_534 (lv_at hl 1 rfl) ?_
  refine f_SR (As := [.ref (ab 0), .int (nI (7 - k)), .int (nI 94), .int (nI nb)]) (rest := []) C0 hE hl hP hD hS (o_written l hfl D cY eS eO ab sb bq hBp k9 d hk9 hd (7 - k) 94 nb (np (d.1 (7 - k)) nb) (by first | assumption | omega | exact nm_lt _ _ | exact np_lt _ _ | exact q_s_lt _ | decide) (Or.inr (Or.inr (Or.inr rfl))) (by first | assumption | omega | exact nm_lt _ _ | exact np_lt _ _ | exact q_s_lt _ | decide) (rfl)) (va_cwS 4 hts gL_isStep_L_written rfl rfl rfl (by decide +kernel) ⟨Nat.le_of_ble_eq_true rfl, Nat.le_of_ble_eq_true rfl⟩) dL_isStep_536 rfl (Nat.le_of_ble_eq_true rfl) (Nat.le_of_ble_eq_true rfl) (Nat.le_of_ble_eq_true rfl) (fun _ => rfl) (fun r11 u H10 locs hw hP hD hS => ?_)
  obtain ⟨j2_12, rfl⟩ : ∃ z, z = u := ⟨_, rfl⟩
  try dsimp only at hw
  obtain ⟨rfl, hq13, hq14⟩ := hw
  have hj15 : o_J j2_12 := hq13
  have hc16 : o_C (o_rec d (m_up d.1 (7 - k) (np (d.1 (7 - k)) nb)) (if 94 = 42 then d.2.1 + 1 else d.2.1)) := hq14
  have hP : va_P D vwCl (o_w cY aa sa bp j2_3 (o_rec c (m_up c.1 k (np (c.1 k) nb)) (if 94 = 42 then c.2.1 + 1 else c.2.1)) ++ o_w cY ab sb bq j2_12 (o_rec d (m_up d.1 (7 - k) (np (d.1 (7 - k)) nb)) (if 94 = 42 then d.2.1 + 1 else d.2.1))) H10 := hP
  have hD : va_D A (o_w cY aa sa bp j2_3 (o_rec c (m_up c.1 k (np (c.1 k) nb)) (if 94 = 42 then c.2.1 + 1 else c.2.1)) ++ o_w cY ab sb bq j2_12 (o_rec d (m_up d.1 (7 - k) (np (d.1 (7 - k)) nb)) (if 94 = 42 then d.2.1 + 1 else d.2.1))) := hD
  refine lv_aload_n hx hb dL_isStep_539 rfl (lv_at hl 8 rfl) ?_
  refine lv_iload hx hb dL_isStep_540 (lv_at hl 0 rfl) ?_
  refine f_SL (As := [.ref (aa 0), .int (nI (np (c.1 k) nb))]) (rest := [.int (nI (np (d.1 (7 - k)) nb))]) C0 hE hl hP hD hS (o_square l hfl D cY eS eO aa sa bp hB j2_3 (o_rec c (m_up c.1 k (np (c.1 k) nb)) (if 94 = 42 then c.2.1 + 1 else c.2.1)) hj6 hc7 (np (c.1 k) nb) (by first | assumption | omega | exact nm_lt _ _ | exact np_lt _ _ | exact q_s_lt _ | decide)) (va_cwS 2 hts gL_isStep_L_square rfl rfl rfl (by decide +kernel) ⟨Nat.le_of_ble_eq_true rfl, Nat.le_of_ble_eq_true rfl⟩) dL_isStep_542 rfl (Nat.le_of_ble_eq_true rfl) (Nat.le_of_ble_eq_true rfl) (Nat.le_of_ble_eq_true rfl) (fun _ => rfl) (fun r18 u H17 locs hw hP hD hS => ?_)
  try dsimp only at hw
  obtain rfl := hw
  have hP : va_P D vwCl (o_w cY aa sa bp j2_3 (o_rec c (m_up c.1 k (np (c.1 k) nb)) (if 94 = 42 then c.2.1 + 1 else c.2.1)) ++ o_w cY ab sb bq j2_12 (o_rec d (m_up d.1 (7 - k) (np (d.1 (7 - k)) nb)) (if 94 = 42 then d.2.1 + 1 else d.2.1))) H17 := hP
  have hD : va_D A (o_w cY aa sa bp j2_3 (o_rec c (m_up c.1 k (np (c.1 k) nb)) (if 94 = 42 then c.2.1 + 1 else c.2.1)) ++ o_w cY ab sb bq j2_12 (o_rec d (m_up d.1 (7 - k) (np (d.1 (7 - k)) nb)) (if 94 = 42 then d.2.1 + 1 else d.2.1))) := hD
  refine lv_icmp_ne (tgt := 552) hx hb dL_isStep_545 (by decide) (fun h => absurd (show nI (np (d.1 (7 - k)) nb) = nI (q_s (np (c.1 k) nb)) from congrArg nI (by rw [hRk, q_s_p])) h) (fun _ => ?_)
  refine lv_iconst (v := nI 1) hx hb dL_isStep_548 (by decide) ?_
  refine lv_goto (tgt := 553) hx hb dL_isStep_549 (by decide) ?_
  exact f_zret (by decide) (by decide) C0 (by decide) hS dL_isStep_553 (u := (j2_3, o_rec c (m_up c.1 k (np (c.1 k) nb)) (if 94 = 42 then c.2.1 + 1 else c.2.1), j2_12, o_rec d (m_up d.1 (7 - k) (np (d.1 (7 - k)) nb)) (if 94 = 42 then d.2.1 + 1 else d.2.1))) hP ⟨rfl, hj6, hc7, hj15, hc16, o_R_rec hR (q_R_up hR.1 hk (by rw [hRk, q_s_p])) (congrArg (fun n => if 94 = 42 then n + 1 else n) hR.2.1)⟩
set_option maxHeartbeats 8000000 in
set_option maxRecDepth 100000 in
theorem s_case554 {p : Program} {l : Launch} {e : Env} {s : State} {m : MethodId} {below : List Frame} {meth : Method} {cq : Code} {x y : Int32} {D : va_G} {cY : Nat → ClassId} {A : Nat → Prop} {eS : Nat → Nat} {eO : Nat} {aa sa bp ab sb bq : Nat → Nat} (F : s_F p l e s m meth cq x y D cY A eS eO aa sa bp ab sb bq) {j : oJ} {c : oC} {k9 : oJ} {d : oC} (hj : o_J j) (hc : o_C c) (hk9 : o_J k9) (hd : o_C d) (hR : o_R c d) {z : Int32} {k jj : Nat} (hk : k < 8) (hjj : jj < 8) {H : Heap} {locs : List Loc} {ls : Array Slot} (hP : va_P D vwCl (o_w cY aa sa bp j c ++ o_w cY ab sb bq k9 d) H) (hD : va_D A (o_w cY aa sa bp j c ++ o_w cY ab sb bq k9 d)) (hS : va_S A s.heap H locs) (hl : lv_has ls 12 [(9, .int (nI (m_xr c.1 8))), (8, .int (nI (c.1 jj))), (7, .int (nI (c.1 k))), (6, .int (nI jj)), (5, .int (nI k)), (4, .int z), (0, .ref (aa 0)), (1, .ref (ab 0)), (2, .int x), (3, .int y)]) :
    W p l e { frames := 60, cells := 2, slots := 12, locals := 4000 } s m ([.ref (aa 0), .ref (ab 0), .int x, .int y] : List Value).toArray below meth cq H locs 0 0 (s_Q below s x y D cY A aa sa bp ab sb bq) (F0 m 554 ls []) := by
  obtain ⟨C0, hE, hB, hBp, hfl⟩ := id F
  obtain ⟨hx, hb, hr, hml, hts, hown, hlocks, hK, hA⟩ := id C0
  have hck := hc.1.2 k
  have hRk : d.1 (7 - k) = q_s (c.1 k) := hR.1 k hk
  have hwd0 := hts (.constant RL 130 (65535)) (by decide +kernel)
  have hwd1 := hts (.constant RL 17 (900001)) (by decide +kernel)
  refine lv_iload hx hb dL_isStep_554 (lv_at hl 5 rfl) ?_
  refine lv_iconst (v := nI 5) hx hb dL_isStep_556 (by decide) ?_
  refine f_SL (wa := []) (As := [.int z, .int (nI 5)]) (rest := []) C0 hE hl hP hD hS (o_up l D cY eS eO z 5 (by first | assumption | omega | exact nm_lt _ _ | exact np_lt _ _ | exact q_s_lt _ | decide) (by first | assumption | omega | exact nm_lt _ _ | exact np_lt _ _ | exact q_s_lt _ | decide)) (va_cwS 2 hts gL_isStep_L_up rfl rfl rfl (by decide +kernel) ⟨Nat.le_of_ble_eq_true rfl, Nat.le_of_ble_eq_true rfl⟩) dL_isStep_557 rfl (Nat.le_of_ble_eq_true rfl) (Nat.le_of_ble_eq_true rfl) (Nat.le_of_ble_eq_true rfl) (fun _ => rfl) (fun r2 u H1 locs hw hP hD hS => ?_)
  obtain ⟨q5, rfl⟩ : ∃ z, z = u := ⟨_, rfl⟩
  try dsimp only at hw
  obtain ⟨rfl, hq5⟩ := hw
  have hP : va_P D vwCl (o_w cY aa sa bp j c ++ o_w cY ab sb bq k9 d) H1 := hP
  have hD : va_D A (o_w cY aa sa bp j c ++ o_w cY ab sb bq k9 d) := hD
  refine lv_if_ne (tgt := 567) hx hb dL_isStep_560 (by decide) (fun c560 => ?_) (fun c560 => ?_)
  · have c560 : ¬ (q5 = 0) := fun qq9 => c560 ((nI_eq (a := q5) (b := 0) (by first | omega | exact Nat.lt_of_le_of_lt Nat.and_le_right (by decide) | exact Nat.lt_trans (nm_lt _ _) (by decide) | exact Nat.lt_trans (np_lt _ _) (by decide) | exact Nat.lt_trans (p_at_lt htx) (by decide)) (by first | omega | exact Nat.lt_of_le_of_lt Nat.and_le_right (by decide) | exact Nat.lt_trans (nm_lt _ _) (by decide) | exact Nat.lt_trans (np_lt _ _) (by decide) | exact Nat.lt_trans (p_at_lt htx) (by decide))).mpr qq9)
    refine lv_iload hx hb dL_isStep_567 (lv_at hl 5 rfl) ?_
    refine lv_iconst (v := nI 3) hx hb dL_isStep_569 (by decide) ?_
    refine lv_iushr hx hb dL_isStep_570 rfl ?_
    refine lv_ldc hx hb hown hwd0 dL_isStep_571 ?_
    refine lv_topi (nm_r (show ((65535 : Int32)) = nI 65535 from by decide) ?_)
    refine lv_iand hx hb dL_isStep_573 ?_
    obtain ⟨nb, hnb9, enb⟩ := l_andm ((z.toUInt32 >>> ((nI 3).toUInt32 &&& Int32.toUInt32 31)).toInt32) (m := 65535) (by decide)
    have hnb : nb < 65536 := by omega
    refine lv_topi (nm_r (enb) ?_)
    refine lv_istore (lv' := [(10, .int (nI nb)), (9, .int (nI (m_xr c.1 8))), (8, .int (nI (c.1 jj))), (7, .int (nI (c.1 k))), (6, .int (nI jj)), (5, .int (nI k)), (4, .int z), (0, .ref (aa 0)), (1, .ref (ab 0)), (2, .int x), (3, .int y)]) hx hb dL_isStep_574 hl (by decide) rfl (fun ls hl => ?_)
    rcases Nat.eq_zero_or_pos nb with rfl | h0
    · skip
      refine lv_aload_n hx hb dL_isStep_576 rfl (lv_at hl 7 rfl) ?_
      refine lv_iload hx hb dL_isStep_577 (lv_at hl 5 rfl) ?_
      refine lv_bipush (v := nI 47) hx hb dL_isStep_579 (by decide) ?_
      refine lv_iload hx hb dL_isStep_581 (lv_at hl 0 rfl) ?_
      refine f_SL (As := [.ref (aa 0), .int (nI k), .int (nI 47), .int (nI 0)]) (rest := []) C0 hE hl hP hD hS (o_written_x l hfl D cY eS eO aa sa bp hB j c hj hc k 47 0 (by first | assumption | omega | exact nm_lt _ _ | exact np_lt _ _ | exact q_s_lt _ | decide) (Or.inr (Or.inr (Or.inl rfl))) (by first | assumption | omega | exact nm_lt _ _ | exact np_lt _ _ | exact q_s_lt _ | decide) (rfl)) (va_cwS 4 hts gL_isStep_L_written rfl rfl rfl (by decide +kernel) ⟨Nat.le_of_ble_eq_true rfl, Nat.le_of_ble_eq_true rfl⟩) dL_isStep_583 rfl (Nat.le_of_ble_eq_true rfl) (Nat.le_of_ble_eq_true rfl) (Nat.le_of_ble_eq_true rfl) (fun _ => rfl) (fun r6 u H5 locs hw hP hD hS => ?_)
      obtain ⟨j2_7, rfl⟩ : ∃ z, z = u := ⟨_, rfl⟩
      try dsimp only at hw
      obtain ⟨rfl, hq8⟩ := hw
      have hj9 : o_J j2_7 := hq8
      have hP : va_P D vwCl (o_w cY aa sa bp j2_7 c ++ o_w cY ab sb bq k9 d) H5 := hP
      have hD : va_D A (o_w cY aa sa bp j2_7 c ++ o_w cY ab sb bq k9 d) := hD
      refine lv_istore (lv' := [(11, .int (nI 900001)), (10, .int (nI 0)), (9, .int (nI (m_xr c.1 8))), (8, .int (nI (c.1 jj))), (7, .int (nI (c.1 k))), (6, .int (nI jj)), (5, .int (nI k)), (4, .int z), (0, .ref (aa 0)), (1, .ref (ab 0)), (2, .int x), (3, .int y)]) hx hb dL_isStep_586 hl (by decide) rfl (fun ls hl => ?_)
      refine lv_iload hx hb dL_isStep_588 (lv_at hl 1 rfl) ?_
      refine lv_if_ne (tgt := 625) hx hb dL_isStep_590 (by decide) (fun c590 => ?_) (fun c590 => ?_)
      · exact absurd c590 (by decide)
      · refine lv_iload hx hb dL_isStep_593 (lv_at hl 0 rfl) ?_
        refine lv_ldc hx hb hown hwd1 dL_isStep_595 ?_
        refine lv_topi (nm_r (show ((900001 : Int32)) = nI 900001 from by decide) ?_)
        refine lv_icmp_ne (tgt := 621) hx hb dL_isStep_597 (by decide) (fun c597 => ?_) (fun c597 => ?_)
        · exact absurd c597 (by decide)
        · refine lv_aload_n hx hb dL_isStep_600 rfl (lv_at hl 9 rfl) ?_
          refine lv_bipush (v := nI 7) hx hb dL_isStep_601 (by decide) ?_
          refine lv_iload hx hb dL_isStep_603 (lv_at hl 6 rfl) ?_
          refine lv_isub hx hb dL_isStep_605 ?_
          refine lv_topi (nm_r (pk_sub (by omega)) ?_)
          refine lv_bipush (v := nI 47) hx hb dL_isStep_606 (by decide) ?_
          refine lv_iconst (v := nI 0) hx hb dL_isStep_608 (by decide) ?_
          refine f_SR (As := [.ref (ab 0), .int (nI (7 - k)), .int (nI 47), .int (nI 0)]) (rest := []) C0 hE hl hP hD hS (o_written_x l hfl D cY eS eO ab sb bq hBp k9 d hk9 hd (7 - k) 47 0 (by first | assumption | omega | exact nm_lt _ _ | exact np_lt _ _ | exact q_s_lt _ | decide) (Or.inr (Or.inr (Or.inl rfl))) (by first | assumption | omega | exact nm_lt _ _ | exact np_lt _ _ | exact q_s_lt _ | decide) (rfl)) (va_cwS 4 hts gL_isStep_L_written rfl rfl rfl (by decide +kernel) ⟨Nat.le_of_ble_eq_true rfl, Nat.le_of_ble_eq_true rfl⟩) dL_isStep_609 rfl (Nat.le_of_ble_eq_true rfl) (Nat.le_of_ble_eq_true rfl) (Nat.le_of_ble_eq_true rfl) (fun _ => rfl) (fun r11 u H10 locs hw hP hD hS => ?_)
          obtain ⟨j2_12, rfl⟩ : ∃ z, z = u := ⟨_, rfl⟩
          try dsimp only at hw
          obtain ⟨rfl, hq13⟩ := hw
          have hj14 : o_J j2_12 := hq13
          have hP : va_P D vwCl (o_w cY aa sa bp j2_7 c ++ o_w cY ab sb bq j2_12 d) H10 := hP
          have hD : va_D A (o_w cY aa sa bp j2_7 c ++ o_w cY ab sb bq j2_12 d) := hD
          refine lv_ldc hx hb hown hwd1 dL_isStep_612 ?_
          refine lv_topi (nm_r (show ((900001 : Int32)) = nI 900001 from by decide) ?_)
          refine lv_icmp_ne (tgt := 621) hx hb dL_isStep_614 (by decide) (fun c614 => ?_) (fun c614 => ?_)
          · exact absurd c614 (by decide)
          · refine lv_iconst (v := nI 1) hx hb dL_isStep_617 (by decide) ?_
            refine lv_goto (tgt := 669) hx hb dL_isStep_618 (by decide) ?_
            exact f_zret (by decide) (by decide) C0 (by decide) hS dL_isStep_669 (u := (j2_7, c, j2_12, d)) hP ⟨rfl, hj9, hc, hj14, hd, hR⟩
    · skip
      refine lv_aload_n hx hb dL_isStep_576 rfl (lv_at hl 7 rfl) ?_
      refine lv_iload hx hb dL_isStep_577 (lv_at hl 5 rfl) ?_
      refine lv_bipush (v := nI 47) hx hb dL_isStep_579 (by decide) ?_
      refine lv_iload hx hb dL_isStep_581 (lv_at hl 0 rfl) ?_
      refine f_SL (As := [.ref (aa 0), .int (nI k), .int (nI 47), .int (nI nb)]) (rest := []) C0 hE hl hP hD hS (o_written l hfl D cY eS eO aa sa bp hB j c hj hc k 47 nb (nm (c.1 k) (np nb 65534)) (by first | assumption | omega | exact nm_lt _ _ | exact np_lt _ _ | exact q_s_lt _ | decide) (Or.inr (Or.inr (Or.inl rfl))) (by first | assumption | omega | exact nm_lt _ _ | exact np_lt _ _ | exact q_s_lt _ | decide) (show (if nb = 0 then (none : Option Nat) else some (nm (c.1 k) (np nb 65534))) = _ from if_neg (by omega))) (va_cwS 4 hts gL_isStep_L_written rfl rfl rfl (by decide +kernel) ⟨Nat.le_of_ble_eq_true rfl, Nat.le_of_ble_eq_true rfl⟩) dL_isStep_583 rfl (Nat.le_of_ble_eq_true rfl) (Nat.le_of_ble_eq_true rfl) (Nat.le_of_ble_eq_true rfl) (fun _ => rfl) (fun r16 u H15 locs hw hP hD hS => ?_)
      obtain ⟨j2_17, rfl⟩ : ∃ z, z = u := ⟨_, rfl⟩
      try dsimp only at hw
      obtain ⟨rfl, hq18, hq19⟩ := hw
      have hj20 : o_J j2_17 := hq18
      have hc21 : o_C (o_rec c (m_up c.1 k (nm (c.1 k) (np nb 65534))) (if 47 = 42 then c.2.1 + 1 else c.2.1)) := hq19
      have hP : va_P D vwCl (o_w cY aa sa bp j2_17 (o_rec c (m_up c.1 k (nm (c.1 k) (np nb 65534))) (if 47 = 42 then c.2.1 + 1 else c.2.1)) ++ o_w cY ab sb bq k9 d) H15 := hP
      have hD : va_D A (o_w cY aa sa bp j2_17 (o_rec c (m_up c.1 k (nm (c.1 k) (np nb 65534))) (if 47 = 42 then c.2.1 + 1 else c.2.1)) ++ o_w cY ab sb bq k9 d) := hD
      refine lv_istore (lv' := [(11, .int (nI (nm (c.1 k) (np nb 65534)))), (10, .int (nI nb)), (9, .int (nI (m_xr c.1 8))), (8, .int (nI (c.1 jj))), (7, .int (nI (c.1 k))), (6, .int (nI jj)), (5, .int (nI k)), (4, .int z), (0, .ref (aa 0)), (1, .ref (ab 0)), (2, .int x), (3, .int y)]) hx hb dL_isStep_586 hl (by decide) rfl (fun ls hl => ?_)
      refine lv_iload hx hb dL_isStep_588 (lv_at hl 1 rfl) ?_
      refine lv_if_ne (tgt := 625) hx hb dL_isStep_590 (by decide) (fun c590 => ?_) (fun c590 => ?_)
      · have c590 : ¬ (nb = 0) := fun qq9 => c590 ((nI_eq (a := nb) (b := 0) (by first | omega | exact Nat.lt_of_le_of_lt Nat.and_le_right (by decide) | exact Nat.lt_trans (nm_lt _ _) (by decide) | exact Nat.lt_trans (np_lt _ _) (by decide) | exact Nat.lt_trans (p_at_lt htx) (by decide)) (by first | omega | exact Nat.lt_of_le_of_lt Nat.and_le_right (by decide) | exact Nat.lt_trans (nm_lt _ _) (by decide) | exact Nat.lt_trans (np_lt _ _) (by decide) | exact Nat.lt_trans (p_at_lt htx) (by decide))).mpr qq9)
        refine lv_iload hx hb dL_isStep_625 (lv_at hl 0 rfl) ?_
        refine lv_aload_n hx hb dL_isStep_627 rfl (lv_at hl 8 rfl) ?_
        refine lv_iload hx hb dL_isStep_628 (lv_at hl 4 rfl) ?_
        refine lv_iload hx hb dL_isStep_630 (lv_at hl 1 rfl) ?_
        refine f_TL (As := [.ref (aa 0), .int (nI (c.1 k)), .int (nI nb)]) (rest := [.int (nI (nm (c.1 k) (np nb 65534)))]) C0 hE hl hP hD hS (o_quotient l hfl D cY eS eO aa sa bp hB j2_17 (o_rec c (m_up c.1 k (nm (c.1 k) (np nb 65534))) (if 47 = 42 then c.2.1 + 1 else c.2.1)) hj20 hc21 (c.1 k) nb (by first | assumption | omega | exact nm_lt _ _ | exact np_lt _ _ | exact q_s_lt _ | decide) (by first | assumption | omega | exact nm_lt _ _ | exact np_lt _ _ | exact q_s_lt _ | decide)) (vx_cwSW 3 hts gL_isStep_L_quotient rfl rfl rfl (by decide +kernel) ⟨Nat.le_of_ble_eq_true rfl, Nat.le_of_ble_eq_true rfl⟩) dL_isStep_632 rfl (Nat.le_of_ble_eq_true rfl) (Nat.le_of_ble_eq_true rfl) (Nat.le_of_ble_eq_true rfl) (fun _ => rfl) (fun r23 u H22 locs hw hP hD hS => ?_)
        try dsimp only at hw
        obtain rfl := hw
        have hP : va_P D vwCl (o_w cY aa sa bp j2_17 (o_rec c (m_up c.1 k (nm (c.1 k) (np nb 65534))) (if 47 = 42 then c.2.1 + 1 else c.2.1)) ++ o_w cY ab sb bq k9 d) H22 := hP
        have hD : va_D A (o_w cY aa sa bp j2_17 (o_rec c (m_up c.1 k (nm (c.1 k) (np nb 65534))) (if 47 = 42 then c.2.1 + 1 else c.2.1)) ++ o_w cY ab sb bq k9 d) := hD
        refine lv_icmp_ne (tgt := 668) hx hb dL_isStep_635 (by decide) (fun h => absurd (show nI (nm (c.1 k) (np nb 65534)) = n_div (c.1 k) nb from (show _ = n_div (c.1 k) nb from by rw [n_div, if_neg (by omega)])) h) (fun _ => ?_)
        refine lv_aload_n hx hb dL_isStep_638 rfl (lv_at hl 9 rfl) ?_
        refine lv_bipush (v := nI 7) hx hb dL_isStep_639 (by decide) ?_
        refine lv_iload hx hb dL_isStep_641 (lv_at hl 6 rfl) ?_
        refine lv_isub hx hb dL_isStep_643 ?_
        refine lv_topi (nm_r (pk_sub (by omega)) ?_)
        refine lv_bipush (v := nI 47) hx hb dL_isStep_644 (by decide) ?_
        refine lv_aload_n hx hb dL_isStep_646 rfl (lv_at hl 8 rfl) ?_
        refine lv_iload hx hb dL_isStep_647 (lv_at hl 1 rfl) ?_
        refine f_SL (As := [.ref (aa 0), .int (nI nb)]) (rest := [.int (nI 47), .int (nI (7 - k)), .ref (ab 0)]) C0 hE hl hP hD hS (o_square l hfl D cY eS eO aa sa bp hB j2_17 (o_rec c (m_up c.1 k (nm (c.1 k) (np nb 65534))) (if 47 = 42 then c.2.1 + 1 else c.2.1)) hj20 hc21 nb (by first | assumption | omega | exact nm_lt _ _ | exact np_lt _ _ | exact q_s_lt _ | decide)) (va_cwS 2 hts gL_isStep_L_square rfl rfl rfl (by decide +kernel) ⟨Nat.le_of_ble_eq_true rfl, Nat.le_of_ble_eq_true rfl⟩) dL_isStep_649 rfl (Nat.le_of_ble_eq_true rfl) (Nat.le_of_ble_eq_true rfl) (Nat.le_of_ble_eq_true rfl) (fun _ => rfl) (fun r25 u H24 locs hw hP hD hS => ?_)
        try dsimp only at hw
        obtain rfl := hw
        have hP : va_P D vwCl (o_w cY aa sa bp j2_17 (o_rec c (m_up c.1 k (nm (c.1 k) (np nb 65534))) (if 47 = 42 then c.2.1 + 1 else c.2.1)) ++ o_w cY ab sb bq k9 d) H24 := hP
        have hD : va_D A (o_w cY aa sa bp j2_17 (o_rec c (m_up c.1 k (nm (c.1 k) (np nb 65534))) (if 47 = 42 then c.2.1 + 1 else c.2.1)) ++ o_w cY ab sb bq k9 d) := hD
        refine f_SR (As := [.ref (ab 0), .int (nI (7 - k)), .int (nI 47), .int (nI (q_s nb))]) (rest := []) C0 hE hl hP hD hS (o_written l hfl D cY eS eO ab sb bq hBp k9 d hk9 hd (7 - k) 47 (q_s nb) (nm (d.1 (7 - k)) (np (q_s nb) 65534)) (by first | assumption | omega | exact nm_lt _ _ | exact np_lt _ _ | exact q_s_lt _ | decide) (Or.inr (Or.inr (Or.inl rfl))) (by first | assumption | omega | exact nm_lt _ _ | exact np_lt _ _ | exact q_s_lt _ | decide) (show (if q_s nb = 0 then (none : Option Nat) else some (nm (d.1 (7 - k)) (np (q_s nb) 65534))) = _ from if_neg (by rw [q_s_z hnb]; omega))) (va_cwS 4 hts gL_isStep_L_written rfl rfl rfl (by decide +kernel) ⟨Nat.le_of_ble_eq_true rfl, Nat.le_of_ble_eq_true rfl⟩) dL_isStep_652 rfl (Nat.le_of_ble_eq_true rfl) (Nat.le_of_ble_eq_true rfl) (Nat.le_of_ble_eq_true rfl) (fun _ => rfl) (fun r27 u H26 locs hw hP hD hS => ?_)
        obtain ⟨j2_28, rfl⟩ : ∃ z, z = u := ⟨_, rfl⟩
        try dsimp only at hw
        obtain ⟨rfl, hq29, hq30⟩ := hw
        have hj31 : o_J j2_28 := hq29
        have hc32 : o_C (o_rec d (m_up d.1 (7 - k) (nm (d.1 (7 - k)) (np (q_s nb) 65534))) (if 47 = 42 then d.2.1 + 1 else d.2.1)) := hq30
        have hP : va_P D vwCl (o_w cY aa sa bp j2_17 (o_rec c (m_up c.1 k (nm (c.1 k) (np nb 65534))) (if 47 = 42 then c.2.1 + 1 else c.2.1)) ++ o_w cY ab sb bq j2_28 (o_rec d (m_up d.1 (7 - k) (nm (d.1 (7 - k)) (np (q_s nb) 65534))) (if 47 = 42 then d.2.1 + 1 else d.2.1))) H26 := hP
        have hD : va_D A (o_w cY aa sa bp j2_17 (o_rec c (m_up c.1 k (nm (c.1 k) (np nb 65534))) (if 47 = 42 then c.2.1 + 1 else c.2.1)) ++ o_w cY ab sb bq j2_28 (o_rec d (m_up d.1 (7 - k) (nm (d.1 (7 - k)) (np (q_s nb) 65534))) (if 47 = 42 then d.2.1 + 1 else d.2.1))) := hD
        refine lv_aload_n hx hb dL_isStep_655 rfl (lv_at hl 8 rfl) ?_
        refine lv_iload hx hb dL_isStep_656 (lv_at hl 0 rfl) ?_
        refine f_SL (As := [.ref (aa 0), .int (nI (nm (c.1 k) (np nb 65534)))]) (rest := [.int (nI (nm (d.1 (7 - k)) (np (q_s nb) 65534)))]) C0 hE hl hP hD hS (o_square l hfl D cY eS eO aa sa bp hB j2_17 (o_rec c (m_up c.1 k (nm (c.1 k) (np nb 65534))) (if 47 = 42 then c.2.1 + 1 else c.2.1)) hj20 hc21 (nm (c.1 k) (np nb 65534)) (by first | assumption | omega | exact nm_lt _ _ | exact np_lt _ _ | exact q_s_lt _ | decide)) (va_cwS 2 hts gL_isStep_L_square rfl rfl rfl (by decide +kernel) ⟨Nat.le_of_ble_eq_true rfl, Nat.le_of_ble_eq_true rfl⟩) dL_isStep_658 rfl (Nat.le_of_ble_eq_true rfl) (Nat.le_of_ble_eq_true rfl) (Nat.le_of_ble_eq_true rfl) (fun _ => rfl) (fun r34 u H33 locs hw hP hD hS => ?_)
        try dsimp only at hw
        obtain rfl := hw
        have hP : va_P D vwCl (o_w cY aa sa bp j2_17 (o_rec c (m_up c.1 k (nm (c.1 k) (np nb 65534))) (if 47 = 42 then c.2.1 + 1 else c.2.1)) ++ o_w cY ab sb bq j2_28 (o_rec d (m_up d.1 (7 - k) (nm (d.1 (7 - k)) (np (q_s nb) 65534))) (if 47 = 42 then d.2.1 + 1 else d.2.1))) H33 := hP
        have hD : va_D A (o_w cY aa sa bp j2_17 (o_rec c (m_up c.1 k (nm (c.1 k) (np nb 65534))) (if 47 = 42 then c.2.1 + 1 else c.2.1)) ++ o_w cY ab sb bq j2_28 (o_rec d (m_up d.1 (7 - k) (nm (d.1 (7 - k)) (np (q_s nb) 65534))) (if 47 = 42 then d.2.1 + 1 else d.2.1))) := hD
        refine lv_icmp_ne (tgt := 668) hx hb dL_isStep_661 (by decide) (fun h => absurd (show nI (nm (d.1 (7 - k)) (np (q_s nb) 65534)) = nI (q_s (nm (c.1 k) (np nb 65534))) from congrArg nI (by rw [hRk, q_s_m, q_s_p])) h) (fun _ => ?_)
        refine lv_iconst (v := nI 1) hx hb dL_isStep_664 (by decide) ?_
        refine lv_goto (tgt := 669) hx hb dL_isStep_665 (by decide) ?_
        exact f_zret (by decide) (by decide) C0 (by decide) hS dL_isStep_669 (u := (j2_17, o_rec c (m_up c.1 k (nm (c.1 k) (np nb 65534))) (if 47 = 42 then c.2.1 + 1 else c.2.1), j2_28, o_rec d (m_up d.1 (7 - k) (nm (d.1 (7 - k)) (np (q_s nb) 65534))) (if 47 = 42 then d.2.1 + 1 else d.2.1))) hP ⟨rfl, hj20, hc21, hj31, hc32, o_R_rec hR (q_R_up hR.1 hk (by rw [hRk, q_s_m, q_s_p])) (congrArg (fun n => if 47 = 42 then n + 1 else n) hR.2.1)⟩
      · have c590 : nb = 0 := (nI_eq (a := nb) (b := 0) (by first | omega | exact Nat.lt_of_le_of_lt Nat.and_le_right (by decide) | exact Nat.lt_trans (nm_lt _ _) (by decide) | exact Nat.lt_trans (np_lt _ _) (by decide) | exact Nat.lt_trans (p_at_lt htx) (by decide)) (by first | omega | exact Nat.lt_of_le_of_lt Nat.and_le_right (by decide) | exact Nat.lt_trans (nm_lt _ _) (by decide) | exact Nat.lt_trans (np_lt _ _) (by decide) | exact Nat.lt_trans (p_at_lt htx) (by decide))).mp c590
        exfalso; omega
  · have c560 : q5 = 0 := (nI_eq (a := q5) (b := 0) (by first | omega | exact Nat.lt_of_le_of_lt Nat.and_le_right (by decide) | exact Nat.lt_trans (nm_lt _ _) (by decide) | exact Nat.lt_trans (np_lt _ _) (by decide) | exact Nat.lt_trans (p_at_lt htx) (by decide)) (by first | omega | exact Nat.lt_of_le_of_lt Nat.and_le_right (by decide) | exact Nat.lt_trans (nm_lt _ _) (by decide) | exact Nat.lt_trans (np_lt _ _) (by decide) | exact Nat.lt_trans (p_at_lt htx) (by decide))).mp c560
    refine lv_iconst (v := nI 0) hx hb dL_isStep_563 (by decide) ?_
    refine lv_goto (tgt := 574) hx hb dL_isStep_564 (by decide) ?_
    refine lv_istore (lv' := [(10, .int (nI 0)), (9, .int (nI (m_xr c.1 8))), (8, .int (nI (c.1 jj))), (7, .int (nI (c.1 k))), (6, .int (nI jj)), (5, .int (nI k)), (4, .int z), (0, .ref (aa 0)), (1, .ref (ab 0)), (2, .int x), (3, .int y)]) hx hb dL_isStep_574 hl (by decide) rfl (fun ls hl => ?_)
    refine lv_aload_n hx hb dL_isStep_576 rfl (lv_at hl 7 rfl) ?_
    refine lv_iload hx hb dL_isStep_577 (lv_at hl 5 rfl) ?_
    refine lv_bipush (v := nI 47) hx hb dL_isStep_579 (by decide) ?_
    refine lv_iload hx hb dL_isStep_581 (lv_at hl 0 rfl) ?_
    refine f_SL (As := [.ref (aa 0), .int (nI k), .int (nI 47), .int (nI 0)]) (rest := []) C0 hE hl hP hD hS (o_written_x l hfl D cY eS eO aa sa bp hB j c hj hc k 47 0 (by first | assumption | omega | exact nm_lt _ _ | exact np_lt _ _ | exact q_s_lt _ | decide) (Or.inr (Or.inr (Or.inl rfl))) (by first | assumption | omega | exact nm_lt _ _ | exact np_lt _ _ | exact q_s_lt _ | decide) (rfl)) (va_cwS 4 hts gL_isStep_L_written rfl rfl rfl (by decide +kernel) ⟨Nat.le_of_ble_eq_true rfl, Nat.le_of_ble_eq_true rfl⟩) dL_isStep_583 rfl (Nat.le_of_ble_eq_true rfl) (Nat.le_of_ble_eq_true rfl) (Nat.le_of_ble_eq_true rfl) (fun _ => rfl) (fun r36 u H35 locs hw hP hD hS => ?_)
    obtain ⟨j2_37, rfl⟩ : ∃ z, z = u := ⟨_, rfl⟩
    try dsimp only at hw
    obtain ⟨rfl, hq38⟩ := hw
    have hj39 : o_J j2_37 := hq38
    have hP : va_P D vwCl (o_w cY aa sa bp j2_37 c ++ o_w cY ab sb bq k9 d) H35 := hP
    have hD : va_D A (o_w cY aa sa bp j2_37 c ++ o_w cY ab sb bq k9 d) := hD
    refine lv_istore (lv' := [(11, .int (nI 900001)), (10, .int (nI 0)), (9, .int (nI (m_xr c.1 8))), (8, .int (nI (c.1 jj))), (7, .int (nI (c.1 k))), (6, .int (nI jj)), (5, .int (nI k)), (4, .int z), (0, .ref (aa 0)), (1, .ref (ab 0)), (2, .int x), (3, .int y)]) hx hb dL_isStep_586 hl (by decide) rfl (fun ls hl => ?_)
    refine lv_iload hx hb dL_isStep_588 (lv_at hl 1 rfl) ?_
    refine lv_if_ne (tgt := 625) hx hb dL_isStep_590 (by decide) (fun c590 => ?_) (fun c590 => ?_)
    · exact absurd c590 (by decide)
    · refine lv_iload hx hb dL_isStep_593 (lv_at hl 0 rfl) ?_
      refine lv_ldc hx hb hown hwd1 dL_isStep_595 ?_
      refine lv_topi (nm_r (show ((900001 : Int32)) = nI 900001 from by decide) ?_)
      refine lv_icmp_ne (tgt := 621) hx hb dL_isStep_597 (by decide) (fun c597 => ?_) (fun c597 => ?_)
      · exact absurd c597 (by decide)
      · refine lv_aload_n hx hb dL_isStep_600 rfl (lv_at hl 9 rfl) ?_
        refine lv_bipush (v := nI 7) hx hb dL_isStep_601 (by decide) ?_
        refine lv_iload hx hb dL_isStep_603 (lv_at hl 6 rfl) ?_
        refine lv_isub hx hb dL_isStep_605 ?_
        refine lv_topi (nm_r (pk_sub (by omega)) ?_)
        refine lv_bipush (v := nI 47) hx hb dL_isStep_606 (by decide) ?_
        refine lv_iconst (v := nI 0) hx hb dL_isStep_608 (by decide) ?_
        refine f_SR (As := [.ref (ab 0), .int (nI (7 - k)), .int (nI 47), .int (nI 0)]) (rest := []) C0 hE hl hP hD hS (o_written_x l hfl D cY eS eO ab sb bq hBp k9 d hk9 hd (7 - k) 47 0 (by first | assumption | omega | exact nm_lt _ _ | exact np_lt _ _ | exact q_s_lt _ | decide) (Or.inr (Or.inr (Or.inl rfl))) (by first | assumption | omega | exact nm_lt _ _ | exact np_lt _ _ | exact q_s_lt _ | decide) (rfl)) (va_cwS 4 hts gL_isStep_L_written rfl rfl rfl (by decide +kernel) ⟨Nat.le_of_ble_eq_true rfl, Nat.le_of_ble_eq_true rfl⟩) dL_isStep_609 rfl (Nat.le_of_ble_eq_true rfl) (Nat.le_of_ble_eq_true rfl) (Nat.le_of_ble_eq_true rfl) (fun _ => rfl) (fun r41 u H40 locs hw hP hD hS => ?_)
        obtain ⟨j2_42, rfl⟩ : ∃ z, z = u := ⟨_, rfl⟩
        try dsimp only at hw
        obtain ⟨rfl, hq43⟩ := hw
        have hj44 : o_J j2_42 := hq43
        have hP : va_P D vwCl (o_w cY aa sa bp j2_37 c ++ o_w cY ab sb bq j2_42 d) H40 := hP
        have hD : va_D A (o_w cY aa sa bp j2_37 c ++ o_w cY ab sb bq j2_42 d) := hD
        refine lv_ldc hx hb hown hwd1 dL_isStep_612 ?_
        refine lv_topi (nm_r (show ((900001 : Int32)) = nI 900001 from by decide) ?_)
        refine lv_icmp_ne (tgt := 621) hx hb dL_isStep_614 (by decide) (fun c614 => ?_) (fun c614 => ?_)
        · exact absurd c614 (by decide)
        · refine lv_iconst (v := nI 1) hx hb dL_isStep_617 (by decide) ?_
          refine lv_goto (tgt := 669) hx hb dL_isStep_618 (by decide) ?_
          exact f_zret (by decide) (by decide) C0 (by decide) hS dL_isStep_669 (u := (j2_37, c, j2_42, d)) hP ⟨rfl, hj39, hc, hj44, hd, hR⟩
set_option maxHeartbeats 8000000 in
set_option maxRecDepth 100000 in
theorem s_case670 {p : Program} {l : Launch} {e : Env} {s : State} {m : MethodId} {below : List Frame} {meth : Method} {cq : Code} {x y : Int32} {D : va_G} {cY : Nat → ClassId} {A : Nat → Prop} {eS : Nat → Nat} {eO : Nat} {aa sa bp ab sb bq : Nat → Nat} (F : s_F p l e s m meth cq x y D cY A eS eO aa sa bp ab sb bq) {j : oJ} {c : oC} {k9 : oJ} {d : oC} (hj : o_J j) (hc : o_C c) (hk9 : o_J k9) (hd : o_C d) (hR : o_R c d) {z : Int32} {k jj : Nat} (hk : k < 8) (hjj : jj < 8) {H : Heap} {locs : List Loc} {ls : Array Slot} (hP : va_P D vwCl (o_w cY aa sa bp j c ++ o_w cY ab sb bq k9 d) H) (hD : va_D A (o_w cY aa sa bp j c ++ o_w cY ab sb bq k9 d)) (hS : va_S A s.heap H locs) (hl : lv_has ls 12 [(9, .int (nI (m_xr c.1 8))), (8, .int (nI (c.1 jj))), (7, .int (nI (c.1 k))), (6, .int (nI jj)), (5, .int (nI k)), (4, .int z), (0, .ref (aa 0)), (1, .ref (ab 0)), (2, .int x), (3, .int y)]) :
    W p l e { frames := 60, cells := 2, slots := 12, locals := 4000 } s m ([.ref (aa 0), .ref (ab 0), .int x, .int y] : List Value).toArray below meth cq H locs 0 0 (s_Q below s x y D cY A aa sa bp ab sb bq) (F0 m 670 ls []) := by
  obtain ⟨C0, hE, hB, hBp, hfl⟩ := id F
  obtain ⟨hx, hb, hr, hml, hts, hown, hlocks, hK, hA⟩ := id C0
  have hck := hc.1.2 k
  have hRk : d.1 (7 - k) = q_s (c.1 k) := hR.1 k hk
  refine lv_iload_n hx hb dL_isStep_670 rfl (lv_at hl 9 rfl) ?_
  refine lv_iconst (v := nI 2) hx hb dL_isStep_671 (by decide) ?_
  refine f_SL (wa := []) (As := [.int y, .int (nI 2)]) (rest := []) C0 hE hl hP hD hS (o_up l D cY eS eO y 2 (by first | assumption | omega | exact nm_lt _ _ | exact np_lt _ _ | exact q_s_lt _ | decide) (by first | assumption | omega | exact nm_lt _ _ | exact np_lt _ _ | exact q_s_lt _ | decide)) (va_cwS 2 hts gL_isStep_L_up rfl rfl rfl (by decide +kernel) ⟨Nat.le_of_ble_eq_true rfl, Nat.le_of_ble_eq_true rfl⟩) dL_isStep_672 rfl (Nat.le_of_ble_eq_true rfl) (Nat.le_of_ble_eq_true rfl) (Nat.le_of_ble_eq_true rfl) (fun _ => rfl) (fun r2 u H1 locs hw hP hD hS => ?_)
  obtain ⟨q5, rfl⟩ : ∃ z, z = u := ⟨_, rfl⟩
  try dsimp only at hw
  obtain ⟨rfl, hq5⟩ := hw
  have hP : va_P D vwCl (o_w cY aa sa bp j c ++ o_w cY ab sb bq k9 d) H1 := hP
  have hD : va_D A (o_w cY aa sa bp j c ++ o_w cY ab sb bq k9 d) := hD
  refine lv_if_ne (tgt := 701) hx hb dL_isStep_675 (by decide) (fun c675 => ?_) (fun c675 => ?_)
  · have c675 : ¬ (q5 = 0) := fun qq9 => c675 ((nI_eq (a := q5) (b := 0) (by first | omega | exact Nat.lt_of_le_of_lt Nat.and_le_right (by decide) | exact Nat.lt_trans (nm_lt _ _) (by decide) | exact Nat.lt_trans (np_lt _ _) (by decide) | exact Nat.lt_trans (p_at_lt htx) (by decide)) (by first | omega | exact Nat.lt_of_le_of_lt Nat.and_le_right (by decide) | exact Nat.lt_trans (nm_lt _ _) (by decide) | exact Nat.lt_trans (np_lt _ _) (by decide) | exact Nat.lt_trans (p_at_lt htx) (by decide))).mpr qq9)
    rcases hc.2.2.1 with h0 | h0
    · skip
      refine lv_aload_n hx hb dL_isStep_701 rfl (lv_at hl 6 rfl) ?_
      refine lv_aload_n hx hb dL_isStep_702 rfl (lv_at hl 7 rfl) ?_
      refine lv_aload_n hx hb dL_isStep_703 rfl (lv_at hl 6 rfl) ?_
      refine f_TL (As := [.ref (aa 0)]) (rest := [.ref (ab 0), .ref (aa 0)]) C0 hE hl hP hD hS (o_restore_x l hfl D cY eS eO aa sa bp hB j c hj hc  (h0)) (vx_cwSW 1 hts gL_isStep_L_restore rfl rfl rfl (by decide +kernel) ⟨Nat.le_of_ble_eq_true rfl, Nat.le_of_ble_eq_true rfl⟩) dL_isStep_704 rfl (Nat.le_of_ble_eq_true rfl) (Nat.le_of_ble_eq_true rfl) (Nat.le_of_ble_eq_true rfl) (fun _ => rfl) (fun r6 u H5 locs hw hP hD hS => ?_)
      try dsimp only at hw
      obtain rfl := hw
      have hP : va_P D vwCl (o_w cY aa sa bp j c ++ o_w cY ab sb bq k9 d) H5 := hP
      have hD : va_D A (o_w cY aa sa bp j c ++ o_w cY ab sb bq k9 d) := hD
      refine lv_aload_n hx hb dL_isStep_707 rfl (lv_at hl 7 rfl) ?_
      refine f_TR (As := [.ref (ab 0)]) (rest := [.int (nI 900001), .ref (ab 0), .ref (aa 0)]) C0 hE hl hP hD hS (o_restore_x l hfl D cY eS eO ab sb bq hBp k9 d hk9 hd  (hR.2.2.2.2.1.symm.trans h0)) (vx_cwSW 1 hts gL_isStep_L_restore rfl rfl rfl (by decide +kernel) ⟨Nat.le_of_ble_eq_true rfl, Nat.le_of_ble_eq_true rfl⟩) dL_isStep_708 rfl (Nat.le_of_ble_eq_true rfl) (Nat.le_of_ble_eq_true rfl) (Nat.le_of_ble_eq_true rfl) (fun _ => rfl) (fun r8 u H7 locs hw hP hD hS => ?_)
      try dsimp only at hw
      obtain rfl := hw
      have hP : va_P D vwCl (o_w cY aa sa bp j c ++ o_w cY ab sb bq k9 d) H7 := hP
      have hD : va_D A (o_w cY aa sa bp j c ++ o_w cY ab sb bq k9 d) := hD
      refine f_SO (As := [.ref (aa 0), .ref (ab 0), .int (nI 900001), .int (nI 900001)]) (rest := []) C0 hE hl hP hD hS (o_isBack l hfl D cY eS eO aa sa bp hB ab sb bq hBp j c hj hc k9 d hk9 hd (nI 900001) (nI 900001) (Or.inl ⟨rfl, rfl⟩)) (va_cwS 4 hts gL_isStep_L_isBack rfl rfl rfl (by decide +kernel) ⟨Nat.le_of_ble_eq_true rfl, Nat.le_of_ble_eq_true rfl⟩) dL_isStep_711 rfl (Nat.le_of_ble_eq_true rfl) (Nat.le_of_ble_eq_true rfl) (Nat.le_of_ble_eq_true rfl) (fun _ => rfl) (fun r10 u H9 locs hw hP hD hS => ?_)
      try dsimp only at hw
      obtain rfl := hw
      have hP : va_P D vwCl (o_w cY aa sa bp j c ++ o_w cY ab sb bq k9 d) H9 := hP
      have hD : va_D A (o_w cY aa sa bp j c ++ o_w cY ab sb bq k9 d) := hD
      exact f_zret (by decide) (by decide) C0 (by decide) hS dL_isStep_714 (u := (j, c, k9, d)) hP ⟨rfl, hj, hc, hk9, hd, hR⟩
    · skip
      refine lv_aload_n hx hb dL_isStep_701 rfl (lv_at hl 6 rfl) ?_
      refine lv_aload_n hx hb dL_isStep_702 rfl (lv_at hl 7 rfl) ?_
      refine lv_aload_n hx hb dL_isStep_703 rfl (lv_at hl 6 rfl) ?_
      refine f_TL (As := [.ref (aa 0)]) (rest := [.ref (ab 0), .ref (aa 0)]) C0 hE hl hP hD hS (o_restore l hfl D cY eS eO aa sa bp hB j c hj hc  (h0)) (vx_cwSW 1 hts gL_isStep_L_restore rfl rfl rfl (by decide +kernel) ⟨Nat.le_of_ble_eq_true rfl, Nat.le_of_ble_eq_true rfl⟩) dL_isStep_704 rfl (Nat.le_of_ble_eq_true rfl) (Nat.le_of_ble_eq_true rfl) (Nat.le_of_ble_eq_true rfl) (fun _ => rfl) (fun r12 u H11 locs hw hP hD hS => ?_)
      try dsimp only at hw
      obtain rfl := hw
      have hc13 : o_C (o_rec c c.2.2.1 c.2.2.2.1) := o_C_rec hc hc.2.1
      have hP : va_P D vwCl (o_w cY aa sa bp j (o_rec c c.2.2.1 c.2.2.2.1) ++ o_w cY ab sb bq k9 d) H11 := hP
      have hD : va_D A (o_w cY aa sa bp j (o_rec c c.2.2.1 c.2.2.2.1) ++ o_w cY ab sb bq k9 d) := hD
      refine lv_aload_n hx hb dL_isStep_707 rfl (lv_at hl 7 rfl) ?_
      refine f_TR (As := [.ref (ab 0)]) (rest := [.int (nI (m_xr c.2.2.1 8)), .ref (ab 0), .ref (aa 0)]) C0 hE hl hP hD hS (o_restore l hfl D cY eS eO ab sb bq hBp k9 d hk9 hd  (hR.2.2.2.2.1.symm.trans h0)) (vx_cwSW 1 hts gL_isStep_L_restore rfl rfl rfl (by decide +kernel) ⟨Nat.le_of_ble_eq_true rfl, Nat.le_of_ble_eq_true rfl⟩) dL_isStep_708 rfl (Nat.le_of_ble_eq_true rfl) (Nat.le_of_ble_eq_true rfl) (Nat.le_of_ble_eq_true rfl) (fun _ => rfl) (fun r15 u H14 locs hw hP hD hS => ?_)
      try dsimp only at hw
      obtain rfl := hw
      have hc16 : o_C (o_rec d d.2.2.1 d.2.2.2.1) := o_C_rec hd hd.2.1
      have hP : va_P D vwCl (o_w cY aa sa bp j (o_rec c c.2.2.1 c.2.2.2.1) ++ o_w cY ab sb bq k9 (o_rec d d.2.2.1 d.2.2.2.1)) H14 := hP
      have hD : va_D A (o_w cY aa sa bp j (o_rec c c.2.2.1 c.2.2.2.1) ++ o_w cY ab sb bq k9 (o_rec d d.2.2.1 d.2.2.2.1)) := hD
      refine f_SO (As := [.ref (aa 0), .ref (ab 0), .int (nI (m_xr c.2.2.1 8)), .int (nI (m_xr d.2.2.1 8))]) (rest := []) C0 hE hl hP hD hS (o_isBack l hfl D cY eS eO aa sa bp hB ab sb bq hBp j (o_rec c c.2.2.1 c.2.2.2.1) hj hc13 k9 (o_rec d d.2.2.1 d.2.2.2.1) hk9 hc16 (nI (m_xr c.2.2.1 8)) (nI (m_xr d.2.2.1 8)) (Or.inr ⟨m_xr c.2.2.1 8, m_xr_lt hc.2.1.2 8, rfl, congrArg nI (q_xr hR.2.2.1)⟩)) (va_cwS 4 hts gL_isStep_L_isBack rfl rfl rfl (by decide +kernel) ⟨Nat.le_of_ble_eq_true rfl, Nat.le_of_ble_eq_true rfl⟩) dL_isStep_711 rfl (Nat.le_of_ble_eq_true rfl) (Nat.le_of_ble_eq_true rfl) (Nat.le_of_ble_eq_true rfl) (fun _ => rfl) (fun r18 u H17 locs hw hP hD hS => ?_)
      try dsimp only at hw
      obtain rfl := hw
      have hP : va_P D vwCl (o_w cY aa sa bp j (o_rec c c.2.2.1 c.2.2.2.1) ++ o_w cY ab sb bq k9 (o_rec d d.2.2.1 d.2.2.2.1)) H17 := hP
      have hD : va_D A (o_w cY aa sa bp j (o_rec c c.2.2.1 c.2.2.2.1) ++ o_w cY ab sb bq k9 (o_rec d d.2.2.1 d.2.2.2.1)) := hD
      exact f_zret (by decide) (by decide) C0 (by decide) hS dL_isStep_714 (u := (j, o_rec c c.2.2.1 c.2.2.2.1, k9, o_rec d d.2.2.1 d.2.2.2.1)) hP ⟨rfl, hj, hc13, hk9, hc16, o_R_rec hR hR.2.2.1 hR.2.2.2.1⟩
  · have c675 : q5 = 0 := (nI_eq (a := q5) (b := 0) (by first | omega | exact Nat.lt_of_le_of_lt Nat.and_le_right (by decide) | exact Nat.lt_trans (nm_lt _ _) (by decide) | exact Nat.lt_trans (np_lt _ _) (by decide) | exact Nat.lt_trans (p_at_lt htx) (by decide)) (by first | omega | exact Nat.lt_of_le_of_lt Nat.and_le_right (by decide) | exact Nat.lt_trans (nm_lt _ _) (by decide) | exact Nat.lt_trans (np_lt _ _) (by decide) | exact Nat.lt_trans (p_at_lt htx) (by decide))).mp c675
    refine lv_aload_n hx hb dL_isStep_678 rfl (lv_at hl 6 rfl) ?_
    refine lv_aload_n hx hb dL_isStep_679 rfl (lv_at hl 6 rfl) ?_
    refine f_VL (As := []) (rest := [.ref (aa 0)]) C0 hE hl hP hD hS (o_takeSnapshot l hfl D cY eS eO aa sa bp hB j c hj hc  ) (cwV 0 hts gL_isStep_X6_takeSnapshot rfl rfl rfl (by decide +kernel) ⟨Nat.le_of_ble_eq_true rfl, Nat.le_of_ble_eq_true rfl⟩) dL_isStep_680 0 rfl rfl rfl rfl (Nat.le_of_ble_eq_true rfl) (Nat.le_of_ble_eq_true rfl) (Nat.le_of_ble_eq_true rfl) (fun _ => rfl) (fun r20 u H19 locs hw hP hD hS => ?_)
    try dsimp only at hw
    obtain rfl := hw
    have hc21 : o_C (o_snap c) := o_C_snap hc
    have hP : va_P D vwCl (o_w cY aa sa bp j (o_snap c) ++ o_w cY ab sb bq k9 d) H19 := hP
    have hD : va_D A (o_w cY aa sa bp j (o_snap c) ++ o_w cY ab sb bq k9 d) := hD
    refine f_SL (As := [.ref (aa 0), .int (nI (m_xr c.1 8))]) (rest := []) C0 hE hl hP hD hS (o_square l hfl D cY eS eO aa sa bp hB j (o_snap c) hj hc21 (m_xr c.1 8) (m_xr_lt hc.1.2 8)) (va_cwS 2 hts gL_isStep_L_square rfl rfl rfl (by decide +kernel) ⟨Nat.le_of_ble_eq_true rfl, Nat.le_of_ble_eq_true rfl⟩) dL_isStep_683 rfl (Nat.le_of_ble_eq_true rfl) (Nat.le_of_ble_eq_true rfl) (Nat.le_of_ble_eq_true rfl) (fun _ => rfl) (fun r23 u H22 locs hw hP hD hS => ?_)
    try dsimp only at hw
    obtain rfl := hw
    have hP : va_P D vwCl (o_w cY aa sa bp j (o_snap c) ++ o_w cY ab sb bq k9 d) H22 := hP
    have hD : va_D A (o_w cY aa sa bp j (o_snap c) ++ o_w cY ab sb bq k9 d) := hD
    refine lv_aload_n hx hb dL_isStep_686 rfl (lv_at hl 7 rfl) ?_
    refine f_VR (As := []) (rest := [.int (nI (q_s (m_xr c.1 8)))]) C0 hE hl hP hD hS (o_takeSnapshot l hfl D cY eS eO ab sb bq hBp k9 d hk9 hd  ) (cwV 0 hts gL_isStep_X6_takeSnapshot rfl rfl rfl (by decide +kernel) ⟨Nat.le_of_ble_eq_true rfl, Nat.le_of_ble_eq_true rfl⟩) dL_isStep_687 0 rfl rfl rfl rfl (Nat.le_of_ble_eq_true rfl) (Nat.le_of_ble_eq_true rfl) (Nat.le_of_ble_eq_true rfl) (fun _ => rfl) (fun r25 u H24 locs hw hP hD hS => ?_)
    try dsimp only at hw
    obtain rfl := hw
    have hc26 : o_C (o_snap d) := o_C_snap hd
    have hP : va_P D vwCl (o_w cY aa sa bp j (o_snap c) ++ o_w cY ab sb bq k9 (o_snap d)) H24 := hP
    have hD : va_D A (o_w cY aa sa bp j (o_snap c) ++ o_w cY ab sb bq k9 (o_snap d)) := hD
    refine lv_icmp_ne (tgt := 697) hx hb dL_isStep_690 (by decide) (fun h => absurd (show nI (q_s (m_xr c.1 8)) = nI (m_xr d.1 8) from congrArg nI (q_xr hR.1).symm) h) (fun _ => ?_)
    refine lv_iconst (v := nI 1) hx hb dL_isStep_693 (by decide) ?_
    refine lv_goto (tgt := 714) hx hb dL_isStep_694 (by decide) ?_
    exact f_zret (by decide) (by decide) C0 (by decide) hS dL_isStep_714 (u := (j, o_snap c, k9, o_snap d)) hP ⟨rfl, hj, hc21, hk9, hc26, o_R_snap hR⟩
set_option maxHeartbeats 8000000 in
set_option maxRecDepth 100000 in
theorem s_case715 {p : Program} {l : Launch} {e : Env} {s : State} {m : MethodId} {below : List Frame} {meth : Method} {cq : Code} {x y : Int32} {D : va_G} {cY : Nat → ClassId} {A : Nat → Prop} {eS : Nat → Nat} {eO : Nat} {aa sa bp ab sb bq : Nat → Nat} (F : s_F p l e s m meth cq x y D cY A eS eO aa sa bp ab sb bq) {j : oJ} {c : oC} {k9 : oJ} {d : oC} (hj : o_J j) (hc : o_C c) (hk9 : o_J k9) (hd : o_C d) (hR : o_R c d) {z : Int32} {k jj : Nat} (hk : k < 8) (hjj : jj < 8) {H : Heap} {locs : List Loc} {ls : Array Slot} (hP : va_P D vwCl (o_w cY aa sa bp j c ++ o_w cY ab sb bq k9 d) H) (hD : va_D A (o_w cY aa sa bp j c ++ o_w cY ab sb bq k9 d)) (hS : va_S A s.heap H locs) (hl : lv_has ls 12 [(9, .int (nI (m_xr c.1 8))), (8, .int (nI (c.1 jj))), (7, .int (nI (c.1 k))), (6, .int (nI jj)), (5, .int (nI k)), (4, .int z), (0, .ref (aa 0)), (1, .ref (ab 0)), (2, .int x), (3, .int y)]) :
    W p l e { frames := 60, cells := 2, slots := 12, locals := 4000 } s m ([.ref (aa 0), .ref (ab 0), .int x, .int y] : List Value).toArray below meth cq H locs 0 0 (s_Q below s x y D cY A aa sa bp ab sb bq) (F0 m 715 ls []) := by
  obtain ⟨C0, hE, hB, hBp, hfl⟩ := id F
  obtain ⟨hx, hb, hr, hml, hts, hown, hlocks, hK, hA⟩ := id C0
  have hck := hc.1.2 k
  have hRk : d.1 (7 - k) = q_s (c.1 k) := hR.1 k hk
  rcases Decidable.em (c.2.2.2.2.2.1 = 0) with h0 | h0
  · skip
    refine lv_aload_n hx hb dL_isStep_715 rfl (lv_at hl 6 rfl) ?_
    refine f_TL (As := [.ref (aa 0)]) (rest := []) C0 hE hl hP hD hS (o_undo_x l hfl D cY eS eO aa sa bp hB j c hj hc  (h0)) (vx_cwSW 1 hts gL_isStep_L_undo rfl rfl rfl (by decide +kernel) ⟨Nat.le_of_ble_eq_true rfl, Nat.le_of_ble_eq_true rfl⟩) dL_isStep_716 rfl (Nat.le_of_ble_eq_true rfl) (Nat.le_of_ble_eq_true rfl) (Nat.le_of_ble_eq_true rfl) (fun _ => rfl) (fun r2 u H1 locs hw hP hD hS => ?_)
    try dsimp only at hw
    obtain rfl := hw
    have hP : va_P D vwCl (o_w cY aa sa bp j c ++ o_w cY ab sb bq k9 d) H1 := hP
    have hD : va_D A (o_w cY aa sa bp j c ++ o_w cY ab sb bq k9 d) := hD
    refine lv_aload_n hx hb dL_isStep_719 rfl (lv_at hl 7 rfl) ?_
    refine f_TR (As := [.ref (ab 0)]) (rest := [.int (nI 900001)]) C0 hE hl hP hD hS (o_undo_x l hfl D cY eS eO ab sb bq hBp k9 d hk9 hd  (hR.2.2.2.2.2.1.symm.trans h0)) (vx_cwSW 1 hts gL_isStep_L_undo rfl rfl rfl (by decide +kernel) ⟨Nat.le_of_ble_eq_true rfl, Nat.le_of_ble_eq_true rfl⟩) dL_isStep_720 rfl (Nat.le_of_ble_eq_true rfl) (Nat.le_of_ble_eq_true rfl) (Nat.le_of_ble_eq_true rfl) (fun _ => rfl) (fun r4 u H3 locs hw hP hD hS => ?_)
    try dsimp only at hw
    obtain rfl := hw
    have hP : va_P D vwCl (o_w cY aa sa bp j c ++ o_w cY ab sb bq k9 d) H3 := hP
    have hD : va_D A (o_w cY aa sa bp j c ++ o_w cY ab sb bq k9 d) := hD
    refine lv_icmp_ne (tgt := 730) hx hb dL_isStep_723 (by decide) (fun c723 => ?_) (fun c723 => ?_)
    · exact absurd c723 (by decide)
    · refine lv_iconst (v := nI 1) hx hb dL_isStep_726 (by decide) ?_
      refine lv_goto (tgt := 731) hx hb dL_isStep_727 (by decide) ?_
      exact f_zret (by decide) (by decide) C0 (by decide) hS dL_isStep_731 (u := (j, c, k9, d)) hP ⟨rfl, hj, hc, hk9, hd, hR⟩
  · skip
    refine lv_aload_n hx hb dL_isStep_715 rfl (lv_at hl 6 rfl) ?_
    refine f_TL (As := [.ref (aa 0)]) (rest := []) C0 hE hl hP hD hS (o_undo_ok l hfl D cY eS eO aa sa bp hB j c hj hc  (by omega)) (vx_cwSW 1 hts gL_isStep_L_undo rfl rfl rfl (by decide +kernel) ⟨Nat.le_of_ble_eq_true rfl, Nat.le_of_ble_eq_true rfl⟩) dL_isStep_716 rfl (Nat.le_of_ble_eq_true rfl) (Nat.le_of_ble_eq_true rfl) (Nat.le_of_ble_eq_true rfl) (fun _ => rfl) (fun r6 u H5 locs hw hP hD hS => ?_)
    try dsimp only at hw
    obtain rfl := hw
    have hc7 : o_C (o_undo c) := o_C_undo hc
    have hP : va_P D vwCl (o_w cY aa sa bp j (o_undo c) ++ o_w cY ab sb bq k9 d) H5 := hP
    have hD : va_D A (o_w cY aa sa bp j (o_undo c) ++ o_w cY ab sb bq k9 d) := hD
    refine lv_aload_n hx hb dL_isStep_719 rfl (lv_at hl 7 rfl) ?_
    refine f_TR (As := [.ref (ab 0)]) (rest := [.int (nI (c.2.2.2.2.2.1 - 1))]) C0 hE hl hP hD hS (o_undo_ok l hfl D cY eS eO ab sb bq hBp k9 d hk9 hd  (by rw [← hR.2.2.2.2.2.1]; omega)) (vx_cwSW 1 hts gL_isStep_L_undo rfl rfl rfl (by decide +kernel) ⟨Nat.le_of_ble_eq_true rfl, Nat.le_of_ble_eq_true rfl⟩) dL_isStep_720 rfl (Nat.le_of_ble_eq_true rfl) (Nat.le_of_ble_eq_true rfl) (Nat.le_of_ble_eq_true rfl) (fun _ => rfl) (fun r9 u H8 locs hw hP hD hS => ?_)
    try dsimp only at hw
    obtain rfl := hw
    have hc10 : o_C (o_undo d) := o_C_undo hd
    have hP : va_P D vwCl (o_w cY aa sa bp j (o_undo c) ++ o_w cY ab sb bq k9 (o_undo d)) H8 := hP
    have hD : va_D A (o_w cY aa sa bp j (o_undo c) ++ o_w cY ab sb bq k9 (o_undo d)) := hD
    refine lv_icmp_ne (tgt := 730) hx hb dL_isStep_723 (by decide) (fun h => absurd (show nI (c.2.2.2.2.2.1 - 1) = nI (d.2.2.2.2.2.1 - 1) from congrArg (fun q => nI (q - 1)) hR.2.2.2.2.2.1) h) (fun _ => ?_)
    refine lv_iconst (v := nI 1) hx hb dL_isStep_726 (by decide) ?_
    refine lv_goto (tgt := 731) hx hb dL_isStep_727 (by decide) ?_
    exact f_zret (by decide) (by decide) C0 (by decide) hS dL_isStep_731 (u := (j, o_undo c, k9, o_undo d)) hP ⟨rfl, hj, hc7, hk9, hc10, o_R_undo hR⟩
set_option maxHeartbeats 8000000 in
set_option maxRecDepth 100000 in
theorem s_case732 {p : Program} {l : Launch} {e : Env} {s : State} {m : MethodId} {below : List Frame} {meth : Method} {cq : Code} {x y : Int32} {D : va_G} {cY : Nat → ClassId} {A : Nat → Prop} {eS : Nat → Nat} {eO : Nat} {aa sa bp ab sb bq : Nat → Nat} (F : s_F p l e s m meth cq x y D cY A eS eO aa sa bp ab sb bq) {j : oJ} {c : oC} {k9 : oJ} {d : oC} (hj : o_J j) (hc : o_C c) (hk9 : o_J k9) (hd : o_C d) (hR : o_R c d) {z : Int32} {k jj : Nat} (hk : k < 8) (hjj : jj < 8) {H : Heap} {locs : List Loc} {ls : Array Slot} (hP : va_P D vwCl (o_w cY aa sa bp j c ++ o_w cY ab sb bq k9 d) H) (hD : va_D A (o_w cY aa sa bp j c ++ o_w cY ab sb bq k9 d)) (hS : va_S A s.heap H locs) (hl : lv_has ls 12 [(9, .int (nI (m_xr c.1 8))), (8, .int (nI (c.1 jj))), (7, .int (nI (c.1 k))), (6, .int (nI jj)), (5, .int (nI k)), (4, .int z), (0, .ref (aa 0)), (1, .ref (ab 0)), (2, .int x), (3, .int y)]) :
    W p l e { frames := 60, cells := 2, slots := 12, locals := 4000 } s m ([.ref (aa 0), .ref (ab 0), .int x, .int y] : List Value).toArray below meth cq H locs 0 0 (s_Q below s x y D cY A aa sa bp ab sb bq) (F0 m 732 ls []) := by
  obtain ⟨C0, hE, hB, hBp, hfl⟩ := id F
  obtain ⟨hx, hb, hr, hml, hts, hown, hlocks, hK, hA⟩ := id C0
  have hck := hc.1.2 k
  have hRk : d.1 (7 - k) = q_s (c.1 k) := hR.1 k hk
  have hwd0 := hts (.constant RL 130 (65535)) (by decide +kernel)
  refine lv_iload hx hb dL_isStep_732 (lv_at hl 5 rfl) ?_
  refine lv_iconst (v := nI 2) hx hb dL_isStep_734 (by decide) ?_
  refine lv_iushr hx hb dL_isStep_735 rfl ?_
  refine lv_ldc hx hb hown hwd0 dL_isStep_736 ?_
  refine lv_topi (nm_r (show ((65535 : Int32)) = nI 65535 from by decide) ?_)
  refine lv_iload_n hx hb dL_isStep_738 rfl (lv_at hl 9 rfl) ?_
  refine lv_iconst (v := nI 4) hx hb dL_isStep_739 (by decide) ?_
  refine lv_ishr hx hb dL_isStep_740 ?_
  refine lv_bipush (v := nI 16) hx hb dL_isStep_741 (by decide) ?_
  refine f_SL (wa := []) (As := [.int (y >>> (nI 4 &&& 31)), .int (nI 16)]) (rest := [.int (nI 65535), .int ((z.toUInt32 >>> ((nI 2).toUInt32 &&& Int32.toUInt32 31)).toInt32)]) C0 hE hl hP hD hS (o_up l D cY eS eO (y >>> (nI 4 &&& 31)) 16 (by first | assumption | omega | exact nm_lt _ _ | exact np_lt _ _ | exact q_s_lt _ | decide) (by first | assumption | omega | exact nm_lt _ _ | exact np_lt _ _ | exact q_s_lt _ | decide)) (va_cwS 2 hts gL_isStep_L_up rfl rfl rfl (by decide +kernel) ⟨Nat.le_of_ble_eq_true rfl, Nat.le_of_ble_eq_true rfl⟩) dL_isStep_743 rfl (Nat.le_of_ble_eq_true rfl) (Nat.le_of_ble_eq_true rfl) (Nat.le_of_ble_eq_true rfl) (fun _ => rfl) (fun r2 u H1 locs hw hP hD hS => ?_)
  obtain ⟨u5, rfl⟩ : ∃ z, z = u := ⟨_, rfl⟩
  try dsimp only at hw
  obtain ⟨rfl, hu5⟩ := hw
  have hP : va_P D vwCl (o_w cY aa sa bp j c ++ o_w cY ab sb bq k9 d) H1 := hP
  have hD : va_D A (o_w cY aa sa bp j c ++ o_w cY ab sb bq k9 d) := hD
  refine lv_ishr hx hb dL_isStep_746 ?_
  refine lv_topi (nm_r (m_shr _ _ (by omega) (by omega)) ?_)
  refine lv_iand hx hb dL_isStep_747 ?_
  obtain ⟨nb, hnb9, enb⟩ := l_andm ((z.toUInt32 >>> ((nI 2).toUInt32 &&& Int32.toUInt32 31)).toInt32) (m := 65535 >>> u5) (Nat.lt_of_le_of_lt (Nat.shiftRight_le _ _) (by decide))
  have hnb : nb < 65536 := Nat.lt_of_le_of_lt (Nat.le_trans hnb9 (Nat.shiftRight_le _ _)) (by decide)
  refine lv_topi (nm_r (enb) ?_)
  refine lv_istore (lv' := [(10, .int (nI nb)), (9, .int (nI (m_xr c.1 8))), (8, .int (nI (c.1 jj))), (7, .int (nI (c.1 k))), (6, .int (nI jj)), (5, .int (nI k)), (4, .int z), (0, .ref (aa 0)), (1, .ref (ab 0)), (2, .int x), (3, .int y)]) hx hb dL_isStep_748 hl (by decide) rfl (fun ls hl => ?_)
  refine lv_aload_n hx hb dL_isStep_750 rfl (lv_at hl 7 rfl) ?_
  refine lv_iload hx hb dL_isStep_751 (lv_at hl 5 rfl) ?_
  refine lv_iload hx hb dL_isStep_753 (lv_at hl 0 rfl) ?_
  refine f_TL (As := [.ref (aa 0), .int (nI k), .int (nI nb)]) (rest := []) C0 hE hl hP hD hS (o_set l hfl D cY eS eO aa sa bp hB j c hj hc k nb (by first | assumption | omega | exact nm_lt _ _ | exact np_lt _ _ | exact q_s_lt _ | decide) (by first | assumption | omega | exact nm_lt _ _ | exact np_lt _ _ | exact q_s_lt _ | decide)) (vx_cwSW 3 hts gL_isStep_L_set rfl rfl rfl (by decide +kernel) ⟨Nat.le_of_ble_eq_true rfl, Nat.le_of_ble_eq_true rfl⟩) dL_isStep_755 rfl (Nat.le_of_ble_eq_true rfl) (Nat.le_of_ble_eq_true rfl) (Nat.le_of_ble_eq_true rfl) (fun _ => rfl) (fun r6 u H5 locs hw hP hD hS => ?_)
  try dsimp only at hw
  obtain rfl := hw
  have hc7 : o_C (o_rec c (m_up c.1 k nb) c.2.1) := o_C_rec hc (o_g_up hc.1 (by first | assumption | omega | exact nm_lt _ _ | exact np_lt _ _ | exact q_s_lt _ | decide) (by first | assumption | omega | exact nm_lt _ _ | exact np_lt _ _ | exact q_s_lt _ | decide))
  have hP : va_P D vwCl (o_w cY aa sa bp j (o_rec c (m_up c.1 k nb) c.2.1) ++ o_w cY ab sb bq k9 d) H5 := hP
  have hD : va_D A (o_w cY aa sa bp j (o_rec c (m_up c.1 k nb) c.2.1) ++ o_w cY ab sb bq k9 d) := hD
  refine lv_iload hx hb dL_isStep_758 (lv_at hl 3 rfl) ?_
  refine lv_icmp_ne (tgt := 807) hx hb dL_isStep_760 (by decide) (fun h => absurd (show nI (c.1 k) = nI (c.1 k) from rfl) h) (fun _ => ?_)
  refine lv_aload_n hx hb dL_isStep_763 rfl (lv_at hl 8 rfl) ?_
  refine lv_bipush (v := nI 7) hx hb dL_isStep_764 (by decide) ?_
  refine lv_iload hx hb dL_isStep_766 (lv_at hl 5 rfl) ?_
  refine lv_isub hx hb dL_isStep_768 ?_
  refine lv_topi (nm_r (pk_sub (by omega)) ?_)
  refine lv_iconst (v := nI 0) hx hb dL_isStep_769 (by decide) ?_
  refine lv_aload_n hx hb dL_isStep_770 rfl (lv_at hl 7 rfl) ?_
  refine lv_iload hx hb dL_isStep_771 (lv_at hl 0 rfl) ?_
  refine f_SL (As := [.ref (aa 0), .int (nI nb)]) (rest := [.int (nI 0), .int (nI (7 - k)), .ref (ab 0)]) C0 hE hl hP hD hS (o_square l hfl D cY eS eO aa sa bp hB j (o_rec c (m_up c.1 k nb) c.2.1) hj hc7 nb (by first | assumption | omega | exact nm_lt _ _ | exact np_lt _ _ | exact q_s_lt _ | decide)) (va_cwS 2 hts gL_isStep_L_square rfl rfl rfl (by decide +kernel) ⟨Nat.le_of_ble_eq_true rfl, Nat.le_of_ble_eq_true rfl⟩) dL_isStep_773 rfl (Nat.le_of_ble_eq_true rfl) (Nat.le_of_ble_eq_true rfl) (Nat.le_of_ble_eq_true rfl) (fun _ => rfl) (fun r9 u H8 locs hw hP hD hS => ?_)
  try dsimp only at hw
  obtain rfl := hw
  have hP : va_P D vwCl (o_w cY aa sa bp j (o_rec c (m_up c.1 k nb) c.2.1) ++ o_w cY ab sb bq k9 d) H8 := hP
  have hD : va_D A (o_w cY aa sa bp j (o_rec c (m_up c.1 k nb) c.2.1) ++ o_w cY ab sb bq k9 d) := hD
  refine f_SR (As := [.ref (ab 0), .int (nI (7 - k)), .int (nI 0), .int (nI (q_s nb))]) (rest := []) C0 hE hl hP hD hS (o_written_0 l hfl D cY eS eO ab sb bq hBp k9 d hk9 hd (7 - k) (q_s nb) (by first | assumption | omega | exact nm_lt _ _ | exact np_lt _ _ | exact q_s_lt _ | decide) (by first | assumption | omega | exact nm_lt _ _ | exact np_lt _ _ | exact q_s_lt _ | decide)) (va_cwS 4 hts gL_isStep_L_written rfl rfl rfl (by decide +kernel) ⟨Nat.le_of_ble_eq_true rfl, Nat.le_of_ble_eq_true rfl⟩) dL_isStep_776 rfl (Nat.le_of_ble_eq_true rfl) (Nat.le_of_ble_eq_true rfl) (Nat.le_of_ble_eq_true rfl) (fun _ => rfl) (fun r11 u H10 locs hw hP hD hS => ?_)
  obtain ⟨j2_12, rfl⟩ : ∃ z, z = u := ⟨_, rfl⟩
  try dsimp only at hw
  obtain ⟨rfl, hq13, hq14⟩ := hw
  have hj15 : o_J j2_12 := hq13
  have hc16 : o_C (o_rec d (m_up d.1 (7 - k) (q_s nb)) d.2.1) := hq14
  have hP : va_P D vwCl (o_w cY aa sa bp j (o_rec c (m_up c.1 k nb) c.2.1) ++ o_w cY ab sb bq j2_12 (o_rec d (m_up d.1 (7 - k) (q_s nb)) d.2.1)) H10 := hP
  have hD : va_D A (o_w cY aa sa bp j (o_rec c (m_up c.1 k nb) c.2.1) ++ o_w cY ab sb bq j2_12 (o_rec d (m_up d.1 (7 - k) (q_s nb)) d.2.1)) := hD
  refine lv_aload_n hx hb dL_isStep_779 rfl (lv_at hl 7 rfl) ?_
  refine lv_iload hx hb dL_isStep_780 (lv_at hl 0 rfl) ?_
  refine f_SL (As := [.ref (aa 0), .int (nI nb)]) (rest := [.int (nI (q_s nb))]) C0 hE hl hP hD hS (o_square l hfl D cY eS eO aa sa bp hB j (o_rec c (m_up c.1 k nb) c.2.1) hj hc7 nb (by first | assumption | omega | exact nm_lt _ _ | exact np_lt _ _ | exact q_s_lt _ | decide)) (va_cwS 2 hts gL_isStep_L_square rfl rfl rfl (by decide +kernel) ⟨Nat.le_of_ble_eq_true rfl, Nat.le_of_ble_eq_true rfl⟩) dL_isStep_782 rfl (Nat.le_of_ble_eq_true rfl) (Nat.le_of_ble_eq_true rfl) (Nat.le_of_ble_eq_true rfl) (fun _ => rfl) (fun r18 u H17 locs hw hP hD hS => ?_)
  try dsimp only at hw
  obtain rfl := hw
  have hP : va_P D vwCl (o_w cY aa sa bp j (o_rec c (m_up c.1 k nb) c.2.1) ++ o_w cY ab sb bq j2_12 (o_rec d (m_up d.1 (7 - k) (q_s nb)) d.2.1)) H17 := hP
  have hD : va_D A (o_w cY aa sa bp j (o_rec c (m_up c.1 k nb) c.2.1) ++ o_w cY ab sb bq j2_12 (o_rec d (m_up d.1 (7 - k) (q_s nb)) d.2.1)) := hD
  refine lv_icmp_ne (tgt := 807) hx hb dL_isStep_785 (by decide) (fun h => absurd (show nI (q_s nb) = nI (q_s nb) from rfl) h) (fun _ => ?_)
  refine lv_aload_n hx hb dL_isStep_788 rfl (lv_at hl 7 rfl) ?_
  refine f_VL (As := []) (rest := []) C0 hE hl hP hD hS (o_sumOfAll l hfl D cY eS eO aa sa bp hB j (o_rec c (m_up c.1 k nb) c.2.1) hj hc7  ) (cwV 0 hts gL_isStep_X6_sumOfAll rfl rfl rfl (by decide +kernel) ⟨Nat.le_of_ble_eq_true rfl, Nat.le_of_ble_eq_true rfl⟩) dL_isStep_789 0 rfl rfl rfl rfl (Nat.le_of_ble_eq_true rfl) (Nat.le_of_ble_eq_true rfl) (Nat.le_of_ble_eq_true rfl) (fun _ => rfl) (fun r20 u H19 locs hw hP hD hS => ?_)
  try dsimp only at hw
  obtain rfl := hw
  have hP : va_P D vwCl (o_w cY aa sa bp j (o_rec c (m_up c.1 k nb) c.2.1) ++ o_w cY ab sb bq j2_12 (o_rec d (m_up d.1 (7 - k) (q_s nb)) d.2.1)) H19 := hP
  have hD : va_D A (o_w cY aa sa bp j (o_rec c (m_up c.1 k nb) c.2.1) ++ o_w cY ab sb bq j2_12 (o_rec d (m_up d.1 (7 - k) (q_s nb)) d.2.1)) := hD
  refine lv_iload hx hb dL_isStep_792 (lv_at hl 1 rfl) ?_
  refine lv_iload hx hb dL_isStep_794 (lv_at hl 3 rfl) ?_
  refine lv_ixor hx hb dL_isStep_796 ?_
  refine lv_topi (nm_r (nx_xor _ _) ?_)
  refine lv_iload hx hb dL_isStep_797 (lv_at hl 0 rfl) ?_
  refine lv_ixor hx hb dL_isStep_799 ?_
  refine lv_topi (nm_r (nx_xor _ _) ?_)
  refine lv_icmp_ne (tgt := 807) hx hb dL_isStep_800 (by decide) (fun h => absurd (show nI (m_xr (o_rec c (m_up c.1 k nb) c.2.1).1 8) = nI (((m_xr c.1 8) ^^^ (c.1 k)) ^^^ nb) from congrArg nI (q_xr_up hk)) h) (fun _ => ?_)
  refine lv_iconst (v := nI 1) hx hb dL_isStep_803 (by decide) ?_
  refine lv_goto (tgt := 808) hx hb dL_isStep_804 (by decide) ?_
  exact f_zret (by decide) (by decide) C0 (by decide) hS dL_isStep_808 (u := (j, o_rec c (m_up c.1 k nb) c.2.1, j2_12, o_rec d (m_up d.1 (7 - k) (q_s nb)) d.2.1)) hP ⟨rfl, hj, hc7, hj15, hc16, o_R_rec hR (q_R_up hR.1 hk rfl) hR.2.1⟩
set_option maxHeartbeats 8000000 in
set_option maxRecDepth 100000 in
theorem o_isStep (l : Launch) (hfl : l.stackTraces = false) (D : va_G) (cY : Nat → ClassId) (eS : Nat → Nat) (eO : Nat) (aa sa bp : Nat → Nat) (hB : n_bp bp) (ab sb bq : Nat → Nat) (hBp : n_bp bq) (j : oJ) (c : oC) (hj : o_J j) (hc : o_C c) (k9 : oJ) (d : oC) (hk9 : o_J k9) (hd : o_C d) (x : Int32) (y : Int32) (hR : o_R c d) : m_Me l yL_isStep wsL_isStep 60 4000 2 12 D cY eS eO [.ref (aa 0), .ref (ab 0), .int x, .int y] (o_w cY aa sa bp j c ++ o_w cY ab sb bq k9 d) (fun (res : Int32) (u : oJ × oC × oJ × oC) => (res = nI 1) ∧ (o_J u.1) ∧ (o_C u.2.1) ∧ (o_J u.2.2.1) ∧ (o_C u.2.2.2) ∧ (o_R u.2.1 u.2.2.2)) (fun (u : oJ × oC × oJ × oC) => o_w cY aa sa bp u.1 u.2.1 ++ o_w cY ab sb bq u.2.2.1 u.2.2.2) := by
  refine m_enterE (cc := cL_isStep) (maxL := 12) (ret := (some .boolean)) (by decide +kernel) rfl (Nat.le_of_ble_eq_true rfl) ?_
  intro p e s m below meth cq A ls C0 hE hP hD hl
  obtain ⟨hx, hb, hr, hml, hts, hown, hlocks, hK, hA⟩ := id C0
  have hS : va_S A s.heap s.heap [] := va_S.rf
  have hl : lv_has ls 12 [(0, .ref (aa 0)), (1, .ref (ab 0)), (2, .int x), (3, .int y)] := hl
  refine lv_iload_n hx hb dL_isStep_0 rfl (lv_at hl 2 rfl) ?_
  refine lv_iconst (v := nI 4) hx hb dL_isStep_1 (by decide) ?_
  refine lv_ishr hx hb dL_isStep_2 ?_
  obtain ⟨z, hz⟩ : ∃ z, x >>> (nI 4 &&& 31) = z := ⟨_, rfl⟩
  refine lv_topi (nm_r (hz) ?_)
  refine lv_istore (lv' := [(4, .int z), (0, .ref (aa 0)), (1, .ref (ab 0)), (2, .int x), (3, .int y)]) hx hb dL_isStep_3 hl (by decide) rfl (fun ls hl => ?_)
  refine lv_iload_n hx hb dL_isStep_5 rfl (lv_at hl 4 rfl) ?_
  refine lv_bipush (v := nI 8) hx hb dL_isStep_6 (by decide) ?_
  refine f_SL (wa := []) (As := [.int y, .int (nI 8)]) (rest := []) C0 hE hl hP hD hS (o_up l D cY eS eO y 8 (by first | assumption | omega | exact nm_lt _ _ | exact np_lt _ _ | exact q_s_lt _ | decide) (by first | assumption | omega | exact nm_lt _ _ | exact np_lt _ _ | exact q_s_lt _ | decide)) (va_cwS 2 hts gL_isStep_L_up rfl rfl rfl (by decide +kernel) ⟨Nat.le_of_ble_eq_true rfl, Nat.le_of_ble_eq_true rfl⟩) dL_isStep_8 rfl (Nat.le_of_ble_eq_true rfl) (Nat.le_of_ble_eq_true rfl) (Nat.le_of_ble_eq_true rfl) (fun _ => rfl) (fun r2 u H1 locs hw hP hD hS => ?_)
  obtain ⟨k, rfl⟩ : ∃ z, z = u := ⟨_, rfl⟩
  try dsimp only at hw
  obtain ⟨rfl, hk⟩ := hw
  have hP : va_P D vwCl (o_w cY aa sa bp j c ++ o_w cY ab sb bq k9 d) H1 := hP
  have hD : va_D A (o_w cY aa sa bp j c ++ o_w cY ab sb bq k9 d) := hD
  refine lv_istore (lv' := [(5, .int (nI k)), (4, .int z), (0, .ref (aa 0)), (1, .ref (ab 0)), (2, .int x), (3, .int y)]) hx hb dL_isStep_11 hl (by decide) rfl (fun ls hl => ?_)
  refine lv_iload hx hb dL_isStep_13 (lv_at hl 1 rfl) ?_
  refine lv_bipush (v := nI 8) hx hb dL_isStep_15 (by decide) ?_
  refine f_SL (wa := []) (As := [.int z, .int (nI 8)]) (rest := []) C0 hE hl hP hD hS (o_up l D cY eS eO z 8 (by first | assumption | omega | exact nm_lt _ _ | exact np_lt _ _ | exact q_s_lt _ | decide) (by first | assumption | omega | exact nm_lt _ _ | exact np_lt _ _ | exact q_s_lt _ | decide)) (va_cwS 2 hts gL_isStep_L_up rfl rfl rfl (by decide +kernel) ⟨Nat.le_of_ble_eq_true rfl, Nat.le_of_ble_eq_true rfl⟩) dL_isStep_17 rfl (Nat.le_of_ble_eq_true rfl) (Nat.le_of_ble_eq_true rfl) (Nat.le_of_ble_eq_true rfl) (fun _ => rfl) (fun r6 u H5 locs hw hP hD hS => ?_)
  obtain ⟨jj, rfl⟩ : ∃ z, z = u := ⟨_, rfl⟩
  try dsimp only at hw
  obtain ⟨rfl, hjj⟩ := hw
  have hP : va_P D vwCl (o_w cY aa sa bp j c ++ o_w cY ab sb bq k9 d) H5 := hP
  have hD : va_D A (o_w cY aa sa bp j c ++ o_w cY ab sb bq k9 d) := hD
  refine lv_istore (lv' := [(6, .int (nI jj)), (5, .int (nI k)), (4, .int z), (0, .ref (aa 0)), (1, .ref (ab 0)), (2, .int x), (3, .int y)]) hx hb dL_isStep_20 hl (by decide) rfl (fun ls hl => ?_)
  refine lv_aload_n hx hb dL_isStep_22 rfl (lv_at hl 3 rfl) ?_
  refine lv_iload hx hb dL_isStep_23 (lv_at hl 1 rfl) ?_
  refine f_TL (As := [.ref (aa 0), .int (nI k)]) (rest := []) C0 hE hl hP hD hS (o_nimber l hfl D cY eS eO aa sa bp hB j c hj hc k (by first | assumption | omega | exact nm_lt _ _ | exact np_lt _ _ | exact q_s_lt _ | decide)) (vx_cwSW 2 hts gL_isStep_L_nimber rfl rfl rfl (by decide +kernel) ⟨Nat.le_of_ble_eq_true rfl, Nat.le_of_ble_eq_true rfl⟩) dL_isStep_25 rfl (Nat.le_of_ble_eq_true rfl) (Nat.le_of_ble_eq_true rfl) (Nat.le_of_ble_eq_true rfl) (fun _ => rfl) (fun r10 u H9 locs hw hP hD hS => ?_)
  try dsimp only at hw
  obtain rfl := hw
  have hP : va_P D vwCl (o_w cY aa sa bp j c ++ o_w cY ab sb bq k9 d) H9 := hP
  have hD : va_D A (o_w cY aa sa bp j c ++ o_w cY ab sb bq k9 d) := hD
  refine lv_istore (lv' := [(7, .int (nI (c.1 k))), (6, .int (nI jj)), (5, .int (nI k)), (4, .int z), (0, .ref (aa 0)), (1, .ref (ab 0)), (2, .int x), (3, .int y)]) hx hb dL_isStep_28 hl (by decide) rfl (fun ls hl => ?_)
  refine lv_aload_n hx hb dL_isStep_30 rfl (lv_at hl 4 rfl) ?_
  refine lv_iload hx hb dL_isStep_31 (lv_at hl 1 rfl) ?_
  refine f_TL (As := [.ref (aa 0), .int (nI jj)]) (rest := []) C0 hE hl hP hD hS (o_nimber l hfl D cY eS eO aa sa bp hB j c hj hc jj (by first | assumption | omega | exact nm_lt _ _ | exact np_lt _ _ | exact q_s_lt _ | decide)) (vx_cwSW 2 hts gL_isStep_L_nimber rfl rfl rfl (by decide +kernel) ⟨Nat.le_of_ble_eq_true rfl, Nat.le_of_ble_eq_true rfl⟩) dL_isStep_33 rfl (Nat.le_of_ble_eq_true rfl) (Nat.le_of_ble_eq_true rfl) (Nat.le_of_ble_eq_true rfl) (fun _ => rfl) (fun r12 u H11 locs hw hP hD hS => ?_)
  try dsimp only at hw
  obtain rfl := hw
  have hP : va_P D vwCl (o_w cY aa sa bp j c ++ o_w cY ab sb bq k9 d) H11 := hP
  have hD : va_D A (o_w cY aa sa bp j c ++ o_w cY ab sb bq k9 d) := hD
  refine lv_istore (lv' := [(8, .int (nI (c.1 jj))), (7, .int (nI (c.1 k))), (6, .int (nI jj)), (5, .int (nI k)), (4, .int z), (0, .ref (aa 0)), (1, .ref (ab 0)), (2, .int x), (3, .int y)]) hx hb dL_isStep_36 hl (by decide) rfl (fun ls hl => ?_)
  refine lv_aload_n hx hb dL_isStep_38 rfl (lv_at hl 5 rfl) ?_
  refine f_VL (As := []) (rest := []) C0 hE hl hP hD hS (o_sumOfAll l hfl D cY eS eO aa sa bp hB j c hj hc  ) (cwV 0 hts gL_isStep_X6_sumOfAll rfl rfl rfl (by decide +kernel) ⟨Nat.le_of_ble_eq_true rfl, Nat.le_of_ble_eq_true rfl⟩) dL_isStep_39 0 rfl rfl rfl rfl (Nat.le_of_ble_eq_true rfl) (Nat.le_of_ble_eq_true rfl) (Nat.le_of_ble_eq_true rfl) (fun _ => rfl) (fun r14 u H13 locs hw hP hD hS => ?_)
  try dsimp only at hw
  obtain rfl := hw
  have hP : va_P D vwCl (o_w cY aa sa bp j c ++ o_w cY ab sb bq k9 d) H13 := hP
  have hD : va_D A (o_w cY aa sa bp j c ++ o_w cY ab sb bq k9 d) := hD
  refine lv_istore (lv' := [(9, .int (nI (m_xr c.1 8))), (8, .int (nI (c.1 jj))), (7, .int (nI (c.1 k))), (6, .int (nI jj)), (5, .int (nI k)), (4, .int z), (0, .ref (aa 0)), (1, .ref (ab 0)), (2, .int x), (3, .int y)]) hx hb dL_isStep_42 hl (by decide) rfl (fun ls hl => ?_)
  refine lv_iload_n hx hb dL_isStep_44 rfl (lv_at hl 8 rfl) ?_
  refine lv_bipush (v := nI 16) hx hb dL_isStep_45 (by decide) ?_
  refine f_SL (wa := []) (As := [.int x, .int (nI 16)]) (rest := []) C0 hE hl hP hD hS (o_up l D cY eS eO x 16 (by first | assumption | omega | exact nm_lt _ _ | exact np_lt _ _ | exact q_s_lt _ | decide) (by first | assumption | omega | exact nm_lt _ _ | exact np_lt _ _ | exact q_s_lt _ | decide)) (va_cwS 2 hts gL_isStep_L_up rfl rfl rfl (by decide +kernel) ⟨Nat.le_of_ble_eq_true rfl, Nat.le_of_ble_eq_true rfl⟩) dL_isStep_47 rfl (Nat.le_of_ble_eq_true rfl) (Nat.le_of_ble_eq_true rfl) (Nat.le_of_ble_eq_true rfl) (fun _ => rfl) (fun r16 u H15 locs hw hP hD hS => ?_)
  obtain ⟨q, rfl⟩ : ∃ z, z = u := ⟨_, rfl⟩
  try dsimp only at hw
  obtain ⟨rfl, hq⟩ := hw
  have hP : va_P D vwCl (o_w cY aa sa bp j c ++ o_w cY ab sb bq k9 d) H15 := hP
  have hD : va_D A (o_w cY aa sa bp j c ++ o_w cY ab sb bq k9 d) := hD
  by_cases h0 : q = 0
  · subst h0
    exact lv_tableIn hx hb dL_isStep_50 (x := nI 0) (off := 62) (tgt := 112) (by decide) (by decide) (by decide) (by decide) (s_case112 ⟨C0, hE, hB, hBp, hfl⟩ hj hc hk9 hd hR hk hjj hP hD hS (lv_sub hl [0, 1, 2, 3, 4, 5, 6, 7, 8, 9] rfl))
  by_cases h1 : q = 1
  · subst h1
    exact lv_tableIn hx hb dL_isStep_50 (x := nI 1) (off := 155) (tgt := 205) (by decide) (by decide) (by decide) (by decide) (s_case205 ⟨C0, hE, hB, hBp, hfl⟩ hj hc hk9 hd hR hk hjj hP hD hS (lv_sub hl [0, 1, 2, 3, 4, 5, 6, 7, 8, 9] rfl))
  by_cases h2 : q = 2
  · subst h2
    exact lv_tableIn hx hb dL_isStep_50 (x := nI 2) (off := 194) (tgt := 244) (by decide) (by decide) (by decide) (by decide) (s_case244 ⟨C0, hE, hB, hBp, hfl⟩ hj hc hk9 hd hR hk hjj hP hD hS (lv_sub hl [0, 1, 2, 3, 4, 5, 6, 7, 8, 9] rfl))
  by_cases h3 : q = 3
  · subst h3
    exact lv_tableIn hx hb dL_isStep_50 (x := nI 3) (off := 194) (tgt := 244) (by decide) (by decide) (by decide) (by decide) (s_case244 ⟨C0, hE, hB, hBp, hfl⟩ hj hc hk9 hd hR hk hjj hP hD hS (lv_sub hl [0, 1, 2, 3, 4, 5, 6, 7, 8, 9] rfl))
  by_cases h4 : q = 4
  · subst h4
    exact lv_tableIn hx hb dL_isStep_50 (x := nI 4) (off := 194) (tgt := 244) (by decide) (by decide) (by decide) (by decide) (s_case244 ⟨C0, hE, hB, hBp, hfl⟩ hj hc hk9 hd hR hk hjj hP hD hS (lv_sub hl [0, 1, 2, 3, 4, 5, 6, 7, 8, 9] rfl))
  by_cases h5 : q = 5
  · subst h5
    exact lv_tableIn hx hb dL_isStep_50 (x := nI 5) (off := 263) (tgt := 313) (by decide) (by decide) (by decide) (by decide) (s_case313 ⟨C0, hE, hB, hBp, hfl⟩ hj hc hk9 hd hR hk hjj hP hD hS (lv_sub hl [0, 1, 2, 3, 4, 5, 6, 7, 8, 9] rfl))
  by_cases h6 : q = 6
  · subst h6
    exact lv_tableIn hx hb dL_isStep_50 (x := nI 6) (off := 314) (tgt := 364) (by decide) (by decide) (by decide) (by decide) (s_case364 ⟨C0, hE, hB, hBp, hfl⟩ hj hc hk9 hd hR hk hjj hP hD hS (lv_sub hl [0, 1, 2, 3, 4, 5, 6, 7, 8, 9] rfl))
  by_cases h7 : q = 7
  · subst h7
    exact lv_tableIn hx hb dL_isStep_50 (x := nI 7) (off := 376) (tgt := 426) (by decide) (by decide) (by decide) (by decide) (s_case426 ⟨C0, hE, hB, hBp, hfl⟩ hj hc hk9 hd hR hk hjj hP hD hS (lv_sub hl [0, 1, 2, 3, 4, 5, 6, 7, 8, 9] rfl))
  by_cases h8 : q = 8
  · subst h8
    exact lv_tableIn hx hb dL_isStep_50 (x := nI 8) (off := 442) (tgt := 492) (by decide) (by decide) (by decide) (by decide) (s_case492 ⟨C0, hE, hB, hBp, hfl⟩ hj hc hk9 hd hR hk hjj hP hD hS (lv_sub hl [0, 1, 2, 3, 4, 5, 6, 7, 8, 9] rfl))
  by_cases h9 : q = 9
  · subst h9
    exact lv_tableIn hx hb dL_isStep_50 (x := nI 9) (off := 504) (tgt := 554) (by decide) (by decide) (by decide) (by decide) (s_case554 ⟨C0, hE, hB, hBp, hfl⟩ hj hc hk9 hd hR hk hjj hP hD hS (lv_sub hl [0, 1, 2, 3, 4, 5, 6, 7, 8, 9] rfl))
  by_cases h10 : q = 10
  · subst h10
    exact lv_tableIn hx hb dL_isStep_50 (x := nI 10) (off := 620) (tgt := 670) (by decide) (by decide) (by decide) (by decide) (s_case670 ⟨C0, hE, hB, hBp, hfl⟩ hj hc hk9 hd hR hk hjj hP hD hS (lv_sub hl [0, 1, 2, 3, 4, 5, 6, 7, 8, 9] rfl))
  by_cases h11 : q = 11
  · subst h11
    exact lv_tableIn hx hb dL_isStep_50 (x := nI 11) (off := 665) (tgt := 715) (by decide) (by decide) (by decide) (by decide) (s_case715 ⟨C0, hE, hB, hBp, hfl⟩ hj hc hk9 hd hR hk hjj hP hD hS (lv_sub hl [0, 1, 2, 3, 4, 5, 6, 7, 8, 9] rfl))
  have e1 : (nI q).toInt = q := nI_toInt (by omega)
  exact lv_tableOut hx hb dL_isStep_50 (x := nI q) (tgt := 732) (Or.inr (by rw [e1]; omega)) (by decide) (s_case732 ⟨C0, hE, hB, hBp, hfl⟩ hj hc hk9 hd hR hk hjj hP hD hS (lv_sub hl [0, 1, 2, 3, 4, 5, 6, 7, 8, 9] rfl))
