/-! The law's methods. -/
set_option maxHeartbeats 8000000 in
set_option maxRecDepth 100000 in
theorem o_isBack (l : Launch) (hfl : l.stackTraces = false) (D : va_G) (cY : Nat → ClassId) (eS : Nat → Nat) (eO : Nat) (aa sa bp : Nat → Nat) (hB : n_bp bp) (ab sb bq : Nat → Nat) (hBp : n_bp bq) (j : oJ) (c : oC) (hj : o_J j) (hc : o_C c) (k9 : oJ) (d : oC) (hk9 : o_J k9) (hd : o_C d) (x : Int32) (y : Int32) (hxy : (x = nI 900001 ∧ y = nI 900001) ∨ ∃ a, a < 65536 ∧ x = nI a ∧ y = nI (q_s a)) : m_Me l yL_isBack wsL_isBack 8 221 0 0 D cY eS eO [.ref (aa 0), .ref (ab 0), .int x, .int y] (o_w cY aa sa bp j c ++ o_w cY ab sb bq k9 d) (fun (res : Int32) (u : Unit) => (res = nI 1)) (fun (u : Unit) => o_w cY aa sa bp j c ++ o_w cY ab sb bq k9 d) := by
  refine m_enterE (cc := cL_isBack) (maxL := 4) (ret := (some .boolean)) (by decide +kernel) rfl (Nat.le_of_ble_eq_true rfl) ?_
  intro p e s m below meth cq A ls C0 hE hP hD hl
  obtain ⟨hx, hb, hr, hml, hts, hown, hlocks, hK, hA⟩ := id C0
  generalize hQ : MQ below _ _ s 0 0 A = Q
  have hS : va_S A s.heap s.heap [] := va_S.rf
  have hl : lv_has ls 4 [(0, .ref (aa 0)), (1, .ref (ab 0)), (2, .int x), (3, .int y)] := hl
  have hwd0 := hts (.constant RL 17 (900001)) (by decide +kernel)
  rcases hxy with ⟨rfl, rfl⟩ | ⟨a, ha, rfl, rfl⟩
  · skip
    refine lv_iload_n hx hb dL_isBack_0 rfl (lv_at hl 2 rfl) ?_
    refine lv_ldc hx hb hown hwd0 dL_isBack_1 ?_
    refine lv_topi (nm_r (show ((900001 : Int32)) = nI 900001 from by decide) ?_)
    refine lv_icmp_ne (tgt := 20) hx hb dL_isBack_3 (by decide) (fun c3 => ?_) (fun c3 => ?_)
    · exact absurd c3 (by decide)
    · refine lv_iload_n hx hb dL_isBack_6 rfl (lv_at hl 3 rfl) ?_
      refine lv_ldc hx hb hown hwd0 dL_isBack_7 ?_
      refine lv_topi (nm_r (show ((900001 : Int32)) = nI 900001 from by decide) ?_)
      refine lv_icmp_ne (tgt := 16) hx hb dL_isBack_9 (by decide) (fun c9 => ?_) (fun c9 => ?_)
      · exact absurd c9 (by decide)
      · refine lv_iconst (v := nI 1) hx hb dL_isBack_12 (by decide) ?_
        refine lv_goto (tgt := 34) hx hb dL_isBack_13 (by decide) ?_
        subst hQ
        exact f_zret (by decide) (by decide) C0 (by decide) hS dL_isBack_34 (u := ()) hP (rfl)
  · skip
    refine lv_iload_n hx hb dL_isBack_0 rfl (lv_at hl 2 rfl) ?_
    refine lv_ldc hx hb hown hwd0 dL_isBack_1 ?_
    refine lv_topi (nm_r (show ((900001 : Int32)) = nI 900001 from by decide) ?_)
    refine lv_icmp_ne (tgt := 20) hx hb dL_isBack_3 (by decide) (fun c3 => ?_) (fun c3 => ?_)
    · have c3 : ¬ (a = 900001) := fun qq9 => c3 ((nI_eq (a := a) (b := 900001) (by first | omega | exact Nat.lt_of_le_of_lt Nat.and_le_right (by decide) | exact Nat.lt_trans (nm_lt _ _) (by decide) | exact Nat.lt_trans (np_lt _ _) (by decide) | exact Nat.lt_trans (p_at_lt htx) (by decide)) (by first | omega | exact Nat.lt_of_le_of_lt Nat.and_le_right (by decide) | exact Nat.lt_trans (nm_lt _ _) (by decide) | exact Nat.lt_trans (np_lt _ _) (by decide) | exact Nat.lt_trans (p_at_lt htx) (by decide))).mpr qq9)
      refine lv_aload_n hx hb dL_isBack_20 rfl (lv_at hl 0 rfl) ?_
      refine lv_iload_n hx hb dL_isBack_21 rfl (lv_at hl 2 rfl) ?_
      refine f_SL (As := [.ref (aa 0), .int (nI a)]) (rest := []) C0 hE hl hP hD hS (o_square l hfl D cY eS eO aa sa bp hB j c hj hc a (by first | assumption | omega | exact nm_lt _ _ | exact np_lt _ _ | exact q_s_lt _ | decide)) (va_cwS 2 hts gL_isBack_L_square rfl rfl rfl (by decide +kernel) ⟨Nat.le_of_ble_eq_true rfl, Nat.le_of_ble_eq_true rfl⟩) dL_isBack_22 rfl (Nat.le_of_ble_eq_true rfl) (Nat.le_of_ble_eq_true rfl) (Nat.le_of_ble_eq_true rfl) (fun _ => rfl) (fun r2 u H1 locs hw hP hD hS => ?_)
      try dsimp only at hw
      obtain rfl := hw
      have hP : va_P D vwCl (o_w cY aa sa bp j c ++ o_w cY ab sb bq k9 d) H1 := hP
      have hD : va_D A (o_w cY aa sa bp j c ++ o_w cY ab sb bq k9 d) := hD
      refine lv_iload_n hx hb dL_isBack_25 rfl (lv_at hl 3 rfl) ?_
      refine lv_icmp_ne (tgt := 33) hx hb dL_isBack_26 (by decide) (fun h => absurd (show nI (q_s a) = nI (q_s a) from rfl) h) (fun _ => ?_)
      refine lv_iconst (v := nI 1) hx hb dL_isBack_29 (by decide) ?_
      refine lv_goto (tgt := 34) hx hb dL_isBack_30 (by decide) ?_
      subst hQ
      exact f_zret (by decide) (by decide) C0 (by decide) hS dL_isBack_34 (u := ()) hP (rfl)
    · have c3 : a = 900001 := (nI_eq (a := a) (b := 900001) (by first | omega | exact Nat.lt_of_le_of_lt Nat.and_le_right (by decide) | exact Nat.lt_trans (nm_lt _ _) (by decide) | exact Nat.lt_trans (np_lt _ _) (by decide) | exact Nat.lt_trans (p_at_lt htx) (by decide)) (by first | omega | exact Nat.lt_of_le_of_lt Nat.and_le_right (by decide) | exact Nat.lt_trans (nm_lt _ _) (by decide) | exact Nat.lt_trans (np_lt _ _) (by decide) | exact Nat.lt_trans (p_at_lt htx) (by decide))).mp c3
      exfalso; omega
set_option maxHeartbeats 8000000 in
set_option maxRecDepth 100000 in
theorem o_isWell (l : Launch) (hfl : l.stackTraces = false) (D : va_G) (cY : Nat → ClassId) (eS : Nat → Nat) (eO : Nat) (aa sa bp : Nat → Nat) (hB : n_bp bp) (j : oJ) (c : oC) (hj : o_J j) (hc : o_C c)   : m_Me l yL_isWell wsL_isWell 8 221 0 0 D cY eS eO [.ref (aa 0)] (o_w cY aa sa bp j c) (fun (res : Int32) (u : Unit) => (res = nI 1)) (fun (u : Unit) => o_w cY aa sa bp j c) := by
  refine m_enterE (cc := cL_isWell) (maxL := 5) (ret := (some .boolean)) (by decide +kernel) rfl (Nat.le_of_ble_eq_true rfl) ?_
  intro p e s m below meth cq A ls C0 hE hP hD hl
  obtain ⟨hx, hb, hr, hml, hts, hown, hlocks, hK, hA⟩ := id C0
  generalize hQ : MQ below _ _ s 0 0 A = Q
  have hS : va_S A s.heap s.heap [] := va_S.rf
  have hl : lv_has ls 5 [(0, .ref (aa 0))] := hl
  have hwd0 := hts (.constant RL 173 (65536)) (by decide +kernel)
  have hwd1 := hts (.constant RL 130 (65535)) (by decide +kernel)
  refine lv_iconst (v := nI 0) hx hb dL_isWell_0 (by decide) ?_
  refine lv_istore_n (lv' := [(1, .int (nI 0)), (0, .ref (aa 0))]) hx hb dL_isWell_1 rfl hl (by decide) rfl (fun ls hl => ?_)
  refine lv_iconst (v := nI 1) hx hb dL_isWell_2 (by decide) ?_
  refine lv_istore_n (lv' := [(2, .int (nI 1)), (1, .int (nI 0)), (0, .ref (aa 0))]) hx hb dL_isWell_3 rfl hl (by decide) rfl (fun ls hl => ?_)
  refine lv_iconst (v := nI 0) hx hb dL_isWell_4 (by decide) ?_
  refine lv_istore_n (lv' := [(3, .int (nI 0)), (2, .int (nI 1)), (1, .int (nI 0)), (0, .ref (aa 0))]) hx hb dL_isWell_5 rfl hl (by decide) rfl (fun ls hl => ?_)
  have lp6 : ∀ (nn : Nat) (k : Nat) (H : Heap) (locs : List Loc) (ls : Array Slot), (k ≤ 8) → 8 - k < nn → va_P D vwCl (o_w cY aa sa bp j c) H → va_D A (o_w cY aa sa bp j c) → va_S A s.heap H locs → lv_has ls 5 [(3, .int (nI k)), (0, .ref (aa 0)), (1, .int (nI (m_xr c.1 k))), (2, .int (nI 1))] → W p l e { frames := 8, cells := 0, slots := 0, locals := 221 } s m ([.ref (aa 0)] : List Value).toArray below meth cq H locs 0 0 Q (F0 m 6 ls []) := by
    intro nn
    induction nn with
    | zero => intros; omega
    | succ nn ih6 =>
      intro k H locs ls hkk hmz hP hD hS hl
      refine lv_iload_n hx hb dL_isWell_6 rfl (lv_at hl 0 rfl) ?_
      refine lv_bipush (v := nI 8) hx hb dL_isWell_7 (by decide) ?_
      refine lv_icmp_ge (tgt := 132) hx hb dL_isWell_9 (by decide) (fun c9 => ?_) (fun c9 => ?_)
      · have c9 : 8 ≤ k := (nI_leI (a := 8) (b := k) (by first | omega | exact Nat.lt_of_le_of_lt Nat.and_le_right (by decide) | exact Nat.lt_trans (nm_lt _ _) (by decide) | exact Nat.lt_trans (np_lt _ _) (by decide) | exact Nat.lt_trans (p_at_lt htx) (by decide)) (by first | omega | exact Nat.lt_of_le_of_lt Nat.and_le_right (by decide) | exact Nat.lt_trans (nm_lt _ _) (by decide) | exact Nat.lt_trans (np_lt _ _) (by decide) | exact Nat.lt_trans (p_at_lt htx) (by decide))).mp c9
        have hk8 : k = 8 := by omega
        subst hk8
        rcases q_les c.1 with ⟨hs0, hle⟩ | ⟨hs0, i9, hi9, hle, hlt⟩
        · skip
          refine lv_aload_n hx hb dL_isWell_132 rfl (lv_at hl 1 rfl) ?_
          have hxl := m_xr_lt hc.1.2 8
          refine f_VO (As := []) (rest := []) C0 hE hl hP hD hS (o_lessen l hfl D cY eS eO aa sa bp hB j c hj hc  ) (cwV 0 hts gL_isWell_X6_registerToLessen rfl rfl rfl (by decide +kernel) ⟨Nat.le_of_ble_eq_true rfl, Nat.le_of_ble_eq_true rfl⟩) dL_isWell_133 0 rfl rfl rfl rfl (Nat.le_of_ble_eq_true rfl) (Nat.le_of_ble_eq_true rfl) (Nat.le_of_ble_eq_true rfl) (fun _ => rfl) (fun r2 u H1 locs hw hP hD hS => ?_)
          try dsimp only at hw
          obtain rfl := hw
          have hP : va_P D vwCl (o_w cY aa sa bp j c) H1 := hP
          have hD : va_D A (o_w cY aa sa bp j c) := hD
          refine lv_topi (nm_r (hle) ?_)
          refine lv_istore_n (lv' := [(3, .int (-1)), (0, .ref (aa 0)), (1, .int (nI (m_xr c.1 8))), (2, .int (nI 1))]) hx hb dL_isWell_136 rfl hl (by decide) rfl (fun ls hl => ?_)
          refine lv_iload_n hx hb dL_isWell_137 rfl (lv_at hl 3 rfl) ?_
          refine lv_if_eq (tgt := 193) hx hb dL_isWell_138 (by decide) (fun c138 => ?_) (fun c138 => ?_)
          · exact absurd c138 (by decide)
          · refine lv_iload_n hx hb dL_isWell_141 rfl (lv_at hl 2 rfl) ?_
            refine lv_aload_n hx hb dL_isWell_142 rfl (lv_at hl 1 rfl) ?_
            refine f_VO (As := []) (rest := [.int (nI (m_xr c.1 8))]) C0 hE hl hP hD hS (o_sumOfAll l hfl D cY eS eO aa sa bp hB j c hj hc  ) (cwV 0 hts gL_isWell_X6_sumOfAll rfl rfl rfl (by decide +kernel) ⟨Nat.le_of_ble_eq_true rfl, Nat.le_of_ble_eq_true rfl⟩) dL_isWell_143 0 rfl rfl rfl rfl (Nat.le_of_ble_eq_true rfl) (Nat.le_of_ble_eq_true rfl) (Nat.le_of_ble_eq_true rfl) (fun _ => rfl) (fun r4 u H3 locs hw hP hD hS => ?_)
            try dsimp only at hw
            obtain rfl := hw
            have hP : va_P D vwCl (o_w cY aa sa bp j c) H3 := hP
            have hD : va_D A (o_w cY aa sa bp j c) := hD
            refine lv_icmp_ne (tgt := 193) hx hb dL_isWell_146 (by decide) (fun h => absurd (show nI (m_xr c.1 8) = nI (m_xr c.1 8) from rfl) h) (fun _ => ?_)
            refine lv_iload_n hx hb dL_isWell_149 rfl (lv_at hl 0 rfl) ?_
            refine lv_if_ge (tgt := 157) hx hb dL_isWell_150 (by decide) (fun c150 => ?_) (fun c150 => ?_)
            · have c150 := c150
              exfalso; exact absurd c150 (by decide)
            · have c150 := c150
              refine lv_iconst (v := nI 1) hx hb dL_isWell_153 (by decide) ?_
              refine lv_goto (tgt := 158) hx hb dL_isWell_154 (by decide) ?_
              refine lv_iload_n hx hb dL_isWell_158 rfl (lv_at hl 2 rfl) ?_
              refine lv_if_ne (tgt := 166) hx hb dL_isWell_159 (by decide) (fun h => absurd (show nI (m_xr c.1 8) = nI 0 from congrArg nI hs0) h) (fun _ => ?_)
              refine lv_iconst (v := nI 1) hx hb dL_isWell_162 (by decide) ?_
              refine lv_goto (tgt := 167) hx hb dL_isWell_163 (by decide) ?_
              refine lv_icmp_ne (tgt := 193) hx hb dL_isWell_167 (by decide) (fun c167 => ?_) (fun c167 => ?_)
              · exact absurd c167 (by decide)
              · refine lv_iload_n hx hb dL_isWell_170 rfl (lv_at hl 0 rfl) ?_
                refine lv_if_lt (tgt := 189) hx hb dL_isWell_171 (by decide) (fun c171 => ?_) (fun c171 => ?_)
                · have c171 := c171
                  refine lv_iconst (v := nI 1) hx hb dL_isWell_189 (by decide) ?_
                  refine lv_goto (tgt := 194) hx hb dL_isWell_190 (by decide) ?_
                  subst hQ
                  exact f_zret (by decide) (by decide) C0 (by decide) hS dL_isWell_194 (u := ()) hP (rfl)
                · have c171 := c171
                  exfalso; exact c171 (by decide)
        · skip
          refine lv_aload_n hx hb dL_isWell_132 rfl (lv_at hl 1 rfl) ?_
          have hxl := m_xr_lt hc.1.2 8
          refine f_VO (As := []) (rest := []) C0 hE hl hP hD hS (o_lessen l hfl D cY eS eO aa sa bp hB j c hj hc  ) (cwV 0 hts gL_isWell_X6_registerToLessen rfl rfl rfl (by decide +kernel) ⟨Nat.le_of_ble_eq_true rfl, Nat.le_of_ble_eq_true rfl⟩) dL_isWell_133 0 rfl rfl rfl rfl (Nat.le_of_ble_eq_true rfl) (Nat.le_of_ble_eq_true rfl) (Nat.le_of_ble_eq_true rfl) (fun _ => rfl) (fun r6 u H5 locs hw hP hD hS => ?_)
          try dsimp only at hw
          obtain rfl := hw
          have hP : va_P D vwCl (o_w cY aa sa bp j c) H5 := hP
          have hD : va_D A (o_w cY aa sa bp j c) := hD
          refine lv_topi (nm_r (hle) ?_)
          refine lv_istore_n (lv' := [(3, .int (nI i9)), (0, .ref (aa 0)), (1, .int (nI (m_xr c.1 8))), (2, .int (nI 1))]) hx hb dL_isWell_136 rfl hl (by decide) rfl (fun ls hl => ?_)
          refine lv_iload_n hx hb dL_isWell_137 rfl (lv_at hl 3 rfl) ?_
          refine lv_if_eq (tgt := 193) hx hb dL_isWell_138 (by decide) (fun c138 => ?_) (fun c138 => ?_)
          · exact absurd c138 (by decide)
          · refine lv_iload_n hx hb dL_isWell_141 rfl (lv_at hl 2 rfl) ?_
            refine lv_aload_n hx hb dL_isWell_142 rfl (lv_at hl 1 rfl) ?_
            refine f_VO (As := []) (rest := [.int (nI (m_xr c.1 8))]) C0 hE hl hP hD hS (o_sumOfAll l hfl D cY eS eO aa sa bp hB j c hj hc  ) (cwV 0 hts gL_isWell_X6_sumOfAll rfl rfl rfl (by decide +kernel) ⟨Nat.le_of_ble_eq_true rfl, Nat.le_of_ble_eq_true rfl⟩) dL_isWell_143 0 rfl rfl rfl rfl (Nat.le_of_ble_eq_true rfl) (Nat.le_of_ble_eq_true rfl) (Nat.le_of_ble_eq_true rfl) (fun _ => rfl) (fun r8 u H7 locs hw hP hD hS => ?_)
            try dsimp only at hw
            obtain rfl := hw
            have hP : va_P D vwCl (o_w cY aa sa bp j c) H7 := hP
            have hD : va_D A (o_w cY aa sa bp j c) := hD
            refine lv_icmp_ne (tgt := 193) hx hb dL_isWell_146 (by decide) (fun h => absurd (show nI (m_xr c.1 8) = nI (m_xr c.1 8) from rfl) h) (fun _ => ?_)
            refine lv_iload_n hx hb dL_isWell_149 rfl (lv_at hl 0 rfl) ?_
            refine lv_if_ge (tgt := 157) hx hb dL_isWell_150 (by decide) (fun c150 => ?_) (fun c150 => ?_)
            · have c150 : 0 ≤ i9 := (nI_leI (a := 0) (b := i9) (by first | omega | exact Nat.lt_of_le_of_lt Nat.and_le_right (by decide) | exact Nat.lt_trans (nm_lt _ _) (by decide) | exact Nat.lt_trans (np_lt _ _) (by decide) | exact Nat.lt_trans (p_at_lt htx) (by decide)) (by first | omega | exact Nat.lt_of_le_of_lt Nat.and_le_right (by decide) | exact Nat.lt_trans (nm_lt _ _) (by decide) | exact Nat.lt_trans (np_lt _ _) (by decide) | exact Nat.lt_trans (p_at_lt htx) (by decide))).mp c150
              refine lv_iconst (v := nI 0) hx hb dL_isWell_157 (by decide) ?_
              refine lv_iload_n hx hb dL_isWell_158 rfl (lv_at hl 2 rfl) ?_
              refine lv_if_ne (tgt := 166) hx hb dL_isWell_159 (by decide) (fun c159 => ?_) (fun c159 => ?_)
              · have c159 : ¬ ((m_xr c.1 8) = 0) := fun qq9 => c159 ((nI_eq (a := (m_xr c.1 8)) (b := 0) (by first | omega | exact Nat.lt_of_le_of_lt Nat.and_le_right (by decide) | exact Nat.lt_trans (nm_lt _ _) (by decide) | exact Nat.lt_trans (np_lt _ _) (by decide) | exact Nat.lt_trans (p_at_lt htx) (by decide)) (by first | omega | exact Nat.lt_of_le_of_lt Nat.and_le_right (by decide) | exact Nat.lt_trans (nm_lt _ _) (by decide) | exact Nat.lt_trans (np_lt _ _) (by decide) | exact Nat.lt_trans (p_at_lt htx) (by decide))).mpr qq9)
                refine lv_iconst (v := nI 0) hx hb dL_isWell_166 (by decide) ?_
                refine lv_icmp_ne (tgt := 193) hx hb dL_isWell_167 (by decide) (fun c167 => ?_) (fun c167 => ?_)
                · exact absurd c167 (by decide)
                · refine lv_iload_n hx hb dL_isWell_170 rfl (lv_at hl 0 rfl) ?_
                  refine lv_if_lt (tgt := 189) hx hb dL_isWell_171 (by decide) (fun c171 => ?_) (fun c171 => ?_)
                  · have c171 : i9 < 0 := (nI_ltI (a := i9) (b := 0) (by first | omega | exact Nat.lt_of_le_of_lt Nat.and_le_right (by decide) | exact Nat.lt_trans (nm_lt _ _) (by decide) | exact Nat.lt_trans (np_lt _ _) (by decide) | exact Nat.lt_trans (p_at_lt htx) (by decide)) (by first | omega | exact Nat.lt_of_le_of_lt Nat.and_le_right (by decide) | exact Nat.lt_trans (nm_lt _ _) (by decide) | exact Nat.lt_trans (np_lt _ _) (by decide) | exact Nat.lt_trans (p_at_lt htx) (by decide))).mp c171
                    exfalso; omega
                  · have c171 : ¬ (i9 < 0) := fun qq9 => c171 ((nI_ltI (a := i9) (b := 0) (by first | omega | exact Nat.lt_of_le_of_lt Nat.and_le_right (by decide) | exact Nat.lt_trans (nm_lt _ _) (by decide) | exact Nat.lt_trans (np_lt _ _) (by decide) | exact Nat.lt_trans (p_at_lt htx) (by decide)) (by first | omega | exact Nat.lt_of_le_of_lt Nat.and_le_right (by decide) | exact Nat.lt_trans (nm_lt _ _) (by decide) | exact Nat.lt_trans (np_lt _ _) (by decide) | exact Nat.lt_trans (p_at_lt htx) (by decide))).mpr qq9)
                    refine lv_aload_n hx hb dL_isWell_174 rfl (lv_at hl 1 rfl) ?_
                    refine lv_iload_n hx hb dL_isWell_175 rfl (lv_at hl 0 rfl) ?_
                    have hi16 := hc.1.2 i9
                    have hx16 := n_x16 hi16 hxl
                    refine f_TO (As := [.ref (aa 0), .int (nI i9)]) (rest := []) C0 hE hl hP hD hS (o_nimber l hfl D cY eS eO aa sa bp hB j c hj hc i9 (by first | assumption | omega | exact nm_lt _ _ | exact np_lt _ _ | exact q_s_lt _ | decide)) (vx_cwSW 2 hts gL_isWell_L_nimber rfl rfl rfl (by decide +kernel) ⟨Nat.le_of_ble_eq_true rfl, Nat.le_of_ble_eq_true rfl⟩) dL_isWell_176 rfl (Nat.le_of_ble_eq_true rfl) (Nat.le_of_ble_eq_true rfl) (Nat.le_of_ble_eq_true rfl) (fun _ => rfl) (fun r10 u H9 locs hw hP hD hS => ?_)
                    try dsimp only at hw
                    obtain rfl := hw
                    have hP : va_P D vwCl (o_w cY aa sa bp j c) H9 := hP
                    have hD : va_D A (o_w cY aa sa bp j c) := hD
                    refine lv_iload_n hx hb dL_isWell_179 rfl (lv_at hl 2 rfl) ?_
                    refine lv_ixor hx hb dL_isWell_180 ?_
                    refine lv_topi (nm_r (nx_xor _ _) ?_)
                    refine lv_aload_n hx hb dL_isWell_181 rfl (lv_at hl 1 rfl) ?_
                    refine lv_iload_n hx hb dL_isWell_182 rfl (lv_at hl 0 rfl) ?_
                    refine f_TO (As := [.ref (aa 0), .int (nI i9)]) (rest := [.int (nI ((c.1 i9) ^^^ (m_xr c.1 8)))]) C0 hE hl hP hD hS (o_nimber l hfl D cY eS eO aa sa bp hB j c hj hc i9 (by first | assumption | omega | exact nm_lt _ _ | exact np_lt _ _ | exact q_s_lt _ | decide)) (vx_cwSW 2 hts gL_isWell_L_nimber rfl rfl rfl (by decide +kernel) ⟨Nat.le_of_ble_eq_true rfl, Nat.le_of_ble_eq_true rfl⟩) dL_isWell_183 rfl (Nat.le_of_ble_eq_true rfl) (Nat.le_of_ble_eq_true rfl) (Nat.le_of_ble_eq_true rfl) (fun _ => rfl) (fun r12 u H11 locs hw hP hD hS => ?_)
                    try dsimp only at hw
                    obtain rfl := hw
                    have hP : va_P D vwCl (o_w cY aa sa bp j c) H11 := hP
                    have hD : va_D A (o_w cY aa sa bp j c) := hD
                    refine lv_icmp_ge (tgt := 193) hx hb dL_isWell_186 (by decide) (fun c186 => ?_) (fun c186 => ?_)
                    · have c186 : (c.1 i9) ≤ ((c.1 i9) ^^^ (m_xr c.1 8)) := (nI_leI (a := (c.1 i9)) (b := ((c.1 i9) ^^^ (m_xr c.1 8))) (by first | omega | exact Nat.lt_of_le_of_lt Nat.and_le_right (by decide) | exact Nat.lt_trans (nm_lt _ _) (by decide) | exact Nat.lt_trans (np_lt _ _) (by decide) | exact Nat.lt_trans (p_at_lt htx) (by decide)) (by first | omega | exact Nat.lt_of_le_of_lt Nat.and_le_right (by decide) | exact Nat.lt_trans (nm_lt _ _) (by decide) | exact Nat.lt_trans (np_lt _ _) (by decide) | exact Nat.lt_trans (p_at_lt htx) (by decide))).mp c186
                      exfalso; omega
                    · have c186 : ¬ ((c.1 i9) ≤ ((c.1 i9) ^^^ (m_xr c.1 8))) := fun qq9 => c186 ((nI_leI (a := (c.1 i9)) (b := ((c.1 i9) ^^^ (m_xr c.1 8))) (by first | omega | exact Nat.lt_of_le_of_lt Nat.and_le_right (by decide) | exact Nat.lt_trans (nm_lt _ _) (by decide) | exact Nat.lt_trans (np_lt _ _) (by decide) | exact Nat.lt_trans (p_at_lt htx) (by decide)) (by first | omega | exact Nat.lt_of_le_of_lt Nat.and_le_right (by decide) | exact Nat.lt_trans (nm_lt _ _) (by decide) | exact Nat.lt_trans (np_lt _ _) (by decide) | exact Nat.lt_trans (p_at_lt htx) (by decide))).mpr qq9)
                      refine lv_iconst (v := nI 1) hx hb dL_isWell_189 (by decide) ?_
                      refine lv_goto (tgt := 194) hx hb dL_isWell_190 (by decide) ?_
                      subst hQ
                      exact f_zret (by decide) (by decide) C0 (by decide) hS dL_isWell_194 (u := ()) hP (rfl)
              · have c159 : (m_xr c.1 8) = 0 := (nI_eq (a := (m_xr c.1 8)) (b := 0) (by first | omega | exact Nat.lt_of_le_of_lt Nat.and_le_right (by decide) | exact Nat.lt_trans (nm_lt _ _) (by decide) | exact Nat.lt_trans (np_lt _ _) (by decide) | exact Nat.lt_trans (p_at_lt htx) (by decide)) (by first | omega | exact Nat.lt_of_le_of_lt Nat.and_le_right (by decide) | exact Nat.lt_trans (nm_lt _ _) (by decide) | exact Nat.lt_trans (np_lt _ _) (by decide) | exact Nat.lt_trans (p_at_lt htx) (by decide))).mp c159
                exfalso; exact hs0 c159
            · have c150 : ¬ (0 ≤ i9) := fun qq9 => c150 ((nI_leI (a := 0) (b := i9) (by first | omega | exact Nat.lt_of_le_of_lt Nat.and_le_right (by decide) | exact Nat.lt_trans (nm_lt _ _) (by decide) | exact Nat.lt_trans (np_lt _ _) (by decide) | exact Nat.lt_trans (p_at_lt htx) (by decide)) (by first | omega | exact Nat.lt_of_le_of_lt Nat.and_le_right (by decide) | exact Nat.lt_trans (nm_lt _ _) (by decide) | exact Nat.lt_trans (np_lt _ _) (by decide) | exact Nat.lt_trans (p_at_lt htx) (by decide))).mpr qq9)
              exfalso; omega
      · have c9 : ¬ (8 ≤ k) := fun qq9 => c9 ((nI_leI (a := 8) (b := k) (by first | omega | exact Nat.lt_of_le_of_lt Nat.and_le_right (by decide) | exact Nat.lt_trans (nm_lt _ _) (by decide) | exact Nat.lt_trans (np_lt _ _) (by decide) | exact Nat.lt_trans (p_at_lt htx) (by decide)) (by first | omega | exact Nat.lt_of_le_of_lt Nat.and_le_right (by decide) | exact Nat.lt_trans (nm_lt _ _) (by decide) | exact Nat.lt_trans (np_lt _ _) (by decide) | exact Nat.lt_trans (p_at_lt htx) (by decide))).mpr qq9)
        refine lv_aload_n hx hb dL_isWell_12 rfl (lv_at hl 1 rfl) ?_
        refine lv_iload_n hx hb dL_isWell_13 rfl (lv_at hl 0 rfl) ?_
        refine f_TO (As := [.ref (aa 0), .int (nI k)]) (rest := []) C0 hE hl hP hD hS (o_nimber l hfl D cY eS eO aa sa bp hB j c hj hc k (by first | assumption | omega | exact nm_lt _ _ | exact np_lt _ _ | exact q_s_lt _ | decide)) (vx_cwSW 2 hts gL_isWell_L_nimber rfl rfl rfl (by decide +kernel) ⟨Nat.le_of_ble_eq_true rfl, Nat.le_of_ble_eq_true rfl⟩) dL_isWell_14 rfl (Nat.le_of_ble_eq_true rfl) (Nat.le_of_ble_eq_true rfl) (Nat.le_of_ble_eq_true rfl) (fun _ => rfl) (fun r14 u H13 locs hw hP hD hS => ?_)
        try dsimp only at hw
        obtain rfl := hw
        have hP : va_P D vwCl (o_w cY aa sa bp j c) H13 := hP
        have hD : va_D A (o_w cY aa sa bp j c) := hD
        have hck := hc.1.2 k
        refine lv_istore (lv' := [(4, .int (nI (c.1 k))), (3, .int (nI k)), (0, .ref (aa 0)), (1, .int (nI (m_xr c.1 k))), (2, .int (nI 1))]) hx hb dL_isWell_17 hl (by decide) rfl (fun ls hl => ?_)
        refine lv_iload_n hx hb dL_isWell_19 rfl (lv_at hl 3 rfl) ?_
        refine lv_iload hx hb dL_isWell_20 (lv_at hl 0 rfl) ?_
        refine lv_ixor hx hb dL_isWell_22 ?_
        refine lv_topi (nm_r (nx_xor _ _) ?_)
        refine lv_istore_n (lv' := [(1, .int (nI ((m_xr c.1 k) ^^^ (c.1 k)))), (4, .int (nI (c.1 k))), (3, .int (nI k)), (0, .ref (aa 0)), (2, .int (nI 1))]) hx hb dL_isWell_23 rfl hl (by decide) rfl (fun ls hl => ?_)
        refine lv_iload_n hx hb dL_isWell_24 rfl (lv_at hl 4 rfl) ?_
        refine lv_if_eq (tgt := 124) hx hb dL_isWell_25 (by decide) (fun c25 => ?_) (fun c25 => ?_)
        · exact absurd c25 (by decide)
        · refine lv_iload hx hb dL_isWell_28 (lv_at hl 1 rfl) ?_
          refine lv_if_lt (tgt := 124) hx hb dL_isWell_30 (by decide) (fun c30 => ?_) (fun c30 => ?_)
          · have c30 : (c.1 k) < 0 := (nI_ltI (a := (c.1 k)) (b := 0) (by first | omega | exact Nat.lt_of_le_of_lt Nat.and_le_right (by decide) | exact Nat.lt_trans (nm_lt _ _) (by decide) | exact Nat.lt_trans (np_lt _ _) (by decide) | exact Nat.lt_trans (p_at_lt htx) (by decide)) (by first | omega | exact Nat.lt_of_le_of_lt Nat.and_le_right (by decide) | exact Nat.lt_trans (nm_lt _ _) (by decide) | exact Nat.lt_trans (np_lt _ _) (by decide) | exact Nat.lt_trans (p_at_lt htx) (by decide))).mp c30
            exfalso; omega
          · have c30 : ¬ ((c.1 k) < 0) := fun qq9 => c30 ((nI_ltI (a := (c.1 k)) (b := 0) (by first | omega | exact Nat.lt_of_le_of_lt Nat.and_le_right (by decide) | exact Nat.lt_trans (nm_lt _ _) (by decide) | exact Nat.lt_trans (np_lt _ _) (by decide) | exact Nat.lt_trans (p_at_lt htx) (by decide)) (by first | omega | exact Nat.lt_of_le_of_lt Nat.and_le_right (by decide) | exact Nat.lt_trans (nm_lt _ _) (by decide) | exact Nat.lt_trans (np_lt _ _) (by decide) | exact Nat.lt_trans (p_at_lt htx) (by decide))).mpr qq9)
            refine lv_iload hx hb dL_isWell_33 (lv_at hl 1 rfl) ?_
            refine lv_ldc hx hb hown hwd0 dL_isWell_35 ?_
            refine lv_topi (nm_r (show ((65536 : Int32)) = nI 65536 from by decide) ?_)
            refine lv_icmp_ge (tgt := 124) hx hb dL_isWell_37 (by decide) (fun c37 => ?_) (fun c37 => ?_)
            · have c37 : 65536 ≤ (c.1 k) := (nI_leI (a := 65536) (b := (c.1 k)) (by first | omega | exact Nat.lt_of_le_of_lt Nat.and_le_right (by decide) | exact Nat.lt_trans (nm_lt _ _) (by decide) | exact Nat.lt_trans (np_lt _ _) (by decide) | exact Nat.lt_trans (p_at_lt htx) (by decide)) (by first | omega | exact Nat.lt_of_le_of_lt Nat.and_le_right (by decide) | exact Nat.lt_trans (nm_lt _ _) (by decide) | exact Nat.lt_trans (np_lt _ _) (by decide) | exact Nat.lt_trans (p_at_lt htx) (by decide))).mp c37
              exfalso; omega
            · have c37 : ¬ (65536 ≤ (c.1 k)) := fun qq9 => c37 ((nI_leI (a := 65536) (b := (c.1 k)) (by first | omega | exact Nat.lt_of_le_of_lt Nat.and_le_right (by decide) | exact Nat.lt_trans (nm_lt _ _) (by decide) | exact Nat.lt_trans (np_lt _ _) (by decide) | exact Nat.lt_trans (p_at_lt htx) (by decide)) (by first | omega | exact Nat.lt_of_le_of_lt Nat.and_le_right (by decide) | exact Nat.lt_trans (nm_lt _ _) (by decide) | exact Nat.lt_trans (np_lt _ _) (by decide) | exact Nat.lt_trans (p_at_lt htx) (by decide))).mpr qq9)
              refine lv_aload_n hx hb dL_isWell_40 rfl (lv_at hl 3 rfl) ?_
              refine lv_aload_n hx hb dL_isWell_41 rfl (lv_at hl 3 rfl) ?_
              refine lv_iload hx hb dL_isWell_42 (lv_at hl 1 rfl) ?_
              refine f_TO (As := [.ref (aa 0), .int (nI (c.1 k))]) (rest := [.ref (aa 0)]) C0 hE hl hP hD hS (o_root l hfl D cY eS eO aa sa bp hB j c hj hc (c.1 k) (by first | assumption | omega | exact nm_lt _ _ | exact np_lt _ _ | exact q_s_lt _ | decide)) (vx_cwSW 2 hts gL_isWell_L_root rfl rfl rfl (by decide +kernel) ⟨Nat.le_of_ble_eq_true rfl, Nat.le_of_ble_eq_true rfl⟩) dL_isWell_44 rfl (Nat.le_of_ble_eq_true rfl) (Nat.le_of_ble_eq_true rfl) (Nat.le_of_ble_eq_true rfl) (fun _ => rfl) (fun r16 u H15 locs hw hP hD hS => ?_)
              try dsimp only at hw
              obtain rfl := hw
              have hP : va_P D vwCl (o_w cY aa sa bp j c) H15 := hP
              have hD : va_D A (o_w cY aa sa bp j c) := hD
              refine f_SO (As := [.ref (aa 0), .int (nI (np (c.1 k) 32768))]) (rest := []) C0 hE hl hP hD hS (o_square l hfl D cY eS eO aa sa bp hB j c hj hc (np (c.1 k) 32768) (by first | assumption | omega | exact nm_lt _ _ | exact np_lt _ _ | exact q_s_lt _ | decide)) (va_cwS 2 hts gL_isWell_L_square rfl rfl rfl (by decide +kernel) ⟨Nat.le_of_ble_eq_true rfl, Nat.le_of_ble_eq_true rfl⟩) dL_isWell_47 rfl (Nat.le_of_ble_eq_true rfl) (Nat.le_of_ble_eq_true rfl) (Nat.le_of_ble_eq_true rfl) (fun _ => rfl) (fun r18 u H17 locs hw hP hD hS => ?_)
              try dsimp only at hw
              obtain rfl := hw
              have hP : va_P D vwCl (o_w cY aa sa bp j c) H17 := hP
              have hD : va_D A (o_w cY aa sa bp j c) := hD
              refine lv_iload hx hb dL_isWell_50 (lv_at hl 1 rfl) ?_
              refine lv_icmp_ne (tgt := 124) hx hb dL_isWell_52 (by decide) (fun h => absurd (show nI (q_s (np (c.1 k) 32768)) = nI (c.1 k) from congrArg nI (q_s_rt hck)) h) (fun _ => ?_)
              refine lv_iload hx hb dL_isWell_55 (lv_at hl 1 rfl) ?_
              refine lv_if_eq (tgt := 89) hx hb dL_isWell_57 (by decide) (fun c57 => ?_) (fun c57 => ?_)
              · have c57 : (c.1 k) = 0 := (nI_eq (a := (c.1 k)) (b := 0) (by first | omega | exact Nat.lt_of_le_of_lt Nat.and_le_right (by decide) | exact Nat.lt_trans (nm_lt _ _) (by decide) | exact Nat.lt_trans (np_lt _ _) (by decide) | exact Nat.lt_trans (p_at_lt htx) (by decide)) (by first | omega | exact Nat.lt_of_le_of_lt Nat.and_le_right (by decide) | exact Nat.lt_trans (nm_lt _ _) (by decide) | exact Nat.lt_trans (np_lt _ _) (by decide) | exact Nat.lt_trans (p_at_lt htx) (by decide))).mp c57
                rcases q_sol hck with ⟨htr, y, hy, esol, -⟩ | ⟨htr, esol⟩
                · skip
                  refine lv_aload_n hx hb dL_isWell_89 rfl (lv_at hl 3 rfl) ?_
                  refine lv_iload hx hb dL_isWell_90 (lv_at hl 1 rfl) ?_
                  have htl := q_tr_lt (x := c.1 k) 16
                  refine f_TO (As := [.ref (aa 0), .int (nI (c.1 k))]) (rest := []) C0 hE hl hP hD hS (o_trace l hfl D cY eS eO aa sa bp hB j c hj hc (c.1 k) (by first | assumption | omega | exact nm_lt _ _ | exact np_lt _ _ | exact q_s_lt _ | decide)) (vx_cwSW 2 hts gL_isWell_L_trace rfl rfl rfl (by decide +kernel) ⟨Nat.le_of_ble_eq_true rfl, Nat.le_of_ble_eq_true rfl⟩) dL_isWell_92 rfl (Nat.le_of_ble_eq_true rfl) (Nat.le_of_ble_eq_true rfl) (Nat.le_of_ble_eq_true rfl) (fun _ => rfl) (fun r20 u H19 locs hw hP hD hS => ?_)
                  try dsimp only at hw
                  obtain rfl := hw
                  have hP : va_P D vwCl (o_w cY aa sa bp j c) H19 := hP
                  have hD : va_D A (o_w cY aa sa bp j c) := hD
                  refine lv_topi (nm_r (congrArg nI htr) ?_)
                  refine lv_if_ne (tgt := 102) hx hb dL_isWell_95 (by decide) (fun c95 => ?_) (fun c95 => ?_)
                  · exact absurd c95 (by decide)
                  · refine lv_iconst (v := nI 1) hx hb dL_isWell_98 (by decide) ?_
                    refine lv_goto (tgt := 103) hx hb dL_isWell_99 (by decide) ?_
                    refine lv_aload_n hx hb dL_isWell_103 rfl (lv_at hl 3 rfl) ?_
                    refine lv_iload hx hb dL_isWell_104 (lv_at hl 1 rfl) ?_
                    refine f_TO (As := [.ref (aa 0), .int (nI (c.1 k))]) (rest := [.int (nI 1)]) C0 hE hl hP hD hS (o_solve l hfl D cY eS eO aa sa bp hB j c hj hc (c.1 k) (by first | assumption | omega | exact nm_lt _ _ | exact np_lt _ _ | exact q_s_lt _ | decide)) (vx_cwSW 2 hts gL_isWell_L_solve rfl rfl rfl (by decide +kernel) ⟨Nat.le_of_ble_eq_true rfl, Nat.le_of_ble_eq_true rfl⟩) dL_isWell_106 rfl (Nat.le_of_ble_eq_true rfl) (Nat.le_of_ble_eq_true rfl) (Nat.le_of_ble_eq_true rfl) (fun _ => rfl) (fun r22 u H21 locs hw hP hD hS => ?_)
                    try dsimp only at hw
                    obtain rfl := hw
                    have hP : va_P D vwCl (o_w cY aa sa bp j c) H21 := hP
                    have hD : va_D A (o_w cY aa sa bp j c) := hD
                    refine lv_topi (nm_r (esol) ?_)
                    refine lv_if_lt (tgt := 116) hx hb dL_isWell_109 (by decide) (fun c109 => ?_) (fun c109 => ?_)
                    · have c109 : y < 0 := (nI_ltI (a := y) (b := 0) (by first | omega | exact Nat.lt_of_le_of_lt Nat.and_le_right (by decide) | exact Nat.lt_trans (nm_lt _ _) (by decide) | exact Nat.lt_trans (np_lt _ _) (by decide) | exact Nat.lt_trans (p_at_lt htx) (by decide)) (by first | omega | exact Nat.lt_of_le_of_lt Nat.and_le_right (by decide) | exact Nat.lt_trans (nm_lt _ _) (by decide) | exact Nat.lt_trans (np_lt _ _) (by decide) | exact Nat.lt_trans (p_at_lt htx) (by decide))).mp c109
                      exfalso; omega
                    · have c109 : ¬ (y < 0) := fun qq9 => c109 ((nI_ltI (a := y) (b := 0) (by first | omega | exact Nat.lt_of_le_of_lt Nat.and_le_right (by decide) | exact Nat.lt_trans (nm_lt _ _) (by decide) | exact Nat.lt_trans (np_lt _ _) (by decide) | exact Nat.lt_trans (p_at_lt htx) (by decide)) (by first | omega | exact Nat.lt_of_le_of_lt Nat.and_le_right (by decide) | exact Nat.lt_trans (nm_lt _ _) (by decide) | exact Nat.lt_trans (np_lt _ _) (by decide) | exact Nat.lt_trans (p_at_lt htx) (by decide))).mpr qq9)
                      refine lv_iconst (v := nI 1) hx hb dL_isWell_112 (by decide) ?_
                      refine lv_goto (tgt := 117) hx hb dL_isWell_113 (by decide) ?_
                      refine lv_icmp_ne (tgt := 124) hx hb dL_isWell_117 (by decide) (fun c117 => ?_) (fun c117 => ?_)
                      · exact absurd c117 (by decide)
                      · refine lv_iconst (v := nI 1) hx hb dL_isWell_120 (by decide) ?_
                        refine lv_goto (tgt := 125) hx hb dL_isWell_121 (by decide) ?_
                        refine lv_istore_n (lv' := [(2, .int (nI 1)), (1, .int (nI ((m_xr c.1 k) ^^^ (c.1 k)))), (4, .int (nI (c.1 k))), (3, .int (nI k)), (0, .ref (aa 0))]) hx hb dL_isWell_125 rfl hl (by decide) rfl (fun ls hl => ?_)
                        refine lv_iinc (v := nI (k + 1)) (lv' := [(3, .int (nI (k + 1))), (2, .int (nI 1)), (1, .int (nI ((m_xr c.1 k) ^^^ (c.1 k)))), (4, .int (nI (c.1 k))), (0, .ref (aa 0))]) hx hb dL_isWell_126 hl (k := 3) rfl (nI_add _ 1) (by decide) rfl (fun ls hl => ?_)
                        refine lv_goto (tgt := 6) hx hb dL_isWell_129 (by decide) ?_
                        exact ih6 (k + 1) _ _ ls (by first | assumption | omega) (by omega) hP hD hS (lv_sub hl [0, 4, 2, 1] rfl)
                · skip
                  refine lv_aload_n hx hb dL_isWell_89 rfl (lv_at hl 3 rfl) ?_
                  refine lv_iload hx hb dL_isWell_90 (lv_at hl 1 rfl) ?_
                  have htl := q_tr_lt (x := c.1 k) 16
                  refine f_TO (As := [.ref (aa 0), .int (nI (c.1 k))]) (rest := []) C0 hE hl hP hD hS (o_trace l hfl D cY eS eO aa sa bp hB j c hj hc (c.1 k) (by first | assumption | omega | exact nm_lt _ _ | exact np_lt _ _ | exact q_s_lt _ | decide)) (vx_cwSW 2 hts gL_isWell_L_trace rfl rfl rfl (by decide +kernel) ⟨Nat.le_of_ble_eq_true rfl, Nat.le_of_ble_eq_true rfl⟩) dL_isWell_92 rfl (Nat.le_of_ble_eq_true rfl) (Nat.le_of_ble_eq_true rfl) (Nat.le_of_ble_eq_true rfl) (fun _ => rfl) (fun r24 u H23 locs hw hP hD hS => ?_)
                  try dsimp only at hw
                  obtain rfl := hw
                  have hP : va_P D vwCl (o_w cY aa sa bp j c) H23 := hP
                  have hD : va_D A (o_w cY aa sa bp j c) := hD
                  refine lv_if_ne (tgt := 102) hx hb dL_isWell_95 (by decide) (fun c95 => ?_) (fun c95 => ?_)
                  · have c95 : ¬ ((n_tr (c.1 k) 16) = 0) := fun qq9 => c95 ((nI_eq (a := (n_tr (c.1 k) 16)) (b := 0) (by first | omega | exact Nat.lt_of_le_of_lt Nat.and_le_right (by decide) | exact Nat.lt_trans (nm_lt _ _) (by decide) | exact Nat.lt_trans (np_lt _ _) (by decide) | exact Nat.lt_trans (p_at_lt htx) (by decide)) (by first | omega | exact Nat.lt_of_le_of_lt Nat.and_le_right (by decide) | exact Nat.lt_trans (nm_lt _ _) (by decide) | exact Nat.lt_trans (np_lt _ _) (by decide) | exact Nat.lt_trans (p_at_lt htx) (by decide))).mpr qq9)
                    refine lv_iconst (v := nI 0) hx hb dL_isWell_102 (by decide) ?_
                    refine lv_aload_n hx hb dL_isWell_103 rfl (lv_at hl 3 rfl) ?_
                    refine lv_iload hx hb dL_isWell_104 (lv_at hl 1 rfl) ?_
                    refine f_TO (As := [.ref (aa 0), .int (nI (c.1 k))]) (rest := [.int (nI 0)]) C0 hE hl hP hD hS (o_solve l hfl D cY eS eO aa sa bp hB j c hj hc (c.1 k) (by first | assumption | omega | exact nm_lt _ _ | exact np_lt _ _ | exact q_s_lt _ | decide)) (vx_cwSW 2 hts gL_isWell_L_solve rfl rfl rfl (by decide +kernel) ⟨Nat.le_of_ble_eq_true rfl, Nat.le_of_ble_eq_true rfl⟩) dL_isWell_106 rfl (Nat.le_of_ble_eq_true rfl) (Nat.le_of_ble_eq_true rfl) (Nat.le_of_ble_eq_true rfl) (fun _ => rfl) (fun r26 u H25 locs hw hP hD hS => ?_)
                    try dsimp only at hw
                    obtain rfl := hw
                    have hP : va_P D vwCl (o_w cY aa sa bp j c) H25 := hP
                    have hD : va_D A (o_w cY aa sa bp j c) := hD
                    refine lv_topi (nm_r (esol) ?_)
                    refine lv_if_lt (tgt := 116) hx hb dL_isWell_109 (by decide) (fun c109 => ?_) (fun c109 => ?_)
                    · have c109 := c109
                      refine lv_iconst (v := nI 0) hx hb dL_isWell_116 (by decide) ?_
                      refine lv_icmp_ne (tgt := 124) hx hb dL_isWell_117 (by decide) (fun c117 => ?_) (fun c117 => ?_)
                      · exact absurd c117 (by decide)
                      · refine lv_iconst (v := nI 1) hx hb dL_isWell_120 (by decide) ?_
                        refine lv_goto (tgt := 125) hx hb dL_isWell_121 (by decide) ?_
                        refine lv_istore_n (lv' := [(2, .int (nI 1)), (1, .int (nI ((m_xr c.1 k) ^^^ (c.1 k)))), (4, .int (nI (c.1 k))), (3, .int (nI k)), (0, .ref (aa 0))]) hx hb dL_isWell_125 rfl hl (by decide) rfl (fun ls hl => ?_)
                        refine lv_iinc (v := nI (k + 1)) (lv' := [(3, .int (nI (k + 1))), (2, .int (nI 1)), (1, .int (nI ((m_xr c.1 k) ^^^ (c.1 k)))), (4, .int (nI (c.1 k))), (0, .ref (aa 0))]) hx hb dL_isWell_126 hl (k := 3) rfl (nI_add _ 1) (by decide) rfl (fun ls hl => ?_)
                        refine lv_goto (tgt := 6) hx hb dL_isWell_129 (by decide) ?_
                        exact ih6 (k + 1) _ _ ls (by first | assumption | omega) (by omega) hP hD hS (lv_sub hl [0, 4, 2, 1] rfl)
                    · have c109 := c109
                      exfalso; exact c109 (by decide)
                  · have c95 : (n_tr (c.1 k) 16) = 0 := (nI_eq (a := (n_tr (c.1 k) 16)) (b := 0) (by first | omega | exact Nat.lt_of_le_of_lt Nat.and_le_right (by decide) | exact Nat.lt_trans (nm_lt _ _) (by decide) | exact Nat.lt_trans (np_lt _ _) (by decide) | exact Nat.lt_trans (p_at_lt htx) (by decide)) (by first | omega | exact Nat.lt_of_le_of_lt Nat.and_le_right (by decide) | exact Nat.lt_trans (nm_lt _ _) (by decide) | exact Nat.lt_trans (np_lt _ _) (by decide) | exact Nat.lt_trans (p_at_lt htx) (by decide))).mp c95
                    exfalso; exact htr c95
              · have c57 : ¬ ((c.1 k) = 0) := fun qq9 => c57 ((nI_eq (a := (c.1 k)) (b := 0) (by first | omega | exact Nat.lt_of_le_of_lt Nat.and_le_right (by decide) | exact Nat.lt_trans (nm_lt _ _) (by decide) | exact Nat.lt_trans (np_lt _ _) (by decide) | exact Nat.lt_trans (p_at_lt htx) (by decide)) (by first | omega | exact Nat.lt_of_le_of_lt Nat.and_le_right (by decide) | exact Nat.lt_trans (nm_lt _ _) (by decide) | exact Nat.lt_trans (np_lt _ _) (by decide) | exact Nat.lt_trans (p_at_lt htx) (by decide))).mpr qq9)
                refine lv_ldc hx hb hown hwd1 dL_isWell_60 ?_
                refine lv_topi (nm_r (show ((65535 : Int32)) = nI 65535 from by decide) ?_)
                refine lv_aload_n hx hb dL_isWell_62 rfl (lv_at hl 3 rfl) ?_
                refine lv_iload hx hb dL_isWell_63 (lv_at hl 1 rfl) ?_
                refine f_TO (As := [.ref (aa 0), .int (nI (c.1 k))]) (rest := [.int (nI 65535)]) C0 hE hl hP hD hS (o_order l hfl D cY eS eO aa sa bp hB j c hj hc (c.1 k) (by first | assumption | omega | exact nm_lt _ _ | exact np_lt _ _ | exact q_s_lt _ | decide)) (vx_cwSW 2 hts gL_isWell_L_order rfl rfl rfl (by decide +kernel) ⟨Nat.le_of_ble_eq_true rfl, Nat.le_of_ble_eq_true rfl⟩) dL_isWell_65 rfl (Nat.le_of_ble_eq_true rfl) (Nat.le_of_ble_eq_true rfl) (Nat.le_of_ble_eq_true rfl) (fun _ => rfl) (fun r28 u H27 locs hw hP hD hS => ?_)
                try dsimp only at hw
                obtain rfl := hw
                have hP : va_P D vwCl (o_w cY aa sa bp j c) H27 := hP
                have hD : va_D A (o_w cY aa sa bp j c) := hD
                obtain ⟨od, hod, hod0, hod1, hod2⟩ := q_ord_d c57
                refine lv_topi (nm_r (hod) ?_)
                refine lv_irem hx hb dL_isWell_68 (l_ne0 hod0 (by omega)) ?_
                refine lv_topi (nm_r (pk_rem (by omega) (by omega) (by omega)) ?_)
                refine lv_if_ne (tgt := 124) hx hb dL_isWell_69 (by decide) (fun h => absurd (show nI (65535 % od) = nI 0 from congrArg nI hod2) h) (fun _ => ?_)
                refine lv_aload_n hx hb dL_isWell_72 rfl (lv_at hl 3 rfl) ?_
                refine lv_iload hx hb dL_isWell_73 (lv_at hl 1 rfl) ?_
                refine lv_aload_n hx hb dL_isWell_75 rfl (lv_at hl 3 rfl) ?_
                refine lv_iconst (v := nI 1) hx hb dL_isWell_76 (by decide) ?_
                refine lv_iload hx hb dL_isWell_77 (lv_at hl 1 rfl) ?_
                refine f_TO (As := [.ref (aa 0), .int (nI 1), .int (nI (c.1 k))]) (rest := [.int (nI (c.1 k)), .ref (aa 0)]) C0 hE hl hP hD hS (o_quotient l hfl D cY eS eO aa sa bp hB j c hj hc 1 (c.1 k) (by first | assumption | omega | exact nm_lt _ _ | exact np_lt _ _ | exact q_s_lt _ | decide) (by first | assumption | omega | exact nm_lt _ _ | exact np_lt _ _ | exact q_s_lt _ | decide)) (vx_cwSW 3 hts gL_isWell_L_quotient rfl rfl rfl (by decide +kernel) ⟨Nat.le_of_ble_eq_true rfl, Nat.le_of_ble_eq_true rfl⟩) dL_isWell_79 rfl (Nat.le_of_ble_eq_true rfl) (Nat.le_of_ble_eq_true rfl) (Nat.le_of_ble_eq_true rfl) (fun _ => rfl) (fun r30 u H29 locs hw hP hD hS => ?_)
                try dsimp only at hw
                obtain rfl := hw
                have hP : va_P D vwCl (o_w cY aa sa bp j c) H29 := hP
                have hD : va_D A (o_w cY aa sa bp j c) := hD
                refine lv_topi (nm_r (show n_div 1 (c.1 k) = nI (np (c.1 k) 65534) from by rw [n_div, if_neg c57, nm_one (np_lt _ _)]) ?_)
                refine f_TO (As := [.ref (aa 0), .int (nI (c.1 k)), .int (nI (np (c.1 k) 65534))]) (rest := []) C0 hE hl hP hD hS (o_halves l hfl D cY eS eO aa sa bp hB j c hj hc (c.1 k) (np (c.1 k) 65534) (by first | assumption | omega | exact nm_lt _ _ | exact np_lt _ _ | exact q_s_lt _ | decide) (by first | assumption | omega | exact nm_lt _ _ | exact np_lt _ _ | exact q_s_lt _ | decide)) (vx_cwSW 3 hts gL_isWell_L_halves rfl rfl rfl (by decide +kernel) ⟨Nat.le_of_ble_eq_true rfl, Nat.le_of_ble_eq_true rfl⟩) dL_isWell_82 rfl (Nat.le_of_ble_eq_true rfl) (Nat.le_of_ble_eq_true rfl) (Nat.le_of_ble_eq_true rfl) (fun _ => rfl) (fun r32 u H31 locs hw hP hD hS => ?_)
                try dsimp only at hw
                obtain rfl := hw
                have hP : va_P D vwCl (o_w cY aa sa bp j c) H31 := hP
                have hD : va_D A (o_w cY aa sa bp j c) := hD
                refine lv_iconst (v := nI 1) hx hb dL_isWell_85 (by decide) ?_
                refine lv_icmp_ne (tgt := 124) hx hb dL_isWell_86 (by decide) (fun h => absurd (show nI (nm (c.1 k) (np (c.1 k) 65534)) = nI 1 from congrArg nI (q_inv hck c57)) h) (fun _ => ?_)
                rcases q_sol hck with ⟨htr, y, hy, esol, -⟩ | ⟨htr, esol⟩
                · skip
                  refine lv_aload_n hx hb dL_isWell_89 rfl (lv_at hl 3 rfl) ?_
                  refine lv_iload hx hb dL_isWell_90 (lv_at hl 1 rfl) ?_
                  have htl := q_tr_lt (x := c.1 k) 16
                  refine f_TO (As := [.ref (aa 0), .int (nI (c.1 k))]) (rest := []) C0 hE hl hP hD hS (o_trace l hfl D cY eS eO aa sa bp hB j c hj hc (c.1 k) (by first | assumption | omega | exact nm_lt _ _ | exact np_lt _ _ | exact q_s_lt _ | decide)) (vx_cwSW 2 hts gL_isWell_L_trace rfl rfl rfl (by decide +kernel) ⟨Nat.le_of_ble_eq_true rfl, Nat.le_of_ble_eq_true rfl⟩) dL_isWell_92 rfl (Nat.le_of_ble_eq_true rfl) (Nat.le_of_ble_eq_true rfl) (Nat.le_of_ble_eq_true rfl) (fun _ => rfl) (fun r34 u H33 locs hw hP hD hS => ?_)
                  try dsimp only at hw
                  obtain rfl := hw
                  have hP : va_P D vwCl (o_w cY aa sa bp j c) H33 := hP
                  have hD : va_D A (o_w cY aa sa bp j c) := hD
                  refine lv_topi (nm_r (congrArg nI htr) ?_)
                  refine lv_if_ne (tgt := 102) hx hb dL_isWell_95 (by decide) (fun c95 => ?_) (fun c95 => ?_)
                  · exact absurd c95 (by decide)
                  · refine lv_iconst (v := nI 1) hx hb dL_isWell_98 (by decide) ?_
                    refine lv_goto (tgt := 103) hx hb dL_isWell_99 (by decide) ?_
                    refine lv_aload_n hx hb dL_isWell_103 rfl (lv_at hl 3 rfl) ?_
                    refine lv_iload hx hb dL_isWell_104 (lv_at hl 1 rfl) ?_
                    refine f_TO (As := [.ref (aa 0), .int (nI (c.1 k))]) (rest := [.int (nI 1)]) C0 hE hl hP hD hS (o_solve l hfl D cY eS eO aa sa bp hB j c hj hc (c.1 k) (by first | assumption | omega | exact nm_lt _ _ | exact np_lt _ _ | exact q_s_lt _ | decide)) (vx_cwSW 2 hts gL_isWell_L_solve rfl rfl rfl (by decide +kernel) ⟨Nat.le_of_ble_eq_true rfl, Nat.le_of_ble_eq_true rfl⟩) dL_isWell_106 rfl (Nat.le_of_ble_eq_true rfl) (Nat.le_of_ble_eq_true rfl) (Nat.le_of_ble_eq_true rfl) (fun _ => rfl) (fun r36 u H35 locs hw hP hD hS => ?_)
                    try dsimp only at hw
                    obtain rfl := hw
                    have hP : va_P D vwCl (o_w cY aa sa bp j c) H35 := hP
                    have hD : va_D A (o_w cY aa sa bp j c) := hD
                    refine lv_topi (nm_r (esol) ?_)
                    refine lv_if_lt (tgt := 116) hx hb dL_isWell_109 (by decide) (fun c109 => ?_) (fun c109 => ?_)
                    · have c109 : y < 0 := (nI_ltI (a := y) (b := 0) (by first | omega | exact Nat.lt_of_le_of_lt Nat.and_le_right (by decide) | exact Nat.lt_trans (nm_lt _ _) (by decide) | exact Nat.lt_trans (np_lt _ _) (by decide) | exact Nat.lt_trans (p_at_lt htx) (by decide)) (by first | omega | exact Nat.lt_of_le_of_lt Nat.and_le_right (by decide) | exact Nat.lt_trans (nm_lt _ _) (by decide) | exact Nat.lt_trans (np_lt _ _) (by decide) | exact Nat.lt_trans (p_at_lt htx) (by decide))).mp c109
                      exfalso; omega
                    · have c109 : ¬ (y < 0) := fun qq9 => c109 ((nI_ltI (a := y) (b := 0) (by first | omega | exact Nat.lt_of_le_of_lt Nat.and_le_right (by decide) | exact Nat.lt_trans (nm_lt _ _) (by decide) | exact Nat.lt_trans (np_lt _ _) (by decide) | exact Nat.lt_trans (p_at_lt htx) (by decide)) (by first | omega | exact Nat.lt_of_le_of_lt Nat.and_le_right (by decide) | exact Nat.lt_trans (nm_lt _ _) (by decide) | exact Nat.lt_trans (np_lt _ _) (by decide) | exact Nat.lt_trans (p_at_lt htx) (by decide))).mpr qq9)
                      refine lv_iconst (v := nI 1) hx hb dL_isWell_112 (by decide) ?_
                      refine lv_goto (tgt := 117) hx hb dL_isWell_113 (by decide) ?_
                      refine lv_icmp_ne (tgt := 124) hx hb dL_isWell_117 (by decide) (fun c117 => ?_) (fun c117 => ?_)
                      · exact absurd c117 (by decide)
                      · refine lv_iconst (v := nI 1) hx hb dL_isWell_120 (by decide) ?_
                        refine lv_goto (tgt := 125) hx hb dL_isWell_121 (by decide) ?_
                        refine lv_istore_n (lv' := [(2, .int (nI 1)), (1, .int (nI ((m_xr c.1 k) ^^^ (c.1 k)))), (4, .int (nI (c.1 k))), (3, .int (nI k)), (0, .ref (aa 0))]) hx hb dL_isWell_125 rfl hl (by decide) rfl (fun ls hl => ?_)
                        refine lv_iinc (v := nI (k + 1)) (lv' := [(3, .int (nI (k + 1))), (2, .int (nI 1)), (1, .int (nI ((m_xr c.1 k) ^^^ (c.1 k)))), (4, .int (nI (c.1 k))), (0, .ref (aa 0))]) hx hb dL_isWell_126 hl (k := 3) rfl (nI_add _ 1) (by decide) rfl (fun ls hl => ?_)
                        refine lv_goto (tgt := 6) hx hb dL_isWell_129 (by decide) ?_
                        exact ih6 (k + 1) _ _ ls (by first | assumption | omega) (by omega) hP hD hS (lv_sub hl [0, 4, 2, 1] rfl)
                · skip
                  refine lv_aload_n hx hb dL_isWell_89 rfl (lv_at hl 3 rfl) ?_
                  refine lv_iload hx hb dL_isWell_90 (lv_at hl 1 rfl) ?_
                  have htl := q_tr_lt (x := c.1 k) 16
                  refine f_TO (As := [.ref (aa 0), .int (nI (c.1 k))]) (rest := []) C0 hE hl hP hD hS (o_trace l hfl D cY eS eO aa sa bp hB j c hj hc (c.1 k) (by first | assumption | omega | exact nm_lt _ _ | exact np_lt _ _ | exact q_s_lt _ | decide)) (vx_cwSW 2 hts gL_isWell_L_trace rfl rfl rfl (by decide +kernel) ⟨Nat.le_of_ble_eq_true rfl, Nat.le_of_ble_eq_true rfl⟩) dL_isWell_92 rfl (Nat.le_of_ble_eq_true rfl) (Nat.le_of_ble_eq_true rfl) (Nat.le_of_ble_eq_true rfl) (fun _ => rfl) (fun r38 u H37 locs hw hP hD hS => ?_)
                  try dsimp only at hw
                  obtain rfl := hw
                  have hP : va_P D vwCl (o_w cY aa sa bp j c) H37 := hP
                  have hD : va_D A (o_w cY aa sa bp j c) := hD
                  refine lv_if_ne (tgt := 102) hx hb dL_isWell_95 (by decide) (fun c95 => ?_) (fun c95 => ?_)
                  · have c95 : ¬ ((n_tr (c.1 k) 16) = 0) := fun qq9 => c95 ((nI_eq (a := (n_tr (c.1 k) 16)) (b := 0) (by first | omega | exact Nat.lt_of_le_of_lt Nat.and_le_right (by decide) | exact Nat.lt_trans (nm_lt _ _) (by decide) | exact Nat.lt_trans (np_lt _ _) (by decide) | exact Nat.lt_trans (p_at_lt htx) (by decide)) (by first | omega | exact Nat.lt_of_le_of_lt Nat.and_le_right (by decide) | exact Nat.lt_trans (nm_lt _ _) (by decide) | exact Nat.lt_trans (np_lt _ _) (by decide) | exact Nat.lt_trans (p_at_lt htx) (by decide))).mpr qq9)
                    refine lv_iconst (v := nI 0) hx hb dL_isWell_102 (by decide) ?_
                    refine lv_aload_n hx hb dL_isWell_103 rfl (lv_at hl 3 rfl) ?_
                    refine lv_iload hx hb dL_isWell_104 (lv_at hl 1 rfl) ?_
                    refine f_TO (As := [.ref (aa 0), .int (nI (c.1 k))]) (rest := [.int (nI 0)]) C0 hE hl hP hD hS (o_solve l hfl D cY eS eO aa sa bp hB j c hj hc (c.1 k) (by first | assumption | omega | exact nm_lt _ _ | exact np_lt _ _ | exact q_s_lt _ | decide)) (vx_cwSW 2 hts gL_isWell_L_solve rfl rfl rfl (by decide +kernel) ⟨Nat.le_of_ble_eq_true rfl, Nat.le_of_ble_eq_true rfl⟩) dL_isWell_106 rfl (Nat.le_of_ble_eq_true rfl) (Nat.le_of_ble_eq_true rfl) (Nat.le_of_ble_eq_true rfl) (fun _ => rfl) (fun r40 u H39 locs hw hP hD hS => ?_)
                    try dsimp only at hw
                    obtain rfl := hw
                    have hP : va_P D vwCl (o_w cY aa sa bp j c) H39 := hP
                    have hD : va_D A (o_w cY aa sa bp j c) := hD
                    refine lv_topi (nm_r (esol) ?_)
                    refine lv_if_lt (tgt := 116) hx hb dL_isWell_109 (by decide) (fun c109 => ?_) (fun c109 => ?_)
                    · have c109 := c109
                      refine lv_iconst (v := nI 0) hx hb dL_isWell_116 (by decide) ?_
                      refine lv_icmp_ne (tgt := 124) hx hb dL_isWell_117 (by decide) (fun c117 => ?_) (fun c117 => ?_)
                      · exact absurd c117 (by decide)
                      · refine lv_iconst (v := nI 1) hx hb dL_isWell_120 (by decide) ?_
                        refine lv_goto (tgt := 125) hx hb dL_isWell_121 (by decide) ?_
                        refine lv_istore_n (lv' := [(2, .int (nI 1)), (1, .int (nI ((m_xr c.1 k) ^^^ (c.1 k)))), (4, .int (nI (c.1 k))), (3, .int (nI k)), (0, .ref (aa 0))]) hx hb dL_isWell_125 rfl hl (by decide) rfl (fun ls hl => ?_)
                        refine lv_iinc (v := nI (k + 1)) (lv' := [(3, .int (nI (k + 1))), (2, .int (nI 1)), (1, .int (nI ((m_xr c.1 k) ^^^ (c.1 k)))), (4, .int (nI (c.1 k))), (0, .ref (aa 0))]) hx hb dL_isWell_126 hl (k := 3) rfl (nI_add _ 1) (by decide) rfl (fun ls hl => ?_)
                        refine lv_goto (tgt := 6) hx hb dL_isWell_129 (by decide) ?_
                        exact ih6 (k + 1) _ _ ls (by first | assumption | omega) (by omega) hP hD hS (lv_sub hl [0, 4, 2, 1] rfl)
                    · have c109 := c109
                      exfalso; exact c109 (by decide)
                  · have c95 : (n_tr (c.1 k) 16) = 0 := (nI_eq (a := (n_tr (c.1 k) 16)) (b := 0) (by first | omega | exact Nat.lt_of_le_of_lt Nat.and_le_right (by decide) | exact Nat.lt_trans (nm_lt _ _) (by decide) | exact Nat.lt_trans (np_lt _ _) (by decide) | exact Nat.lt_trans (p_at_lt htx) (by decide)) (by first | omega | exact Nat.lt_of_le_of_lt Nat.and_le_right (by decide) | exact Nat.lt_trans (nm_lt _ _) (by decide) | exact Nat.lt_trans (np_lt _ _) (by decide) | exact Nat.lt_trans (p_at_lt htx) (by decide))).mp c95
                    exfalso; exact htr c95
  exact lp6 _ 0 _ _ ls (by decide) (Nat.lt_succ_self _) hP hD hS (lv_sub hl [0, 3, 2, 1] rfl)
set_option maxHeartbeats 8000000 in
set_option maxRecDepth 100000 in
theorem o_areAlike (l : Launch) (hfl : l.stackTraces = false) (D : va_G) (cY : Nat → ClassId) (eS : Nat → Nat) (eO : Nat) (aa sa bp : Nat → Nat) (hB : n_bp bp) (ab sb bq : Nat → Nat) (hBp : n_bp bq) (j : oJ) (c : oC) (hj : o_J j) (hc : o_C c) (k9 : oJ) (d : oC) (hk9 : o_J k9) (hd : o_C d)  (hR : o_R c d) : m_Me l yL_areAlike wsL_areAlike 8 221 0 0 D cY eS eO [.ref (aa 0), .ref (ab 0)] (o_w cY aa sa bp j c ++ o_w cY ab sb bq k9 d) (fun (res : Int32) (u : Unit) => (res = nI 1)) (fun (u : Unit) => o_w cY aa sa bp j c ++ o_w cY ab sb bq k9 d) := by
  refine m_enterE (cc := cL_areAlike) (maxL := 7) (ret := (some .boolean)) (by decide +kernel) rfl (Nat.le_of_ble_eq_true rfl) ?_
  intro p e s m below meth cq A ls C0 hE hP hD hl
  obtain ⟨hx, hb, hr, hml, hts, hown, hlocks, hK, hA⟩ := id C0
  generalize hQ : MQ below _ _ s 0 0 A = Q
  have hS : va_S A s.heap s.heap [] := va_S.rf
  have hl : lv_has ls 7 [(0, .ref (aa 0)), (1, .ref (ab 0))] := hl
  refine lv_aload_n hx hb dL_areAlike_0 rfl (lv_at hl 0 rfl) ?_
  refine f_VL (As := []) (rest := []) C0 hE hl hP hD hS (o_products l hfl D cY eS eO aa sa bp hB j c hj hc  ) (cwV 0 hts gL_areAlike_X6_products rfl rfl rfl (by decide +kernel) ⟨Nat.le_of_ble_eq_true rfl, Nat.le_of_ble_eq_true rfl⟩) dL_areAlike_1 0 rfl rfl rfl rfl (Nat.le_of_ble_eq_true rfl) (Nat.le_of_ble_eq_true rfl) (Nat.le_of_ble_eq_true rfl) (fun _ => rfl) (fun r2 u H1 locs hw hP hD hS => ?_)
  try dsimp only at hw
  obtain rfl := hw
  have hP : va_P D vwCl (o_w cY aa sa bp j c ++ o_w cY ab sb bq k9 d) H1 := hP
  have hD : va_D A (o_w cY aa sa bp j c ++ o_w cY ab sb bq k9 d) := hD
  refine lv_aload_n hx hb dL_areAlike_4 rfl (lv_at hl 1 rfl) ?_
  refine f_VR (As := []) (rest := [.int (nI c.2.1)]) C0 hE hl hP hD hS (o_products l hfl D cY eS eO ab sb bq hBp k9 d hk9 hd  ) (cwV 0 hts gL_areAlike_X6_products rfl rfl rfl (by decide +kernel) ⟨Nat.le_of_ble_eq_true rfl, Nat.le_of_ble_eq_true rfl⟩) dL_areAlike_5 0 rfl rfl rfl rfl (Nat.le_of_ble_eq_true rfl) (Nat.le_of_ble_eq_true rfl) (Nat.le_of_ble_eq_true rfl) (fun _ => rfl) (fun r4 u H3 locs hw hP hD hS => ?_)
  try dsimp only at hw
  obtain rfl := hw
  have hP : va_P D vwCl (o_w cY aa sa bp j c ++ o_w cY ab sb bq k9 d) H3 := hP
  have hD : va_D A (o_w cY aa sa bp j c ++ o_w cY ab sb bq k9 d) := hD
  refine lv_icmp_ne (tgt := 68) hx hb dL_areAlike_8 (by decide) (fun h => absurd (show nI c.2.1 = nI d.2.1 from congrArg nI hR.2.1) h) (fun _ => ?_)
  refine lv_aload_n hx hb dL_areAlike_11 rfl (lv_at hl 0 rfl) ?_
  refine lv_aload_n hx hb dL_areAlike_12 rfl (lv_at hl 0 rfl) ?_
  refine f_VL (As := []) (rest := [.ref (aa 0)]) C0 hE hl hP hD hS (o_sumOfAll l hfl D cY eS eO aa sa bp hB j c hj hc  ) (cwV 0 hts gL_areAlike_X6_sumOfAll rfl rfl rfl (by decide +kernel) ⟨Nat.le_of_ble_eq_true rfl, Nat.le_of_ble_eq_true rfl⟩) dL_areAlike_13 0 rfl rfl rfl rfl (Nat.le_of_ble_eq_true rfl) (Nat.le_of_ble_eq_true rfl) (Nat.le_of_ble_eq_true rfl) (fun _ => rfl) (fun r6 u H5 locs hw hP hD hS => ?_)
  try dsimp only at hw
  obtain rfl := hw
  have hP : va_P D vwCl (o_w cY aa sa bp j c ++ o_w cY ab sb bq k9 d) H5 := hP
  have hD : va_D A (o_w cY aa sa bp j c ++ o_w cY ab sb bq k9 d) := hD
  refine f_SL (As := [.ref (aa 0), .int (nI (m_xr c.1 8))]) (rest := []) C0 hE hl hP hD hS (o_square l hfl D cY eS eO aa sa bp hB j c hj hc (m_xr c.1 8) (m_xr_lt hc.1.2 8)) (va_cwS 2 hts gL_areAlike_L_square rfl rfl rfl (by decide +kernel) ⟨Nat.le_of_ble_eq_true rfl, Nat.le_of_ble_eq_true rfl⟩) dL_areAlike_16 rfl (Nat.le_of_ble_eq_true rfl) (Nat.le_of_ble_eq_true rfl) (Nat.le_of_ble_eq_true rfl) (fun _ => rfl) (fun r8 u H7 locs hw hP hD hS => ?_)
  try dsimp only at hw
  obtain rfl := hw
  have hP : va_P D vwCl (o_w cY aa sa bp j c ++ o_w cY ab sb bq k9 d) H7 := hP
  have hD : va_D A (o_w cY aa sa bp j c ++ o_w cY ab sb bq k9 d) := hD
  refine lv_aload_n hx hb dL_areAlike_19 rfl (lv_at hl 1 rfl) ?_
  refine f_VR (As := []) (rest := [.int (nI (q_s (m_xr c.1 8)))]) C0 hE hl hP hD hS (o_sumOfAll l hfl D cY eS eO ab sb bq hBp k9 d hk9 hd  ) (cwV 0 hts gL_areAlike_X6_sumOfAll rfl rfl rfl (by decide +kernel) ⟨Nat.le_of_ble_eq_true rfl, Nat.le_of_ble_eq_true rfl⟩) dL_areAlike_20 0 rfl rfl rfl rfl (Nat.le_of_ble_eq_true rfl) (Nat.le_of_ble_eq_true rfl) (Nat.le_of_ble_eq_true rfl) (fun _ => rfl) (fun r10 u H9 locs hw hP hD hS => ?_)
  try dsimp only at hw
  obtain rfl := hw
  have hP : va_P D vwCl (o_w cY aa sa bp j c ++ o_w cY ab sb bq k9 d) H9 := hP
  have hD : va_D A (o_w cY aa sa bp j c ++ o_w cY ab sb bq k9 d) := hD
  refine lv_icmp_ne (tgt := 68) hx hb dL_areAlike_23 (by decide) (fun h => absurd (show nI (q_s (m_xr c.1 8)) = nI (m_xr d.1 8) from congrArg nI (q_xr hR.1).symm) h) (fun _ => ?_)
  refine lv_aload_n hx hb dL_areAlike_26 rfl (lv_at hl 0 rfl) ?_
  refine f_VL (As := []) (rest := []) C0 hE hl hP hD hS (o_recordedStates l hfl D cY eS eO aa sa bp hB j c hj hc  ) (cwV 0 hts gL_areAlike_X6_recordedStates rfl rfl rfl (by decide +kernel) ⟨Nat.le_of_ble_eq_true rfl, Nat.le_of_ble_eq_true rfl⟩) dL_areAlike_27 0 rfl rfl rfl rfl (Nat.le_of_ble_eq_true rfl) (Nat.le_of_ble_eq_true rfl) (Nat.le_of_ble_eq_true rfl) (fun _ => rfl) (fun r12 u H11 locs hw hP hD hS => ?_)
  try dsimp only at hw
  obtain rfl := hw
  have hP : va_P D vwCl (o_w cY aa sa bp j c ++ o_w cY ab sb bq k9 d) H11 := hP
  have hD : va_D A (o_w cY aa sa bp j c ++ o_w cY ab sb bq k9 d) := hD
  refine lv_aload_n hx hb dL_areAlike_30 rfl (lv_at hl 1 rfl) ?_
  refine f_VR (As := []) (rest := [.int (nI c.2.2.2.2.2.1)]) C0 hE hl hP hD hS (o_recordedStates l hfl D cY eS eO ab sb bq hBp k9 d hk9 hd  ) (cwV 0 hts gL_areAlike_X6_recordedStates rfl rfl rfl (by decide +kernel) ⟨Nat.le_of_ble_eq_true rfl, Nat.le_of_ble_eq_true rfl⟩) dL_areAlike_31 0 rfl rfl rfl rfl (Nat.le_of_ble_eq_true rfl) (Nat.le_of_ble_eq_true rfl) (Nat.le_of_ble_eq_true rfl) (fun _ => rfl) (fun r14 u H13 locs hw hP hD hS => ?_)
  try dsimp only at hw
  obtain rfl := hw
  have hP : va_P D vwCl (o_w cY aa sa bp j c ++ o_w cY ab sb bq k9 d) H13 := hP
  have hD : va_D A (o_w cY aa sa bp j c ++ o_w cY ab sb bq k9 d) := hD
  refine lv_icmp_ne (tgt := 68) hx hb dL_areAlike_34 (by decide) (fun h => absurd (show nI c.2.2.2.2.2.1 = nI d.2.2.2.2.2.1 from congrArg nI hR.2.2.2.2.2.1) h) (fun _ => ?_)
  rcases q_les2 hc.1.2 hR.1 with ⟨hle, hle2⟩ | ⟨i9, i8, hi9, hi8, hle, hle2⟩
  · skip
    refine lv_aload_n hx hb dL_areAlike_37 rfl (lv_at hl 0 rfl) ?_
    refine f_VL (As := []) (rest := []) C0 hE hl hP hD hS (o_lessen l hfl D cY eS eO aa sa bp hB j c hj hc  ) (cwV 0 hts gL_areAlike_X6_registerToLessen rfl rfl rfl (by decide +kernel) ⟨Nat.le_of_ble_eq_true rfl, Nat.le_of_ble_eq_true rfl⟩) dL_areAlike_38 0 rfl rfl rfl rfl (Nat.le_of_ble_eq_true rfl) (Nat.le_of_ble_eq_true rfl) (Nat.le_of_ble_eq_true rfl) (fun _ => rfl) (fun r16 u H15 locs hw hP hD hS => ?_)
    try dsimp only at hw
    obtain rfl := hw
    have hP : va_P D vwCl (o_w cY aa sa bp j c ++ o_w cY ab sb bq k9 d) H15 := hP
    have hD : va_D A (o_w cY aa sa bp j c ++ o_w cY ab sb bq k9 d) := hD
    refine lv_topi (nm_r (hle) ?_)
    refine lv_if_ge (tgt := 48) hx hb dL_areAlike_41 (by decide) (fun c41 => ?_) (fun c41 => ?_)
    · have c41 := c41
      exfalso; exact absurd c41 (by decide)
    · have c41 := c41
      refine lv_iconst (v := nI 1) hx hb dL_areAlike_44 (by decide) ?_
      refine lv_goto (tgt := 49) hx hb dL_areAlike_45 (by decide) ?_
      refine lv_aload_n hx hb dL_areAlike_49 rfl (lv_at hl 1 rfl) ?_
      refine f_VR (As := []) (rest := [.int (nI 1)]) C0 hE hl hP hD hS (o_lessen l hfl D cY eS eO ab sb bq hBp k9 d hk9 hd  ) (cwV 0 hts gL_areAlike_X6_registerToLessen rfl rfl rfl (by decide +kernel) ⟨Nat.le_of_ble_eq_true rfl, Nat.le_of_ble_eq_true rfl⟩) dL_areAlike_50 0 rfl rfl rfl rfl (Nat.le_of_ble_eq_true rfl) (Nat.le_of_ble_eq_true rfl) (Nat.le_of_ble_eq_true rfl) (fun _ => rfl) (fun r18 u H17 locs hw hP hD hS => ?_)
      try dsimp only at hw
      obtain rfl := hw
      have hP : va_P D vwCl (o_w cY aa sa bp j c ++ o_w cY ab sb bq k9 d) H17 := hP
      have hD : va_D A (o_w cY aa sa bp j c ++ o_w cY ab sb bq k9 d) := hD
      refine lv_topi (nm_r (hle2) ?_)
      refine lv_if_ge (tgt := 60) hx hb dL_areAlike_53 (by decide) (fun c53 => ?_) (fun c53 => ?_)
      · have c53 := c53
        exfalso; exact absurd c53 (by decide)
      · have c53 := c53
        refine lv_iconst (v := nI 1) hx hb dL_areAlike_56 (by decide) ?_
        refine lv_goto (tgt := 61) hx hb dL_areAlike_57 (by decide) ?_
        refine lv_icmp_ne (tgt := 68) hx hb dL_areAlike_61 (by decide) (fun c61 => ?_) (fun c61 => ?_)
        · exact absurd c61 (by decide)
        · refine lv_iconst (v := nI 1) hx hb dL_areAlike_64 (by decide) ?_
          refine lv_goto (tgt := 69) hx hb dL_areAlike_65 (by decide) ?_
          refine lv_istore_n (lv' := [(2, .int (nI 1)), (0, .ref (aa 0)), (1, .ref (ab 0))]) hx hb dL_areAlike_69 rfl hl (by decide) rfl (fun ls hl => ?_)
          refine lv_iconst (v := nI 0) hx hb dL_areAlike_70 (by decide) ?_
          refine lv_istore_n (lv' := [(3, .int (nI 0)), (2, .int (nI 1)), (0, .ref (aa 0)), (1, .ref (ab 0))]) hx hb dL_areAlike_71 rfl hl (by decide) rfl (fun ls hl => ?_)
          have lp72 : ∀ (nn : Nat) (k : Nat) (H : Heap) (locs : List Loc) (ls : Array Slot), (k ≤ 8) → 8 - k < nn → va_P D vwCl (o_w cY aa sa bp j c ++ o_w cY ab sb bq k9 d) H → va_D A (o_w cY aa sa bp j c ++ o_w cY ab sb bq k9 d) → va_S A s.heap H locs → lv_has ls 7 [(3, .int (nI k)), (0, .ref (aa 0)), (1, .ref (ab 0)), (2, .int (nI 1))] → W p l e { frames := 8, cells := 0, slots := 0, locals := 221 } s m ([.ref (aa 0), .ref (ab 0)] : List Value).toArray below meth cq H locs 0 0 Q (F0 m 72 ls []) := by
            intro nn
            induction nn with
            | zero => intros; omega
            | succ nn ih72 =>
              intro k H locs ls hkk hmz hP hD hS hl
              refine lv_iload_n hx hb dL_areAlike_72 rfl (lv_at hl 0 rfl) ?_
              refine lv_bipush (v := nI 8) hx hb dL_areAlike_73 (by decide) ?_
              refine lv_icmp_ge (tgt := 222) hx hb dL_areAlike_75 (by decide) (fun c75 => ?_) (fun c75 => ?_)
              · have c75 : 8 ≤ k := (nI_leI (a := 8) (b := k) (by first | omega | exact Nat.lt_of_le_of_lt Nat.and_le_right (by decide) | exact Nat.lt_trans (nm_lt _ _) (by decide) | exact Nat.lt_trans (np_lt _ _) (by decide) | exact Nat.lt_trans (p_at_lt htx) (by decide)) (by first | omega | exact Nat.lt_of_le_of_lt Nat.and_le_right (by decide) | exact Nat.lt_trans (nm_lt _ _) (by decide) | exact Nat.lt_trans (np_lt _ _) (by decide) | exact Nat.lt_trans (p_at_lt htx) (by decide))).mp c75
                refine lv_iload_n hx hb dL_areAlike_222 rfl (lv_at hl 3 rfl) ?_
                subst hQ
                exact f_zret (by decide) (by decide) C0 (by decide) hS dL_areAlike_223 (u := ()) hP (rfl)
              · have c75 : ¬ (8 ≤ k) := fun qq9 => c75 ((nI_leI (a := 8) (b := k) (by first | omega | exact Nat.lt_of_le_of_lt Nat.and_le_right (by decide) | exact Nat.lt_trans (nm_lt _ _) (by decide) | exact Nat.lt_trans (np_lt _ _) (by decide) | exact Nat.lt_trans (p_at_lt htx) (by decide)) (by first | omega | exact Nat.lt_of_le_of_lt Nat.and_le_right (by decide) | exact Nat.lt_trans (nm_lt _ _) (by decide) | exact Nat.lt_trans (np_lt _ _) (by decide) | exact Nat.lt_trans (p_at_lt htx) (by decide))).mpr qq9)
                have hk : k < 8 := by omega
                have hck := hc.1.2 k
                refine lv_aload_n hx hb dL_areAlike_78 rfl (lv_at hl 1 rfl) ?_
                refine lv_iload_n hx hb dL_areAlike_79 rfl (lv_at hl 0 rfl) ?_
                refine f_TL (As := [.ref (aa 0), .int (nI k)]) (rest := []) C0 hE hl hP hD hS (o_nimber l hfl D cY eS eO aa sa bp hB j c hj hc k (by first | assumption | omega | exact nm_lt _ _ | exact np_lt _ _ | exact q_s_lt _ | decide)) (vx_cwSW 2 hts gL_areAlike_L_nimber rfl rfl rfl (by decide +kernel) ⟨Nat.le_of_ble_eq_true rfl, Nat.le_of_ble_eq_true rfl⟩) dL_areAlike_80 rfl (Nat.le_of_ble_eq_true rfl) (Nat.le_of_ble_eq_true rfl) (Nat.le_of_ble_eq_true rfl) (fun _ => rfl) (fun r20 u H19 locs hw hP hD hS => ?_)
                try dsimp only at hw
                obtain rfl := hw
                have hP : va_P D vwCl (o_w cY aa sa bp j c ++ o_w cY ab sb bq k9 d) H19 := hP
                have hD : va_D A (o_w cY aa sa bp j c ++ o_w cY ab sb bq k9 d) := hD
                refine lv_istore (lv' := [(4, .int (nI (c.1 k))), (3, .int (nI k)), (0, .ref (aa 0)), (1, .ref (ab 0)), (2, .int (nI 1))]) hx hb dL_areAlike_83 hl (by decide) rfl (fun ls hl => ?_)
                refine lv_aload_n hx hb dL_areAlike_85 rfl (lv_at hl 3 rfl) ?_
                refine lv_bipush (v := nI 7) hx hb dL_areAlike_86 (by decide) ?_
                refine lv_iload_n hx hb dL_areAlike_88 rfl (lv_at hl 1 rfl) ?_
                refine lv_isub hx hb dL_areAlike_89 ?_
                refine lv_topi (nm_r (pk_sub (by omega)) ?_)
                refine f_TR (As := [.ref (ab 0), .int (nI (7 - k))]) (rest := []) C0 hE hl hP hD hS (o_nimber l hfl D cY eS eO ab sb bq hBp k9 d hk9 hd (7 - k) (by first | assumption | omega | exact nm_lt _ _ | exact np_lt _ _ | exact q_s_lt _ | decide)) (vx_cwSW 2 hts gL_areAlike_L_nimber rfl rfl rfl (by decide +kernel) ⟨Nat.le_of_ble_eq_true rfl, Nat.le_of_ble_eq_true rfl⟩) dL_areAlike_90 rfl (Nat.le_of_ble_eq_true rfl) (Nat.le_of_ble_eq_true rfl) (Nat.le_of_ble_eq_true rfl) (fun _ => rfl) (fun r22 u H21 locs hw hP hD hS => ?_)
                try dsimp only at hw
                obtain rfl := hw
                have hP : va_P D vwCl (o_w cY aa sa bp j c ++ o_w cY ab sb bq k9 d) H21 := hP
                have hD : va_D A (o_w cY aa sa bp j c ++ o_w cY ab sb bq k9 d) := hD
                refine lv_topi (nm_r (congrArg nI (hR.1 k hk)) ?_)
                refine lv_istore (lv' := [(5, .int (nI (q_s (c.1 k)))), (4, .int (nI (c.1 k))), (3, .int (nI k)), (0, .ref (aa 0)), (1, .ref (ab 0)), (2, .int (nI 1))]) hx hb dL_areAlike_93 hl (by decide) rfl (fun ls hl => ?_)
                rcases q_sol_s hck with ⟨eso, esp⟩ | ⟨y, z, hy, hz, eso, esp, hzy⟩
                · skip
                  refine lv_aload_n hx hb dL_areAlike_95 rfl (lv_at hl 3 rfl) ?_
                  refine lv_iload hx hb dL_areAlike_96 (lv_at hl 1 rfl) ?_
                  refine f_TL (As := [.ref (aa 0), .int (nI (c.1 k))]) (rest := []) C0 hE hl hP hD hS (o_solve l hfl D cY eS eO aa sa bp hB j c hj hc (c.1 k) (by first | assumption | omega | exact nm_lt _ _ | exact np_lt _ _ | exact q_s_lt _ | decide)) (vx_cwSW 2 hts gL_areAlike_L_solve rfl rfl rfl (by decide +kernel) ⟨Nat.le_of_ble_eq_true rfl, Nat.le_of_ble_eq_true rfl⟩) dL_areAlike_98 rfl (Nat.le_of_ble_eq_true rfl) (Nat.le_of_ble_eq_true rfl) (Nat.le_of_ble_eq_true rfl) (fun _ => rfl) (fun r24 u H23 locs hw hP hD hS => ?_)
                  try dsimp only at hw
                  obtain rfl := hw
                  have hP : va_P D vwCl (o_w cY aa sa bp j c ++ o_w cY ab sb bq k9 d) H23 := hP
                  have hD : va_D A (o_w cY aa sa bp j c ++ o_w cY ab sb bq k9 d) := hD
                  refine lv_topi (nm_r (eso) ?_)
                  refine lv_istore (lv' := [(6, .int (-1)), (5, .int (nI (q_s (c.1 k)))), (4, .int (nI (c.1 k))), (3, .int (nI k)), (0, .ref (aa 0)), (1, .ref (ab 0)), (2, .int (nI 1))]) hx hb dL_areAlike_101 hl (by decide) rfl (fun ls hl => ?_)
                  refine lv_iload_n hx hb dL_areAlike_103 rfl (lv_at hl 6 rfl) ?_
                  refine lv_if_eq (tgt := 214) hx hb dL_areAlike_104 (by decide) (fun c104 => ?_) (fun c104 => ?_)
                  · exact absurd c104 (by decide)
                  · refine lv_aload_n hx hb dL_areAlike_107 rfl (lv_at hl 4 rfl) ?_
                    refine lv_iload hx hb dL_areAlike_108 (lv_at hl 2 rfl) ?_
                    refine f_SL (As := [.ref (aa 0), .int (nI (c.1 k))]) (rest := []) C0 hE hl hP hD hS (o_square l hfl D cY eS eO aa sa bp hB j c hj hc (c.1 k) (by first | assumption | omega | exact nm_lt _ _ | exact np_lt _ _ | exact q_s_lt _ | decide)) (va_cwS 2 hts gL_areAlike_L_square rfl rfl rfl (by decide +kernel) ⟨Nat.le_of_ble_eq_true rfl, Nat.le_of_ble_eq_true rfl⟩) dL_areAlike_110 rfl (Nat.le_of_ble_eq_true rfl) (Nat.le_of_ble_eq_true rfl) (Nat.le_of_ble_eq_true rfl) (fun _ => rfl) (fun r26 u H25 locs hw hP hD hS => ?_)
                    try dsimp only at hw
                    obtain rfl := hw
                    have hP : va_P D vwCl (o_w cY aa sa bp j c ++ o_w cY ab sb bq k9 d) H25 := hP
                    have hD : va_D A (o_w cY aa sa bp j c ++ o_w cY ab sb bq k9 d) := hD
                    refine lv_iload hx hb dL_areAlike_113 (lv_at hl 1 rfl) ?_
                    refine lv_icmp_ne (tgt := 214) hx hb dL_areAlike_115 (by decide) (fun h => absurd (show nI (q_s (c.1 k)) = nI (q_s (c.1 k)) from rfl) h) (fun _ => ?_)
                    refine lv_aload_n hx hb dL_areAlike_118 rfl (lv_at hl 5 rfl) ?_
                    refine lv_iload hx hb dL_areAlike_119 (lv_at hl 1 rfl) ?_
                    refine f_TR (As := [.ref (ab 0), .int (nI (q_s (c.1 k)))]) (rest := []) C0 hE hl hP hD hS (o_root l hfl D cY eS eO ab sb bq hBp k9 d hk9 hd (q_s (c.1 k)) (by first | assumption | omega | exact nm_lt _ _ | exact np_lt _ _ | exact q_s_lt _ | decide)) (vx_cwSW 2 hts gL_areAlike_L_root rfl rfl rfl (by decide +kernel) ⟨Nat.le_of_ble_eq_true rfl, Nat.le_of_ble_eq_true rfl⟩) dL_areAlike_121 rfl (Nat.le_of_ble_eq_true rfl) (Nat.le_of_ble_eq_true rfl) (Nat.le_of_ble_eq_true rfl) (fun _ => rfl) (fun r28 u H27 locs hw hP hD hS => ?_)
                    try dsimp only at hw
                    obtain rfl := hw
                    have hP : va_P D vwCl (o_w cY aa sa bp j c ++ o_w cY ab sb bq k9 d) H27 := hP
                    have hD : va_D A (o_w cY aa sa bp j c ++ o_w cY ab sb bq k9 d) := hD
                    refine lv_iload hx hb dL_areAlike_124 (lv_at hl 2 rfl) ?_
                    refine lv_icmp_ne (tgt := 214) hx hb dL_areAlike_126 (by decide) (fun h => absurd (show nI (np (q_s (c.1 k)) 32768) = nI (c.1 k) from congrArg nI (q_rt hck)) h) (fun _ => ?_)
                    refine lv_aload_n hx hb dL_areAlike_129 rfl (lv_at hl 4 rfl) ?_
                    refine lv_iload hx hb dL_areAlike_130 (lv_at hl 2 rfl) ?_
                    refine f_TL (As := [.ref (aa 0), .int (nI (c.1 k))]) (rest := []) C0 hE hl hP hD hS (o_field l hfl D cY eS eO aa sa bp hB j c hj hc (c.1 k) (by first | assumption | omega | exact nm_lt _ _ | exact np_lt _ _ | exact q_s_lt _ | decide)) (vx_cwSW 2 hts gL_areAlike_L_field rfl rfl rfl (by decide +kernel) ⟨Nat.le_of_ble_eq_true rfl, Nat.le_of_ble_eq_true rfl⟩) dL_areAlike_132 rfl (Nat.le_of_ble_eq_true rfl) (Nat.le_of_ble_eq_true rfl) (Nat.le_of_ble_eq_true rfl) (fun _ => rfl) (fun r30 u H29 locs hw hP hD hS => ?_)
                    try dsimp only at hw
                    obtain rfl := hw
                    have hP : va_P D vwCl (o_w cY aa sa bp j c ++ o_w cY ab sb bq k9 d) H29 := hP
                    have hD : va_D A (o_w cY aa sa bp j c ++ o_w cY ab sb bq k9 d) := hD
                    refine lv_aload_n hx hb dL_areAlike_135 rfl (lv_at hl 5 rfl) ?_
                    refine lv_iload hx hb dL_areAlike_136 (lv_at hl 1 rfl) ?_
                    refine f_TR (As := [.ref (ab 0), .int (nI (q_s (c.1 k)))]) (rest := [.int (nI (n_fld (c.1 k)))]) C0 hE hl hP hD hS (o_field l hfl D cY eS eO ab sb bq hBp k9 d hk9 hd (q_s (c.1 k)) (by first | assumption | omega | exact nm_lt _ _ | exact np_lt _ _ | exact q_s_lt _ | decide)) (vx_cwSW 2 hts gL_areAlike_L_field rfl rfl rfl (by decide +kernel) ⟨Nat.le_of_ble_eq_true rfl, Nat.le_of_ble_eq_true rfl⟩) dL_areAlike_138 rfl (Nat.le_of_ble_eq_true rfl) (Nat.le_of_ble_eq_true rfl) (Nat.le_of_ble_eq_true rfl) (fun _ => rfl) (fun r32 u H31 locs hw hP hD hS => ?_)
                    try dsimp only at hw
                    obtain rfl := hw
                    have hP : va_P D vwCl (o_w cY aa sa bp j c ++ o_w cY ab sb bq k9 d) H31 := hP
                    have hD : va_D A (o_w cY aa sa bp j c ++ o_w cY ab sb bq k9 d) := hD
                    refine lv_icmp_ne (tgt := 214) hx hb dL_areAlike_141 (by decide) (fun h => absurd (show nI (n_fld (c.1 k)) = nI (n_fld (q_s (c.1 k))) from congrArg nI (q_fld hck).symm) h) (fun _ => ?_)
                    refine lv_aload_n hx hb dL_areAlike_144 rfl (lv_at hl 4 rfl) ?_
                    refine lv_iload hx hb dL_areAlike_145 (lv_at hl 2 rfl) ?_
                    refine f_TL (As := [.ref (aa 0), .int (nI (c.1 k))]) (rest := []) C0 hE hl hP hD hS (o_order l hfl D cY eS eO aa sa bp hB j c hj hc (c.1 k) (by first | assumption | omega | exact nm_lt _ _ | exact np_lt _ _ | exact q_s_lt _ | decide)) (vx_cwSW 2 hts gL_areAlike_L_order rfl rfl rfl (by decide +kernel) ⟨Nat.le_of_ble_eq_true rfl, Nat.le_of_ble_eq_true rfl⟩) dL_areAlike_147 rfl (Nat.le_of_ble_eq_true rfl) (Nat.le_of_ble_eq_true rfl) (Nat.le_of_ble_eq_true rfl) (fun _ => rfl) (fun r34 u H33 locs hw hP hD hS => ?_)
                    try dsimp only at hw
                    obtain rfl := hw
                    have hP : va_P D vwCl (o_w cY aa sa bp j c ++ o_w cY ab sb bq k9 d) H33 := hP
                    have hD : va_D A (o_w cY aa sa bp j c ++ o_w cY ab sb bq k9 d) := hD
                    refine lv_aload_n hx hb dL_areAlike_150 rfl (lv_at hl 5 rfl) ?_
                    refine lv_iload hx hb dL_areAlike_151 (lv_at hl 1 rfl) ?_
                    refine f_TR (As := [.ref (ab 0), .int (nI (q_s (c.1 k)))]) (rest := [.int (n_ord (c.1 k))]) C0 hE hl hP hD hS (o_order l hfl D cY eS eO ab sb bq hBp k9 d hk9 hd (q_s (c.1 k)) (by first | assumption | omega | exact nm_lt _ _ | exact np_lt _ _ | exact q_s_lt _ | decide)) (vx_cwSW 2 hts gL_areAlike_L_order rfl rfl rfl (by decide +kernel) ⟨Nat.le_of_ble_eq_true rfl, Nat.le_of_ble_eq_true rfl⟩) dL_areAlike_153 rfl (Nat.le_of_ble_eq_true rfl) (Nat.le_of_ble_eq_true rfl) (Nat.le_of_ble_eq_true rfl) (fun _ => rfl) (fun r36 u H35 locs hw hP hD hS => ?_)
                    try dsimp only at hw
                    obtain rfl := hw
                    have hP : va_P D vwCl (o_w cY aa sa bp j c ++ o_w cY ab sb bq k9 d) H35 := hP
                    have hD : va_D A (o_w cY aa sa bp j c ++ o_w cY ab sb bq k9 d) := hD
                    refine lv_icmp_ne (tgt := 214) hx hb dL_areAlike_156 (by decide) (fun h => absurd (show n_ord (c.1 k) = n_ord (q_s (c.1 k)) from (q_ord hck).symm) h) (fun _ => ?_)
                    refine lv_aload_n hx hb dL_areAlike_159 rfl (lv_at hl 4 rfl) ?_
                    refine lv_iload hx hb dL_areAlike_160 (lv_at hl 2 rfl) ?_
                    refine f_TL (As := [.ref (aa 0), .int (nI (c.1 k))]) (rest := []) C0 hE hl hP hD hS (o_trace l hfl D cY eS eO aa sa bp hB j c hj hc (c.1 k) (by first | assumption | omega | exact nm_lt _ _ | exact np_lt _ _ | exact q_s_lt _ | decide)) (vx_cwSW 2 hts gL_areAlike_L_trace rfl rfl rfl (by decide +kernel) ⟨Nat.le_of_ble_eq_true rfl, Nat.le_of_ble_eq_true rfl⟩) dL_areAlike_162 rfl (Nat.le_of_ble_eq_true rfl) (Nat.le_of_ble_eq_true rfl) (Nat.le_of_ble_eq_true rfl) (fun _ => rfl) (fun r38 u H37 locs hw hP hD hS => ?_)
                    try dsimp only at hw
                    obtain rfl := hw
                    have hP : va_P D vwCl (o_w cY aa sa bp j c ++ o_w cY ab sb bq k9 d) H37 := hP
                    have hD : va_D A (o_w cY aa sa bp j c ++ o_w cY ab sb bq k9 d) := hD
                    refine lv_aload_n hx hb dL_areAlike_165 rfl (lv_at hl 5 rfl) ?_
                    refine lv_iload hx hb dL_areAlike_166 (lv_at hl 1 rfl) ?_
                    refine f_TR (As := [.ref (ab 0), .int (nI (q_s (c.1 k)))]) (rest := [.int (nI (n_tr (c.1 k) 16))]) C0 hE hl hP hD hS (o_trace l hfl D cY eS eO ab sb bq hBp k9 d hk9 hd (q_s (c.1 k)) (by first | assumption | omega | exact nm_lt _ _ | exact np_lt _ _ | exact q_s_lt _ | decide)) (vx_cwSW 2 hts gL_areAlike_L_trace rfl rfl rfl (by decide +kernel) ⟨Nat.le_of_ble_eq_true rfl, Nat.le_of_ble_eq_true rfl⟩) dL_areAlike_168 rfl (Nat.le_of_ble_eq_true rfl) (Nat.le_of_ble_eq_true rfl) (Nat.le_of_ble_eq_true rfl) (fun _ => rfl) (fun r40 u H39 locs hw hP hD hS => ?_)
                    try dsimp only at hw
                    obtain rfl := hw
                    have hP : va_P D vwCl (o_w cY aa sa bp j c ++ o_w cY ab sb bq k9 d) H39 := hP
                    have hD : va_D A (o_w cY aa sa bp j c ++ o_w cY ab sb bq k9 d) := hD
                    refine lv_icmp_ne (tgt := 214) hx hb dL_areAlike_171 (by decide) (fun h => absurd (show nI (n_tr (c.1 k) 16) = nI (n_tr (q_s (c.1 k)) 16) from congrArg nI (q_tr hck).symm) h) (fun _ => ?_)
                    refine lv_iload hx hb dL_areAlike_174 (lv_at hl 0 rfl) ?_
                    refine lv_if_ge (tgt := 191) hx hb dL_areAlike_176 (by decide) (fun c176 => ?_) (fun c176 => ?_)
                    · have c176 := c176
                      exfalso; exact absurd c176 (by decide)
                    · have c176 := c176
                      refine lv_aload_n hx hb dL_areAlike_179 rfl (lv_at hl 5 rfl) ?_
                      refine lv_iload hx hb dL_areAlike_180 (lv_at hl 1 rfl) ?_
                      refine f_TR (As := [.ref (ab 0), .int (nI (q_s (c.1 k)))]) (rest := []) C0 hE hl hP hD hS (o_solve l hfl D cY eS eO ab sb bq hBp k9 d hk9 hd (q_s (c.1 k)) (by first | assumption | omega | exact nm_lt _ _ | exact np_lt _ _ | exact q_s_lt _ | decide)) (vx_cwSW 2 hts gL_areAlike_L_solve rfl rfl rfl (by decide +kernel) ⟨Nat.le_of_ble_eq_true rfl, Nat.le_of_ble_eq_true rfl⟩) dL_areAlike_182 rfl (Nat.le_of_ble_eq_true rfl) (Nat.le_of_ble_eq_true rfl) (Nat.le_of_ble_eq_true rfl) (fun _ => rfl) (fun r42 u H41 locs hw hP hD hS => ?_)
                      try dsimp only at hw
                      obtain rfl := hw
                      have hP : va_P D vwCl (o_w cY aa sa bp j c ++ o_w cY ab sb bq k9 d) H41 := hP
                      have hD : va_D A (o_w cY aa sa bp j c ++ o_w cY ab sb bq k9 d) := hD
                      refine lv_topi (nm_r (esp) ?_)
                      refine lv_if_ge (tgt := 214) hx hb dL_areAlike_185 (by decide) (fun c185 => ?_) (fun c185 => ?_)
                      · have c185 := c185
                        exfalso; exact absurd c185 (by decide)
                      · have c185 := c185
                        refine lv_goto (tgt := 210) hx hb dL_areAlike_188 (by decide) ?_
                        refine lv_iconst (v := nI 1) hx hb dL_areAlike_210 (by decide) ?_
                        refine lv_goto (tgt := 215) hx hb dL_areAlike_211 (by decide) ?_
                        refine lv_istore_n (lv' := [(2, .int (nI 1)), (6, .int (-1)), (5, .int (nI (q_s (c.1 k)))), (4, .int (nI (c.1 k))), (3, .int (nI k)), (0, .ref (aa 0)), (1, .ref (ab 0))]) hx hb dL_areAlike_215 rfl hl (by decide) rfl (fun ls hl => ?_)
                        refine lv_iinc (v := nI (k + 1)) (lv' := [(3, .int (nI (k + 1))), (2, .int (nI 1)), (6, .int (-1)), (5, .int (nI (q_s (c.1 k)))), (4, .int (nI (c.1 k))), (0, .ref (aa 0)), (1, .ref (ab 0))]) hx hb dL_areAlike_216 hl (k := 4) rfl (nI_add _ 1) (by decide) rfl (fun ls hl => ?_)
                        refine lv_goto (tgt := 72) hx hb dL_areAlike_219 (by decide) ?_
                        exact ih72 (k + 1) _ _ ls (by first | assumption | omega) (by omega) hP hD hS (lv_sub hl [0, 5, 6, 1] rfl)
                · skip
                  refine lv_aload_n hx hb dL_areAlike_95 rfl (lv_at hl 3 rfl) ?_
                  refine lv_iload hx hb dL_areAlike_96 (lv_at hl 1 rfl) ?_
                  refine f_TL (As := [.ref (aa 0), .int (nI (c.1 k))]) (rest := []) C0 hE hl hP hD hS (o_solve l hfl D cY eS eO aa sa bp hB j c hj hc (c.1 k) (by first | assumption | omega | exact nm_lt _ _ | exact np_lt _ _ | exact q_s_lt _ | decide)) (vx_cwSW 2 hts gL_areAlike_L_solve rfl rfl rfl (by decide +kernel) ⟨Nat.le_of_ble_eq_true rfl, Nat.le_of_ble_eq_true rfl⟩) dL_areAlike_98 rfl (Nat.le_of_ble_eq_true rfl) (Nat.le_of_ble_eq_true rfl) (Nat.le_of_ble_eq_true rfl) (fun _ => rfl) (fun r44 u H43 locs hw hP hD hS => ?_)
                  try dsimp only at hw
                  obtain rfl := hw
                  have hP : va_P D vwCl (o_w cY aa sa bp j c ++ o_w cY ab sb bq k9 d) H43 := hP
                  have hD : va_D A (o_w cY aa sa bp j c ++ o_w cY ab sb bq k9 d) := hD
                  refine lv_topi (nm_r (eso) ?_)
                  refine lv_istore (lv' := [(6, .int (nI y)), (5, .int (nI (q_s (c.1 k)))), (4, .int (nI (c.1 k))), (3, .int (nI k)), (0, .ref (aa 0)), (1, .ref (ab 0)), (2, .int (nI 1))]) hx hb dL_areAlike_101 hl (by decide) rfl (fun ls hl => ?_)
                  refine lv_iload_n hx hb dL_areAlike_103 rfl (lv_at hl 6 rfl) ?_
                  refine lv_if_eq (tgt := 214) hx hb dL_areAlike_104 (by decide) (fun c104 => ?_) (fun c104 => ?_)
                  · exact absurd c104 (by decide)
                  · refine lv_aload_n hx hb dL_areAlike_107 rfl (lv_at hl 4 rfl) ?_
                    refine lv_iload hx hb dL_areAlike_108 (lv_at hl 2 rfl) ?_
                    refine f_SL (As := [.ref (aa 0), .int (nI (c.1 k))]) (rest := []) C0 hE hl hP hD hS (o_square l hfl D cY eS eO aa sa bp hB j c hj hc (c.1 k) (by first | assumption | omega | exact nm_lt _ _ | exact np_lt _ _ | exact q_s_lt _ | decide)) (va_cwS 2 hts gL_areAlike_L_square rfl rfl rfl (by decide +kernel) ⟨Nat.le_of_ble_eq_true rfl, Nat.le_of_ble_eq_true rfl⟩) dL_areAlike_110 rfl (Nat.le_of_ble_eq_true rfl) (Nat.le_of_ble_eq_true rfl) (Nat.le_of_ble_eq_true rfl) (fun _ => rfl) (fun r46 u H45 locs hw hP hD hS => ?_)
                    try dsimp only at hw
                    obtain rfl := hw
                    have hP : va_P D vwCl (o_w cY aa sa bp j c ++ o_w cY ab sb bq k9 d) H45 := hP
                    have hD : va_D A (o_w cY aa sa bp j c ++ o_w cY ab sb bq k9 d) := hD
                    refine lv_iload hx hb dL_areAlike_113 (lv_at hl 1 rfl) ?_
                    refine lv_icmp_ne (tgt := 214) hx hb dL_areAlike_115 (by decide) (fun h => absurd (show nI (q_s (c.1 k)) = nI (q_s (c.1 k)) from rfl) h) (fun _ => ?_)
                    refine lv_aload_n hx hb dL_areAlike_118 rfl (lv_at hl 5 rfl) ?_
                    refine lv_iload hx hb dL_areAlike_119 (lv_at hl 1 rfl) ?_
                    refine f_TR (As := [.ref (ab 0), .int (nI (q_s (c.1 k)))]) (rest := []) C0 hE hl hP hD hS (o_root l hfl D cY eS eO ab sb bq hBp k9 d hk9 hd (q_s (c.1 k)) (by first | assumption | omega | exact nm_lt _ _ | exact np_lt _ _ | exact q_s_lt _ | decide)) (vx_cwSW 2 hts gL_areAlike_L_root rfl rfl rfl (by decide +kernel) ⟨Nat.le_of_ble_eq_true rfl, Nat.le_of_ble_eq_true rfl⟩) dL_areAlike_121 rfl (Nat.le_of_ble_eq_true rfl) (Nat.le_of_ble_eq_true rfl) (Nat.le_of_ble_eq_true rfl) (fun _ => rfl) (fun r48 u H47 locs hw hP hD hS => ?_)
                    try dsimp only at hw
                    obtain rfl := hw
                    have hP : va_P D vwCl (o_w cY aa sa bp j c ++ o_w cY ab sb bq k9 d) H47 := hP
                    have hD : va_D A (o_w cY aa sa bp j c ++ o_w cY ab sb bq k9 d) := hD
                    refine lv_iload hx hb dL_areAlike_124 (lv_at hl 2 rfl) ?_
                    refine lv_icmp_ne (tgt := 214) hx hb dL_areAlike_126 (by decide) (fun h => absurd (show nI (np (q_s (c.1 k)) 32768) = nI (c.1 k) from congrArg nI (q_rt hck)) h) (fun _ => ?_)
                    refine lv_aload_n hx hb dL_areAlike_129 rfl (lv_at hl 4 rfl) ?_
                    refine lv_iload hx hb dL_areAlike_130 (lv_at hl 2 rfl) ?_
                    refine f_TL (As := [.ref (aa 0), .int (nI (c.1 k))]) (rest := []) C0 hE hl hP hD hS (o_field l hfl D cY eS eO aa sa bp hB j c hj hc (c.1 k) (by first | assumption | omega | exact nm_lt _ _ | exact np_lt _ _ | exact q_s_lt _ | decide)) (vx_cwSW 2 hts gL_areAlike_L_field rfl rfl rfl (by decide +kernel) ⟨Nat.le_of_ble_eq_true rfl, Nat.le_of_ble_eq_true rfl⟩) dL_areAlike_132 rfl (Nat.le_of_ble_eq_true rfl) (Nat.le_of_ble_eq_true rfl) (Nat.le_of_ble_eq_true rfl) (fun _ => rfl) (fun r50 u H49 locs hw hP hD hS => ?_)
                    try dsimp only at hw
                    obtain rfl := hw
                    have hP : va_P D vwCl (o_w cY aa sa bp j c ++ o_w cY ab sb bq k9 d) H49 := hP
                    have hD : va_D A (o_w cY aa sa bp j c ++ o_w cY ab sb bq k9 d) := hD
                    refine lv_aload_n hx hb dL_areAlike_135 rfl (lv_at hl 5 rfl) ?_
                    refine lv_iload hx hb dL_areAlike_136 (lv_at hl 1 rfl) ?_
                    refine f_TR (As := [.ref (ab 0), .int (nI (q_s (c.1 k)))]) (rest := [.int (nI (n_fld (c.1 k)))]) C0 hE hl hP hD hS (o_field l hfl D cY eS eO ab sb bq hBp k9 d hk9 hd (q_s (c.1 k)) (by first | assumption | omega | exact nm_lt _ _ | exact np_lt _ _ | exact q_s_lt _ | decide)) (vx_cwSW 2 hts gL_areAlike_L_field rfl rfl rfl (by decide +kernel) ⟨Nat.le_of_ble_eq_true rfl, Nat.le_of_ble_eq_true rfl⟩) dL_areAlike_138 rfl (Nat.le_of_ble_eq_true rfl) (Nat.le_of_ble_eq_true rfl) (Nat.le_of_ble_eq_true rfl) (fun _ => rfl) (fun r52 u H51 locs hw hP hD hS => ?_)
                    try dsimp only at hw
                    obtain rfl := hw
                    have hP : va_P D vwCl (o_w cY aa sa bp j c ++ o_w cY ab sb bq k9 d) H51 := hP
                    have hD : va_D A (o_w cY aa sa bp j c ++ o_w cY ab sb bq k9 d) := hD
                    refine lv_icmp_ne (tgt := 214) hx hb dL_areAlike_141 (by decide) (fun h => absurd (show nI (n_fld (c.1 k)) = nI (n_fld (q_s (c.1 k))) from congrArg nI (q_fld hck).symm) h) (fun _ => ?_)
                    refine lv_aload_n hx hb dL_areAlike_144 rfl (lv_at hl 4 rfl) ?_
                    refine lv_iload hx hb dL_areAlike_145 (lv_at hl 2 rfl) ?_
                    refine f_TL (As := [.ref (aa 0), .int (nI (c.1 k))]) (rest := []) C0 hE hl hP hD hS (o_order l hfl D cY eS eO aa sa bp hB j c hj hc (c.1 k) (by first | assumption | omega | exact nm_lt _ _ | exact np_lt _ _ | exact q_s_lt _ | decide)) (vx_cwSW 2 hts gL_areAlike_L_order rfl rfl rfl (by decide +kernel) ⟨Nat.le_of_ble_eq_true rfl, Nat.le_of_ble_eq_true rfl⟩) dL_areAlike_147 rfl (Nat.le_of_ble_eq_true rfl) (Nat.le_of_ble_eq_true rfl) (Nat.le_of_ble_eq_true rfl) (fun _ => rfl) (fun r54 u H53 locs hw hP hD hS => ?_)
                    try dsimp only at hw
                    obtain rfl := hw
                    have hP : va_P D vwCl (o_w cY aa sa bp j c ++ o_w cY ab sb bq k9 d) H53 := hP
                    have hD : va_D A (o_w cY aa sa bp j c ++ o_w cY ab sb bq k9 d) := hD
                    refine lv_aload_n hx hb dL_areAlike_150 rfl (lv_at hl 5 rfl) ?_
                    refine lv_iload hx hb dL_areAlike_151 (lv_at hl 1 rfl) ?_
                    refine f_TR (As := [.ref (ab 0), .int (nI (q_s (c.1 k)))]) (rest := [.int (n_ord (c.1 k))]) C0 hE hl hP hD hS (o_order l hfl D cY eS eO ab sb bq hBp k9 d hk9 hd (q_s (c.1 k)) (by first | assumption | omega | exact nm_lt _ _ | exact np_lt _ _ | exact q_s_lt _ | decide)) (vx_cwSW 2 hts gL_areAlike_L_order rfl rfl rfl (by decide +kernel) ⟨Nat.le_of_ble_eq_true rfl, Nat.le_of_ble_eq_true rfl⟩) dL_areAlike_153 rfl (Nat.le_of_ble_eq_true rfl) (Nat.le_of_ble_eq_true rfl) (Nat.le_of_ble_eq_true rfl) (fun _ => rfl) (fun r56 u H55 locs hw hP hD hS => ?_)
                    try dsimp only at hw
                    obtain rfl := hw
                    have hP : va_P D vwCl (o_w cY aa sa bp j c ++ o_w cY ab sb bq k9 d) H55 := hP
                    have hD : va_D A (o_w cY aa sa bp j c ++ o_w cY ab sb bq k9 d) := hD
                    refine lv_icmp_ne (tgt := 214) hx hb dL_areAlike_156 (by decide) (fun h => absurd (show n_ord (c.1 k) = n_ord (q_s (c.1 k)) from (q_ord hck).symm) h) (fun _ => ?_)
                    refine lv_aload_n hx hb dL_areAlike_159 rfl (lv_at hl 4 rfl) ?_
                    refine lv_iload hx hb dL_areAlike_160 (lv_at hl 2 rfl) ?_
                    refine f_TL (As := [.ref (aa 0), .int (nI (c.1 k))]) (rest := []) C0 hE hl hP hD hS (o_trace l hfl D cY eS eO aa sa bp hB j c hj hc (c.1 k) (by first | assumption | omega | exact nm_lt _ _ | exact np_lt _ _ | exact q_s_lt _ | decide)) (vx_cwSW 2 hts gL_areAlike_L_trace rfl rfl rfl (by decide +kernel) ⟨Nat.le_of_ble_eq_true rfl, Nat.le_of_ble_eq_true rfl⟩) dL_areAlike_162 rfl (Nat.le_of_ble_eq_true rfl) (Nat.le_of_ble_eq_true rfl) (Nat.le_of_ble_eq_true rfl) (fun _ => rfl) (fun r58 u H57 locs hw hP hD hS => ?_)
                    try dsimp only at hw
                    obtain rfl := hw
                    have hP : va_P D vwCl (o_w cY aa sa bp j c ++ o_w cY ab sb bq k9 d) H57 := hP
                    have hD : va_D A (o_w cY aa sa bp j c ++ o_w cY ab sb bq k9 d) := hD
                    refine lv_aload_n hx hb dL_areAlike_165 rfl (lv_at hl 5 rfl) ?_
                    refine lv_iload hx hb dL_areAlike_166 (lv_at hl 1 rfl) ?_
                    refine f_TR (As := [.ref (ab 0), .int (nI (q_s (c.1 k)))]) (rest := [.int (nI (n_tr (c.1 k) 16))]) C0 hE hl hP hD hS (o_trace l hfl D cY eS eO ab sb bq hBp k9 d hk9 hd (q_s (c.1 k)) (by first | assumption | omega | exact nm_lt _ _ | exact np_lt _ _ | exact q_s_lt _ | decide)) (vx_cwSW 2 hts gL_areAlike_L_trace rfl rfl rfl (by decide +kernel) ⟨Nat.le_of_ble_eq_true rfl, Nat.le_of_ble_eq_true rfl⟩) dL_areAlike_168 rfl (Nat.le_of_ble_eq_true rfl) (Nat.le_of_ble_eq_true rfl) (Nat.le_of_ble_eq_true rfl) (fun _ => rfl) (fun r60 u H59 locs hw hP hD hS => ?_)
                    try dsimp only at hw
                    obtain rfl := hw
                    have hP : va_P D vwCl (o_w cY aa sa bp j c ++ o_w cY ab sb bq k9 d) H59 := hP
                    have hD : va_D A (o_w cY aa sa bp j c ++ o_w cY ab sb bq k9 d) := hD
                    refine lv_icmp_ne (tgt := 214) hx hb dL_areAlike_171 (by decide) (fun h => absurd (show nI (n_tr (c.1 k) 16) = nI (n_tr (q_s (c.1 k)) 16) from congrArg nI (q_tr hck).symm) h) (fun _ => ?_)
                    refine lv_iload hx hb dL_areAlike_174 (lv_at hl 0 rfl) ?_
                    refine lv_if_ge (tgt := 191) hx hb dL_areAlike_176 (by decide) (fun c176 => ?_) (fun c176 => ?_)
                    · have c176 : 0 ≤ y := (nI_leI (a := 0) (b := y) (by first | omega | exact Nat.lt_of_le_of_lt Nat.and_le_right (by decide) | exact Nat.lt_trans (nm_lt _ _) (by decide) | exact Nat.lt_trans (np_lt _ _) (by decide) | exact Nat.lt_trans (p_at_lt htx) (by decide)) (by first | omega | exact Nat.lt_of_le_of_lt Nat.and_le_right (by decide) | exact Nat.lt_trans (nm_lt _ _) (by decide) | exact Nat.lt_trans (np_lt _ _) (by decide) | exact Nat.lt_trans (p_at_lt htx) (by decide))).mp c176
                      refine lv_aload_n hx hb dL_areAlike_191 rfl (lv_at hl 5 rfl) ?_
                      refine lv_iload hx hb dL_areAlike_192 (lv_at hl 1 rfl) ?_
                      refine f_TR (As := [.ref (ab 0), .int (nI (q_s (c.1 k)))]) (rest := []) C0 hE hl hP hD hS (o_solve l hfl D cY eS eO ab sb bq hBp k9 d hk9 hd (q_s (c.1 k)) (by first | assumption | omega | exact nm_lt _ _ | exact np_lt _ _ | exact q_s_lt _ | decide)) (vx_cwSW 2 hts gL_areAlike_L_solve rfl rfl rfl (by decide +kernel) ⟨Nat.le_of_ble_eq_true rfl, Nat.le_of_ble_eq_true rfl⟩) dL_areAlike_194 rfl (Nat.le_of_ble_eq_true rfl) (Nat.le_of_ble_eq_true rfl) (Nat.le_of_ble_eq_true rfl) (fun _ => rfl) (fun r62 u H61 locs hw hP hD hS => ?_)
                      try dsimp only at hw
                      obtain rfl := hw
                      have hP : va_P D vwCl (o_w cY aa sa bp j c ++ o_w cY ab sb bq k9 d) H61 := hP
                      have hD : va_D A (o_w cY aa sa bp j c ++ o_w cY ab sb bq k9 d) := hD
                      refine lv_topi (nm_r (esp) ?_)
                      refine lv_iconst (v := nI 1) hx hb dL_areAlike_197 (by decide) ?_
                      refine lv_ior hx hb dL_areAlike_198 ?_
                      refine lv_topi (nm_r (nx_or _ _) ?_)
                      refine lv_aload_n hx hb dL_areAlike_199 rfl (lv_at hl 4 rfl) ?_
                      refine lv_iload hx hb dL_areAlike_200 (lv_at hl 0 rfl) ?_
                      refine f_SL (As := [.ref (aa 0), .int (nI y)]) (rest := [.int (nI (z ||| 1))]) C0 hE hl hP hD hS (o_square l hfl D cY eS eO aa sa bp hB j c hj hc y (by first | assumption | omega | exact nm_lt _ _ | exact np_lt _ _ | exact q_s_lt _ | decide)) (va_cwS 2 hts gL_areAlike_L_square rfl rfl rfl (by decide +kernel) ⟨Nat.le_of_ble_eq_true rfl, Nat.le_of_ble_eq_true rfl⟩) dL_areAlike_202 rfl (Nat.le_of_ble_eq_true rfl) (Nat.le_of_ble_eq_true rfl) (Nat.le_of_ble_eq_true rfl) (fun _ => rfl) (fun r64 u H63 locs hw hP hD hS => ?_)
                      try dsimp only at hw
                      obtain rfl := hw
                      have hP : va_P D vwCl (o_w cY aa sa bp j c ++ o_w cY ab sb bq k9 d) H63 := hP
                      have hD : va_D A (o_w cY aa sa bp j c ++ o_w cY ab sb bq k9 d) := hD
                      refine lv_iconst (v := nI 1) hx hb dL_areAlike_205 (by decide) ?_
                      refine lv_ior hx hb dL_areAlike_206 ?_
                      refine lv_topi (nm_r (nx_or _ _) ?_)
                      refine lv_icmp_ne (tgt := 214) hx hb dL_areAlike_207 (by decide) (fun h => absurd (show nI (z ||| 1) = nI ((q_s y) ||| 1) from congrArg nI hzy) h) (fun _ => ?_)
                      refine lv_iconst (v := nI 1) hx hb dL_areAlike_210 (by decide) ?_
                      refine lv_goto (tgt := 215) hx hb dL_areAlike_211 (by decide) ?_
                      refine lv_istore_n (lv' := [(2, .int (nI 1)), (6, .int (nI y)), (5, .int (nI (q_s (c.1 k)))), (4, .int (nI (c.1 k))), (3, .int (nI k)), (0, .ref (aa 0)), (1, .ref (ab 0))]) hx hb dL_areAlike_215 rfl hl (by decide) rfl (fun ls hl => ?_)
                      refine lv_iinc (v := nI (k + 1)) (lv' := [(3, .int (nI (k + 1))), (2, .int (nI 1)), (6, .int (nI y)), (5, .int (nI (q_s (c.1 k)))), (4, .int (nI (c.1 k))), (0, .ref (aa 0)), (1, .ref (ab 0))]) hx hb dL_areAlike_216 hl (k := 4) rfl (nI_add _ 1) (by decide) rfl (fun ls hl => ?_)
                      refine lv_goto (tgt := 72) hx hb dL_areAlike_219 (by decide) ?_
                      exact ih72 (k + 1) _ _ ls (by first | assumption | omega) (by omega) hP hD hS (lv_sub hl [0, 5, 6, 1] rfl)
                    · have c176 : ¬ (0 ≤ y) := fun qq9 => c176 ((nI_leI (a := 0) (b := y) (by first | omega | exact Nat.lt_of_le_of_lt Nat.and_le_right (by decide) | exact Nat.lt_trans (nm_lt _ _) (by decide) | exact Nat.lt_trans (np_lt _ _) (by decide) | exact Nat.lt_trans (p_at_lt htx) (by decide)) (by first | omega | exact Nat.lt_of_le_of_lt Nat.and_le_right (by decide) | exact Nat.lt_trans (nm_lt _ _) (by decide) | exact Nat.lt_trans (np_lt _ _) (by decide) | exact Nat.lt_trans (p_at_lt htx) (by decide))).mpr qq9)
                      exfalso; omega
          exact lp72 _ 0 _ _ ls (by decide) (Nat.lt_succ_self _) hP hD hS (lv_sub hl [0, 2, 3, 1] rfl)
  · skip
    refine lv_aload_n hx hb dL_areAlike_37 rfl (lv_at hl 0 rfl) ?_
    refine f_VL (As := []) (rest := []) C0 hE hl hP hD hS (o_lessen l hfl D cY eS eO aa sa bp hB j c hj hc  ) (cwV 0 hts gL_areAlike_X6_registerToLessen rfl rfl rfl (by decide +kernel) ⟨Nat.le_of_ble_eq_true rfl, Nat.le_of_ble_eq_true rfl⟩) dL_areAlike_38 0 rfl rfl rfl rfl (Nat.le_of_ble_eq_true rfl) (Nat.le_of_ble_eq_true rfl) (Nat.le_of_ble_eq_true rfl) (fun _ => rfl) (fun r66 u H65 locs hw hP hD hS => ?_)
    try dsimp only at hw
    obtain rfl := hw
    have hP : va_P D vwCl (o_w cY aa sa bp j c ++ o_w cY ab sb bq k9 d) H65 := hP
    have hD : va_D A (o_w cY aa sa bp j c ++ o_w cY ab sb bq k9 d) := hD
    refine lv_topi (nm_r (hle) ?_)
    refine lv_if_ge (tgt := 48) hx hb dL_areAlike_41 (by decide) (fun c41 => ?_) (fun c41 => ?_)
    · have c41 : 0 ≤ i9 := (nI_leI (a := 0) (b := i9) (by first | omega | exact Nat.lt_of_le_of_lt Nat.and_le_right (by decide) | exact Nat.lt_trans (nm_lt _ _) (by decide) | exact Nat.lt_trans (np_lt _ _) (by decide) | exact Nat.lt_trans (p_at_lt htx) (by decide)) (by first | omega | exact Nat.lt_of_le_of_lt Nat.and_le_right (by decide) | exact Nat.lt_trans (nm_lt _ _) (by decide) | exact Nat.lt_trans (np_lt _ _) (by decide) | exact Nat.lt_trans (p_at_lt htx) (by decide))).mp c41
      refine lv_iconst (v := nI 0) hx hb dL_areAlike_48 (by decide) ?_
      refine lv_aload_n hx hb dL_areAlike_49 rfl (lv_at hl 1 rfl) ?_
      refine f_VR (As := []) (rest := [.int (nI 0)]) C0 hE hl hP hD hS (o_lessen l hfl D cY eS eO ab sb bq hBp k9 d hk9 hd  ) (cwV 0 hts gL_areAlike_X6_registerToLessen rfl rfl rfl (by decide +kernel) ⟨Nat.le_of_ble_eq_true rfl, Nat.le_of_ble_eq_true rfl⟩) dL_areAlike_50 0 rfl rfl rfl rfl (Nat.le_of_ble_eq_true rfl) (Nat.le_of_ble_eq_true rfl) (Nat.le_of_ble_eq_true rfl) (fun _ => rfl) (fun r68 u H67 locs hw hP hD hS => ?_)
      try dsimp only at hw
      obtain rfl := hw
      have hP : va_P D vwCl (o_w cY aa sa bp j c ++ o_w cY ab sb bq k9 d) H67 := hP
      have hD : va_D A (o_w cY aa sa bp j c ++ o_w cY ab sb bq k9 d) := hD
      refine lv_topi (nm_r (hle2) ?_)
      refine lv_if_ge (tgt := 60) hx hb dL_areAlike_53 (by decide) (fun c53 => ?_) (fun c53 => ?_)
      · have c53 : 0 ≤ i8 := (nI_leI (a := 0) (b := i8) (by first | omega | exact Nat.lt_of_le_of_lt Nat.and_le_right (by decide) | exact Nat.lt_trans (nm_lt _ _) (by decide) | exact Nat.lt_trans (np_lt _ _) (by decide) | exact Nat.lt_trans (p_at_lt htx) (by decide)) (by first | omega | exact Nat.lt_of_le_of_lt Nat.and_le_right (by decide) | exact Nat.lt_trans (nm_lt _ _) (by decide) | exact Nat.lt_trans (np_lt _ _) (by decide) | exact Nat.lt_trans (p_at_lt htx) (by decide))).mp c53
        refine lv_iconst (v := nI 0) hx hb dL_areAlike_60 (by decide) ?_
        refine lv_icmp_ne (tgt := 68) hx hb dL_areAlike_61 (by decide) (fun c61 => ?_) (fun c61 => ?_)
        · exact absurd c61 (by decide)
        · refine lv_iconst (v := nI 1) hx hb dL_areAlike_64 (by decide) ?_
          refine lv_goto (tgt := 69) hx hb dL_areAlike_65 (by decide) ?_
          refine lv_istore_n (lv' := [(2, .int (nI 1)), (0, .ref (aa 0)), (1, .ref (ab 0))]) hx hb dL_areAlike_69 rfl hl (by decide) rfl (fun ls hl => ?_)
          refine lv_iconst (v := nI 0) hx hb dL_areAlike_70 (by decide) ?_
          refine lv_istore_n (lv' := [(3, .int (nI 0)), (2, .int (nI 1)), (0, .ref (aa 0)), (1, .ref (ab 0))]) hx hb dL_areAlike_71 rfl hl (by decide) rfl (fun ls hl => ?_)
          have lp72 : ∀ (nn : Nat) (k : Nat) (H : Heap) (locs : List Loc) (ls : Array Slot), (k ≤ 8) → 8 - k < nn → va_P D vwCl (o_w cY aa sa bp j c ++ o_w cY ab sb bq k9 d) H → va_D A (o_w cY aa sa bp j c ++ o_w cY ab sb bq k9 d) → va_S A s.heap H locs → lv_has ls 7 [(3, .int (nI k)), (0, .ref (aa 0)), (1, .ref (ab 0)), (2, .int (nI 1))] → W p l e { frames := 8, cells := 0, slots := 0, locals := 221 } s m ([.ref (aa 0), .ref (ab 0)] : List Value).toArray below meth cq H locs 0 0 Q (F0 m 72 ls []) := by
            intro nn
            induction nn with
            | zero => intros; omega
            | succ nn ih72 =>
              intro k H locs ls hkk hmz hP hD hS hl
              refine lv_iload_n hx hb dL_areAlike_72 rfl (lv_at hl 0 rfl) ?_
              refine lv_bipush (v := nI 8) hx hb dL_areAlike_73 (by decide) ?_
              refine lv_icmp_ge (tgt := 222) hx hb dL_areAlike_75 (by decide) (fun c75 => ?_) (fun c75 => ?_)
              · have c75 : 8 ≤ k := (nI_leI (a := 8) (b := k) (by first | omega | exact Nat.lt_of_le_of_lt Nat.and_le_right (by decide) | exact Nat.lt_trans (nm_lt _ _) (by decide) | exact Nat.lt_trans (np_lt _ _) (by decide) | exact Nat.lt_trans (p_at_lt htx) (by decide)) (by first | omega | exact Nat.lt_of_le_of_lt Nat.and_le_right (by decide) | exact Nat.lt_trans (nm_lt _ _) (by decide) | exact Nat.lt_trans (np_lt _ _) (by decide) | exact Nat.lt_trans (p_at_lt htx) (by decide))).mp c75
                refine lv_iload_n hx hb dL_areAlike_222 rfl (lv_at hl 3 rfl) ?_
                subst hQ
                exact f_zret (by decide) (by decide) C0 (by decide) hS dL_areAlike_223 (u := ()) hP (rfl)
              · have c75 : ¬ (8 ≤ k) := fun qq9 => c75 ((nI_leI (a := 8) (b := k) (by first | omega | exact Nat.lt_of_le_of_lt Nat.and_le_right (by decide) | exact Nat.lt_trans (nm_lt _ _) (by decide) | exact Nat.lt_trans (np_lt _ _) (by decide) | exact Nat.lt_trans (p_at_lt htx) (by decide)) (by first | omega | exact Nat.lt_of_le_of_lt Nat.and_le_right (by decide) | exact Nat.lt_trans (nm_lt _ _) (by decide) | exact Nat.lt_trans (np_lt _ _) (by decide) | exact Nat.lt_trans (p_at_lt htx) (by decide))).mpr qq9)
                have hk : k < 8 := by omega
                have hck := hc.1.2 k
                refine lv_aload_n hx hb dL_areAlike_78 rfl (lv_at hl 1 rfl) ?_
                refine lv_iload_n hx hb dL_areAlike_79 rfl (lv_at hl 0 rfl) ?_
                refine f_TL (As := [.ref (aa 0), .int (nI k)]) (rest := []) C0 hE hl hP hD hS (o_nimber l hfl D cY eS eO aa sa bp hB j c hj hc k (by first | assumption | omega | exact nm_lt _ _ | exact np_lt _ _ | exact q_s_lt _ | decide)) (vx_cwSW 2 hts gL_areAlike_L_nimber rfl rfl rfl (by decide +kernel) ⟨Nat.le_of_ble_eq_true rfl, Nat.le_of_ble_eq_true rfl⟩) dL_areAlike_80 rfl (Nat.le_of_ble_eq_true rfl) (Nat.le_of_ble_eq_true rfl) (Nat.le_of_ble_eq_true rfl) (fun _ => rfl) (fun r70 u H69 locs hw hP hD hS => ?_)
                try dsimp only at hw
                obtain rfl := hw
                have hP : va_P D vwCl (o_w cY aa sa bp j c ++ o_w cY ab sb bq k9 d) H69 := hP
                have hD : va_D A (o_w cY aa sa bp j c ++ o_w cY ab sb bq k9 d) := hD
                refine lv_istore (lv' := [(4, .int (nI (c.1 k))), (3, .int (nI k)), (0, .ref (aa 0)), (1, .ref (ab 0)), (2, .int (nI 1))]) hx hb dL_areAlike_83 hl (by decide) rfl (fun ls hl => ?_)
                refine lv_aload_n hx hb dL_areAlike_85 rfl (lv_at hl 3 rfl) ?_
                refine lv_bipush (v := nI 7) hx hb dL_areAlike_86 (by decide) ?_
                refine lv_iload_n hx hb dL_areAlike_88 rfl (lv_at hl 1 rfl) ?_
                refine lv_isub hx hb dL_areAlike_89 ?_
                refine lv_topi (nm_r (pk_sub (by omega)) ?_)
                refine f_TR (As := [.ref (ab 0), .int (nI (7 - k))]) (rest := []) C0 hE hl hP hD hS (o_nimber l hfl D cY eS eO ab sb bq hBp k9 d hk9 hd (7 - k) (by first | assumption | omega | exact nm_lt _ _ | exact np_lt _ _ | exact q_s_lt _ | decide)) (vx_cwSW 2 hts gL_areAlike_L_nimber rfl rfl rfl (by decide +kernel) ⟨Nat.le_of_ble_eq_true rfl, Nat.le_of_ble_eq_true rfl⟩) dL_areAlike_90 rfl (Nat.le_of_ble_eq_true rfl) (Nat.le_of_ble_eq_true rfl) (Nat.le_of_ble_eq_true rfl) (fun _ => rfl) (fun r72 u H71 locs hw hP hD hS => ?_)
                try dsimp only at hw
                obtain rfl := hw
                have hP : va_P D vwCl (o_w cY aa sa bp j c ++ o_w cY ab sb bq k9 d) H71 := hP
                have hD : va_D A (o_w cY aa sa bp j c ++ o_w cY ab sb bq k9 d) := hD
                refine lv_topi (nm_r (congrArg nI (hR.1 k hk)) ?_)
                refine lv_istore (lv' := [(5, .int (nI (q_s (c.1 k)))), (4, .int (nI (c.1 k))), (3, .int (nI k)), (0, .ref (aa 0)), (1, .ref (ab 0)), (2, .int (nI 1))]) hx hb dL_areAlike_93 hl (by decide) rfl (fun ls hl => ?_)
                rcases q_sol_s hck with ⟨eso, esp⟩ | ⟨y, z, hy, hz, eso, esp, hzy⟩
                · skip
                  refine lv_aload_n hx hb dL_areAlike_95 rfl (lv_at hl 3 rfl) ?_
                  refine lv_iload hx hb dL_areAlike_96 (lv_at hl 1 rfl) ?_
                  refine f_TL (As := [.ref (aa 0), .int (nI (c.1 k))]) (rest := []) C0 hE hl hP hD hS (o_solve l hfl D cY eS eO aa sa bp hB j c hj hc (c.1 k) (by first | assumption | omega | exact nm_lt _ _ | exact np_lt _ _ | exact q_s_lt _ | decide)) (vx_cwSW 2 hts gL_areAlike_L_solve rfl rfl rfl (by decide +kernel) ⟨Nat.le_of_ble_eq_true rfl, Nat.le_of_ble_eq_true rfl⟩) dL_areAlike_98 rfl (Nat.le_of_ble_eq_true rfl) (Nat.le_of_ble_eq_true rfl) (Nat.le_of_ble_eq_true rfl) (fun _ => rfl) (fun r74 u H73 locs hw hP hD hS => ?_)
                  try dsimp only at hw
                  obtain rfl := hw
                  have hP : va_P D vwCl (o_w cY aa sa bp j c ++ o_w cY ab sb bq k9 d) H73 := hP
                  have hD : va_D A (o_w cY aa sa bp j c ++ o_w cY ab sb bq k9 d) := hD
                  refine lv_topi (nm_r (eso) ?_)
                  refine lv_istore (lv' := [(6, .int (-1)), (5, .int (nI (q_s (c.1 k)))), (4, .int (nI (c.1 k))), (3, .int (nI k)), (0, .ref (aa 0)), (1, .ref (ab 0)), (2, .int (nI 1))]) hx hb dL_areAlike_101 hl (by decide) rfl (fun ls hl => ?_)
                  refine lv_iload_n hx hb dL_areAlike_103 rfl (lv_at hl 6 rfl) ?_
                  refine lv_if_eq (tgt := 214) hx hb dL_areAlike_104 (by decide) (fun c104 => ?_) (fun c104 => ?_)
                  · exact absurd c104 (by decide)
                  · refine lv_aload_n hx hb dL_areAlike_107 rfl (lv_at hl 4 rfl) ?_
                    refine lv_iload hx hb dL_areAlike_108 (lv_at hl 2 rfl) ?_
                    refine f_SL (As := [.ref (aa 0), .int (nI (c.1 k))]) (rest := []) C0 hE hl hP hD hS (o_square l hfl D cY eS eO aa sa bp hB j c hj hc (c.1 k) (by first | assumption | omega | exact nm_lt _ _ | exact np_lt _ _ | exact q_s_lt _ | decide)) (va_cwS 2 hts gL_areAlike_L_square rfl rfl rfl (by decide +kernel) ⟨Nat.le_of_ble_eq_true rfl, Nat.le_of_ble_eq_true rfl⟩) dL_areAlike_110 rfl (Nat.le_of_ble_eq_true rfl) (Nat.le_of_ble_eq_true rfl) (Nat.le_of_ble_eq_true rfl) (fun _ => rfl) (fun r76 u H75 locs hw hP hD hS => ?_)
                    try dsimp only at hw
                    obtain rfl := hw
                    have hP : va_P D vwCl (o_w cY aa sa bp j c ++ o_w cY ab sb bq k9 d) H75 := hP
                    have hD : va_D A (o_w cY aa sa bp j c ++ o_w cY ab sb bq k9 d) := hD
                    refine lv_iload hx hb dL_areAlike_113 (lv_at hl 1 rfl) ?_
                    refine lv_icmp_ne (tgt := 214) hx hb dL_areAlike_115 (by decide) (fun h => absurd (show nI (q_s (c.1 k)) = nI (q_s (c.1 k)) from rfl) h) (fun _ => ?_)
                    refine lv_aload_n hx hb dL_areAlike_118 rfl (lv_at hl 5 rfl) ?_
                    refine lv_iload hx hb dL_areAlike_119 (lv_at hl 1 rfl) ?_
                    refine f_TR (As := [.ref (ab 0), .int (nI (q_s (c.1 k)))]) (rest := []) C0 hE hl hP hD hS (o_root l hfl D cY eS eO ab sb bq hBp k9 d hk9 hd (q_s (c.1 k)) (by first | assumption | omega | exact nm_lt _ _ | exact np_lt _ _ | exact q_s_lt _ | decide)) (vx_cwSW 2 hts gL_areAlike_L_root rfl rfl rfl (by decide +kernel) ⟨Nat.le_of_ble_eq_true rfl, Nat.le_of_ble_eq_true rfl⟩) dL_areAlike_121 rfl (Nat.le_of_ble_eq_true rfl) (Nat.le_of_ble_eq_true rfl) (Nat.le_of_ble_eq_true rfl) (fun _ => rfl) (fun r78 u H77 locs hw hP hD hS => ?_)
                    try dsimp only at hw
                    obtain rfl := hw
                    have hP : va_P D vwCl (o_w cY aa sa bp j c ++ o_w cY ab sb bq k9 d) H77 := hP
                    have hD : va_D A (o_w cY aa sa bp j c ++ o_w cY ab sb bq k9 d) := hD
                    refine lv_iload hx hb dL_areAlike_124 (lv_at hl 2 rfl) ?_
                    refine lv_icmp_ne (tgt := 214) hx hb dL_areAlike_126 (by decide) (fun h => absurd (show nI (np (q_s (c.1 k)) 32768) = nI (c.1 k) from congrArg nI (q_rt hck)) h) (fun _ => ?_)
                    refine lv_aload_n hx hb dL_areAlike_129 rfl (lv_at hl 4 rfl) ?_
                    refine lv_iload hx hb dL_areAlike_130 (lv_at hl 2 rfl) ?_
                    refine f_TL (As := [.ref (aa 0), .int (nI (c.1 k))]) (rest := []) C0 hE hl hP hD hS (o_field l hfl D cY eS eO aa sa bp hB j c hj hc (c.1 k) (by first | assumption | omega | exact nm_lt _ _ | exact np_lt _ _ | exact q_s_lt _ | decide)) (vx_cwSW 2 hts gL_areAlike_L_field rfl rfl rfl (by decide +kernel) ⟨Nat.le_of_ble_eq_true rfl, Nat.le_of_ble_eq_true rfl⟩) dL_areAlike_132 rfl (Nat.le_of_ble_eq_true rfl) (Nat.le_of_ble_eq_true rfl) (Nat.le_of_ble_eq_true rfl) (fun _ => rfl) (fun r80 u H79 locs hw hP hD hS => ?_)
                    try dsimp only at hw
                    obtain rfl := hw
                    have hP : va_P D vwCl (o_w cY aa sa bp j c ++ o_w cY ab sb bq k9 d) H79 := hP
                    have hD : va_D A (o_w cY aa sa bp j c ++ o_w cY ab sb bq k9 d) := hD
                    refine lv_aload_n hx hb dL_areAlike_135 rfl (lv_at hl 5 rfl) ?_
                    refine lv_iload hx hb dL_areAlike_136 (lv_at hl 1 rfl) ?_
                    refine f_TR (As := [.ref (ab 0), .int (nI (q_s (c.1 k)))]) (rest := [.int (nI (n_fld (c.1 k)))]) C0 hE hl hP hD hS (o_field l hfl D cY eS eO ab sb bq hBp k9 d hk9 hd (q_s (c.1 k)) (by first | assumption | omega | exact nm_lt _ _ | exact np_lt _ _ | exact q_s_lt _ | decide)) (vx_cwSW 2 hts gL_areAlike_L_field rfl rfl rfl (by decide +kernel) ⟨Nat.le_of_ble_eq_true rfl, Nat.le_of_ble_eq_true rfl⟩) dL_areAlike_138 rfl (Nat.le_of_ble_eq_true rfl) (Nat.le_of_ble_eq_true rfl) (Nat.le_of_ble_eq_true rfl) (fun _ => rfl) (fun r82 u H81 locs hw hP hD hS => ?_)
                    try dsimp only at hw
                    obtain rfl := hw
                    have hP : va_P D vwCl (o_w cY aa sa bp j c ++ o_w cY ab sb bq k9 d) H81 := hP
                    have hD : va_D A (o_w cY aa sa bp j c ++ o_w cY ab sb bq k9 d) := hD
                    refine lv_icmp_ne (tgt := 214) hx hb dL_areAlike_141 (by decide) (fun h => absurd (show nI (n_fld (c.1 k)) = nI (n_fld (q_s (c.1 k))) from congrArg nI (q_fld hck).symm) h) (fun _ => ?_)
                    refine lv_aload_n hx hb dL_areAlike_144 rfl (lv_at hl 4 rfl) ?_
                    refine lv_iload hx hb dL_areAlike_145 (lv_at hl 2 rfl) ?_
                    refine f_TL (As := [.ref (aa 0), .int (nI (c.1 k))]) (rest := []) C0 hE hl hP hD hS (o_order l hfl D cY eS eO aa sa bp hB j c hj hc (c.1 k) (by first | assumption | omega | exact nm_lt _ _ | exact np_lt _ _ | exact q_s_lt _ | decide)) (vx_cwSW 2 hts gL_areAlike_L_order rfl rfl rfl (by decide +kernel) ⟨Nat.le_of_ble_eq_true rfl, Nat.le_of_ble_eq_true rfl⟩) dL_areAlike_147 rfl (Nat.le_of_ble_eq_true rfl) (Nat.le_of_ble_eq_true rfl) (Nat.le_of_ble_eq_true rfl) (fun _ => rfl) (fun r84 u H83 locs hw hP hD hS => ?_)
                    try dsimp only at hw
                    obtain rfl := hw
                    have hP : va_P D vwCl (o_w cY aa sa bp j c ++ o_w cY ab sb bq k9 d) H83 := hP
                    have hD : va_D A (o_w cY aa sa bp j c ++ o_w cY ab sb bq k9 d) := hD
                    refine lv_aload_n hx hb dL_areAlike_150 rfl (lv_at hl 5 rfl) ?_
                    refine lv_iload hx hb dL_areAlike_151 (lv_at hl 1 rfl) ?_
                    refine f_TR (As := [.ref (ab 0), .int (nI (q_s (c.1 k)))]) (rest := [.int (n_ord (c.1 k))]) C0 hE hl hP hD hS (o_order l hfl D cY eS eO ab sb bq hBp k9 d hk9 hd (q_s (c.1 k)) (by first | assumption | omega | exact nm_lt _ _ | exact np_lt _ _ | exact q_s_lt _ | decide)) (vx_cwSW 2 hts gL_areAlike_L_order rfl rfl rfl (by decide +kernel) ⟨Nat.le_of_ble_eq_true rfl, Nat.le_of_ble_eq_true rfl⟩) dL_areAlike_153 rfl (Nat.le_of_ble_eq_true rfl) (Nat.le_of_ble_eq_true rfl) (Nat.le_of_ble_eq_true rfl) (fun _ => rfl) (fun r86 u H85 locs hw hP hD hS => ?_)
                    try dsimp only at hw
                    obtain rfl := hw
                    have hP : va_P D vwCl (o_w cY aa sa bp j c ++ o_w cY ab sb bq k9 d) H85 := hP
                    have hD : va_D A (o_w cY aa sa bp j c ++ o_w cY ab sb bq k9 d) := hD
                    refine lv_icmp_ne (tgt := 214) hx hb dL_areAlike_156 (by decide) (fun h => absurd (show n_ord (c.1 k) = n_ord (q_s (c.1 k)) from (q_ord hck).symm) h) (fun _ => ?_)
                    refine lv_aload_n hx hb dL_areAlike_159 rfl (lv_at hl 4 rfl) ?_
                    refine lv_iload hx hb dL_areAlike_160 (lv_at hl 2 rfl) ?_
                    refine f_TL (As := [.ref (aa 0), .int (nI (c.1 k))]) (rest := []) C0 hE hl hP hD hS (o_trace l hfl D cY eS eO aa sa bp hB j c hj hc (c.1 k) (by first | assumption | omega | exact nm_lt _ _ | exact np_lt _ _ | exact q_s_lt _ | decide)) (vx_cwSW 2 hts gL_areAlike_L_trace rfl rfl rfl (by decide +kernel) ⟨Nat.le_of_ble_eq_true rfl, Nat.le_of_ble_eq_true rfl⟩) dL_areAlike_162 rfl (Nat.le_of_ble_eq_true rfl) (Nat.le_of_ble_eq_true rfl) (Nat.le_of_ble_eq_true rfl) (fun _ => rfl) (fun r88 u H87 locs hw hP hD hS => ?_)
                    try dsimp only at hw
                    obtain rfl := hw
                    have hP : va_P D vwCl (o_w cY aa sa bp j c ++ o_w cY ab sb bq k9 d) H87 := hP
                    have hD : va_D A (o_w cY aa sa bp j c ++ o_w cY ab sb bq k9 d) := hD
                    refine lv_aload_n hx hb dL_areAlike_165 rfl (lv_at hl 5 rfl) ?_
                    refine lv_iload hx hb dL_areAlike_166 (lv_at hl 1 rfl) ?_
                    refine f_TR (As := [.ref (ab 0), .int (nI (q_s (c.1 k)))]) (rest := [.int (nI (n_tr (c.1 k) 16))]) C0 hE hl hP hD hS (o_trace l hfl D cY eS eO ab sb bq hBp k9 d hk9 hd (q_s (c.1 k)) (by first | assumption | omega | exact nm_lt _ _ | exact np_lt _ _ | exact q_s_lt _ | decide)) (vx_cwSW 2 hts gL_areAlike_L_trace rfl rfl rfl (by decide +kernel) ⟨Nat.le_of_ble_eq_true rfl, Nat.le_of_ble_eq_true rfl⟩) dL_areAlike_168 rfl (Nat.le_of_ble_eq_true rfl) (Nat.le_of_ble_eq_true rfl) (Nat.le_of_ble_eq_true rfl) (fun _ => rfl) (fun r90 u H89 locs hw hP hD hS => ?_)
                    try dsimp only at hw
                    obtain rfl := hw
                    have hP : va_P D vwCl (o_w cY aa sa bp j c ++ o_w cY ab sb bq k9 d) H89 := hP
                    have hD : va_D A (o_w cY aa sa bp j c ++ o_w cY ab sb bq k9 d) := hD
                    refine lv_icmp_ne (tgt := 214) hx hb dL_areAlike_171 (by decide) (fun h => absurd (show nI (n_tr (c.1 k) 16) = nI (n_tr (q_s (c.1 k)) 16) from congrArg nI (q_tr hck).symm) h) (fun _ => ?_)
                    refine lv_iload hx hb dL_areAlike_174 (lv_at hl 0 rfl) ?_
                    refine lv_if_ge (tgt := 191) hx hb dL_areAlike_176 (by decide) (fun c176 => ?_) (fun c176 => ?_)
                    · have c176 := c176
                      exfalso; exact absurd c176 (by decide)
                    · have c176 := c176
                      refine lv_aload_n hx hb dL_areAlike_179 rfl (lv_at hl 5 rfl) ?_
                      refine lv_iload hx hb dL_areAlike_180 (lv_at hl 1 rfl) ?_
                      refine f_TR (As := [.ref (ab 0), .int (nI (q_s (c.1 k)))]) (rest := []) C0 hE hl hP hD hS (o_solve l hfl D cY eS eO ab sb bq hBp k9 d hk9 hd (q_s (c.1 k)) (by first | assumption | omega | exact nm_lt _ _ | exact np_lt _ _ | exact q_s_lt _ | decide)) (vx_cwSW 2 hts gL_areAlike_L_solve rfl rfl rfl (by decide +kernel) ⟨Nat.le_of_ble_eq_true rfl, Nat.le_of_ble_eq_true rfl⟩) dL_areAlike_182 rfl (Nat.le_of_ble_eq_true rfl) (Nat.le_of_ble_eq_true rfl) (Nat.le_of_ble_eq_true rfl) (fun _ => rfl) (fun r92 u H91 locs hw hP hD hS => ?_)
                      try dsimp only at hw
                      obtain rfl := hw
                      have hP : va_P D vwCl (o_w cY aa sa bp j c ++ o_w cY ab sb bq k9 d) H91 := hP
                      have hD : va_D A (o_w cY aa sa bp j c ++ o_w cY ab sb bq k9 d) := hD
                      refine lv_topi (nm_r (esp) ?_)
                      refine lv_if_ge (tgt := 214) hx hb dL_areAlike_185 (by decide) (fun c185 => ?_) (fun c185 => ?_)
                      · have c185 := c185
                        exfalso; exact absurd c185 (by decide)
                      · have c185 := c185
                        refine lv_goto (tgt := 210) hx hb dL_areAlike_188 (by decide) ?_
                        refine lv_iconst (v := nI 1) hx hb dL_areAlike_210 (by decide) ?_
                        refine lv_goto (tgt := 215) hx hb dL_areAlike_211 (by decide) ?_
                        refine lv_istore_n (lv' := [(2, .int (nI 1)), (6, .int (-1)), (5, .int (nI (q_s (c.1 k)))), (4, .int (nI (c.1 k))), (3, .int (nI k)), (0, .ref (aa 0)), (1, .ref (ab 0))]) hx hb dL_areAlike_215 rfl hl (by decide) rfl (fun ls hl => ?_)
                        refine lv_iinc (v := nI (k + 1)) (lv' := [(3, .int (nI (k + 1))), (2, .int (nI 1)), (6, .int (-1)), (5, .int (nI (q_s (c.1 k)))), (4, .int (nI (c.1 k))), (0, .ref (aa 0)), (1, .ref (ab 0))]) hx hb dL_areAlike_216 hl (k := 4) rfl (nI_add _ 1) (by decide) rfl (fun ls hl => ?_)
                        refine lv_goto (tgt := 72) hx hb dL_areAlike_219 (by decide) ?_
                        exact ih72 (k + 1) _ _ ls (by first | assumption | omega) (by omega) hP hD hS (lv_sub hl [0, 5, 6, 1] rfl)
                · skip
                  refine lv_aload_n hx hb dL_areAlike_95 rfl (lv_at hl 3 rfl) ?_
                  refine lv_iload hx hb dL_areAlike_96 (lv_at hl 1 rfl) ?_
                  refine f_TL (As := [.ref (aa 0), .int (nI (c.1 k))]) (rest := []) C0 hE hl hP hD hS (o_solve l hfl D cY eS eO aa sa bp hB j c hj hc (c.1 k) (by first | assumption | omega | exact nm_lt _ _ | exact np_lt _ _ | exact q_s_lt _ | decide)) (vx_cwSW 2 hts gL_areAlike_L_solve rfl rfl rfl (by decide +kernel) ⟨Nat.le_of_ble_eq_true rfl, Nat.le_of_ble_eq_true rfl⟩) dL_areAlike_98 rfl (Nat.le_of_ble_eq_true rfl) (Nat.le_of_ble_eq_true rfl) (Nat.le_of_ble_eq_true rfl) (fun _ => rfl) (fun r94 u H93 locs hw hP hD hS => ?_)
                  try dsimp only at hw
                  obtain rfl := hw
                  have hP : va_P D vwCl (o_w cY aa sa bp j c ++ o_w cY ab sb bq k9 d) H93 := hP
                  have hD : va_D A (o_w cY aa sa bp j c ++ o_w cY ab sb bq k9 d) := hD
                  refine lv_topi (nm_r (eso) ?_)
                  refine lv_istore (lv' := [(6, .int (nI y)), (5, .int (nI (q_s (c.1 k)))), (4, .int (nI (c.1 k))), (3, .int (nI k)), (0, .ref (aa 0)), (1, .ref (ab 0)), (2, .int (nI 1))]) hx hb dL_areAlike_101 hl (by decide) rfl (fun ls hl => ?_)
                  refine lv_iload_n hx hb dL_areAlike_103 rfl (lv_at hl 6 rfl) ?_
                  refine lv_if_eq (tgt := 214) hx hb dL_areAlike_104 (by decide) (fun c104 => ?_) (fun c104 => ?_)
                  · exact absurd c104 (by decide)
                  · refine lv_aload_n hx hb dL_areAlike_107 rfl (lv_at hl 4 rfl) ?_
                    refine lv_iload hx hb dL_areAlike_108 (lv_at hl 2 rfl) ?_
                    refine f_SL (As := [.ref (aa 0), .int (nI (c.1 k))]) (rest := []) C0 hE hl hP hD hS (o_square l hfl D cY eS eO aa sa bp hB j c hj hc (c.1 k) (by first | assumption | omega | exact nm_lt _ _ | exact np_lt _ _ | exact q_s_lt _ | decide)) (va_cwS 2 hts gL_areAlike_L_square rfl rfl rfl (by decide +kernel) ⟨Nat.le_of_ble_eq_true rfl, Nat.le_of_ble_eq_true rfl⟩) dL_areAlike_110 rfl (Nat.le_of_ble_eq_true rfl) (Nat.le_of_ble_eq_true rfl) (Nat.le_of_ble_eq_true rfl) (fun _ => rfl) (fun r96 u H95 locs hw hP hD hS => ?_)
                    try dsimp only at hw
                    obtain rfl := hw
                    have hP : va_P D vwCl (o_w cY aa sa bp j c ++ o_w cY ab sb bq k9 d) H95 := hP
                    have hD : va_D A (o_w cY aa sa bp j c ++ o_w cY ab sb bq k9 d) := hD
                    refine lv_iload hx hb dL_areAlike_113 (lv_at hl 1 rfl) ?_
                    refine lv_icmp_ne (tgt := 214) hx hb dL_areAlike_115 (by decide) (fun h => absurd (show nI (q_s (c.1 k)) = nI (q_s (c.1 k)) from rfl) h) (fun _ => ?_)
                    refine lv_aload_n hx hb dL_areAlike_118 rfl (lv_at hl 5 rfl) ?_
                    refine lv_iload hx hb dL_areAlike_119 (lv_at hl 1 rfl) ?_
                    refine f_TR (As := [.ref (ab 0), .int (nI (q_s (c.1 k)))]) (rest := []) C0 hE hl hP hD hS (o_root l hfl D cY eS eO ab sb bq hBp k9 d hk9 hd (q_s (c.1 k)) (by first | assumption | omega | exact nm_lt _ _ | exact np_lt _ _ | exact q_s_lt _ | decide)) (vx_cwSW 2 hts gL_areAlike_L_root rfl rfl rfl (by decide +kernel) ⟨Nat.le_of_ble_eq_true rfl, Nat.le_of_ble_eq_true rfl⟩) dL_areAlike_121 rfl (Nat.le_of_ble_eq_true rfl) (Nat.le_of_ble_eq_true rfl) (Nat.le_of_ble_eq_true rfl) (fun _ => rfl) (fun r98 u H97 locs hw hP hD hS => ?_)
                    try dsimp only at hw
                    obtain rfl := hw
                    have hP : va_P D vwCl (o_w cY aa sa bp j c ++ o_w cY ab sb bq k9 d) H97 := hP
                    have hD : va_D A (o_w cY aa sa bp j c ++ o_w cY ab sb bq k9 d) := hD
                    refine lv_iload hx hb dL_areAlike_124 (lv_at hl 2 rfl) ?_
                    refine lv_icmp_ne (tgt := 214) hx hb dL_areAlike_126 (by decide) (fun h => absurd (show nI (np (q_s (c.1 k)) 32768) = nI (c.1 k) from congrArg nI (q_rt hck)) h) (fun _ => ?_)
                    refine lv_aload_n hx hb dL_areAlike_129 rfl (lv_at hl 4 rfl) ?_
                    refine lv_iload hx hb dL_areAlike_130 (lv_at hl 2 rfl) ?_
                    refine f_TL (As := [.ref (aa 0), .int (nI (c.1 k))]) (rest := []) C0 hE hl hP hD hS (o_field l hfl D cY eS eO aa sa bp hB j c hj hc (c.1 k) (by first | assumption | omega | exact nm_lt _ _ | exact np_lt _ _ | exact q_s_lt _ | decide)) (vx_cwSW 2 hts gL_areAlike_L_field rfl rfl rfl (by decide +kernel) ⟨Nat.le_of_ble_eq_true rfl, Nat.le_of_ble_eq_true rfl⟩) dL_areAlike_132 rfl (Nat.le_of_ble_eq_true rfl) (Nat.le_of_ble_eq_true rfl) (Nat.le_of_ble_eq_true rfl) (fun _ => rfl) (fun r100 u H99 locs hw hP hD hS => ?_)
                    try dsimp only at hw
                    obtain rfl := hw
                    have hP : va_P D vwCl (o_w cY aa sa bp j c ++ o_w cY ab sb bq k9 d) H99 := hP
                    have hD : va_D A (o_w cY aa sa bp j c ++ o_w cY ab sb bq k9 d) := hD
                    refine lv_aload_n hx hb dL_areAlike_135 rfl (lv_at hl 5 rfl) ?_
                    refine lv_iload hx hb dL_areAlike_136 (lv_at hl 1 rfl) ?_
                    refine f_TR (As := [.ref (ab 0), .int (nI (q_s (c.1 k)))]) (rest := [.int (nI (n_fld (c.1 k)))]) C0 hE hl hP hD hS (o_field l hfl D cY eS eO ab sb bq hBp k9 d hk9 hd (q_s (c.1 k)) (by first | assumption | omega | exact nm_lt _ _ | exact np_lt _ _ | exact q_s_lt _ | decide)) (vx_cwSW 2 hts gL_areAlike_L_field rfl rfl rfl (by decide +kernel) ⟨Nat.le_of_ble_eq_true rfl, Nat.le_of_ble_eq_true rfl⟩) dL_areAlike_138 rfl (Nat.le_of_ble_eq_true rfl) (Nat.le_of_ble_eq_true rfl) (Nat.le_of_ble_eq_true rfl) (fun _ => rfl) (fun r102 u H101 locs hw hP hD hS => ?_)
                    try dsimp only at hw
                    obtain rfl := hw
                    have hP : va_P D vwCl (o_w cY aa sa bp j c ++ o_w cY ab sb bq k9 d) H101 := hP
                    have hD : va_D A (o_w cY aa sa bp j c ++ o_w cY ab sb bq k9 d) := hD
                    refine lv_icmp_ne (tgt := 214) hx hb dL_areAlike_141 (by decide) (fun h => absurd (show nI (n_fld (c.1 k)) = nI (n_fld (q_s (c.1 k))) from congrArg nI (q_fld hck).symm) h) (fun _ => ?_)
                    refine lv_aload_n hx hb dL_areAlike_144 rfl (lv_at hl 4 rfl) ?_
                    refine lv_iload hx hb dL_areAlike_145 (lv_at hl 2 rfl) ?_
                    refine f_TL (As := [.ref (aa 0), .int (nI (c.1 k))]) (rest := []) C0 hE hl hP hD hS (o_order l hfl D cY eS eO aa sa bp hB j c hj hc (c.1 k) (by first | assumption | omega | exact nm_lt _ _ | exact np_lt _ _ | exact q_s_lt _ | decide)) (vx_cwSW 2 hts gL_areAlike_L_order rfl rfl rfl (by decide +kernel) ⟨Nat.le_of_ble_eq_true rfl, Nat.le_of_ble_eq_true rfl⟩) dL_areAlike_147 rfl (Nat.le_of_ble_eq_true rfl) (Nat.le_of_ble_eq_true rfl) (Nat.le_of_ble_eq_true rfl) (fun _ => rfl) (fun r104 u H103 locs hw hP hD hS => ?_)
                    try dsimp only at hw
                    obtain rfl := hw
                    have hP : va_P D vwCl (o_w cY aa sa bp j c ++ o_w cY ab sb bq k9 d) H103 := hP
                    have hD : va_D A (o_w cY aa sa bp j c ++ o_w cY ab sb bq k9 d) := hD
                    refine lv_aload_n hx hb dL_areAlike_150 rfl (lv_at hl 5 rfl) ?_
                    refine lv_iload hx hb dL_areAlike_151 (lv_at hl 1 rfl) ?_
                    refine f_TR (As := [.ref (ab 0), .int (nI (q_s (c.1 k)))]) (rest := [.int (n_ord (c.1 k))]) C0 hE hl hP hD hS (o_order l hfl D cY eS eO ab sb bq hBp k9 d hk9 hd (q_s (c.1 k)) (by first | assumption | omega | exact nm_lt _ _ | exact np_lt _ _ | exact q_s_lt _ | decide)) (vx_cwSW 2 hts gL_areAlike_L_order rfl rfl rfl (by decide +kernel) ⟨Nat.le_of_ble_eq_true rfl, Nat.le_of_ble_eq_true rfl⟩) dL_areAlike_153 rfl (Nat.le_of_ble_eq_true rfl) (Nat.le_of_ble_eq_true rfl) (Nat.le_of_ble_eq_true rfl) (fun _ => rfl) (fun r106 u H105 locs hw hP hD hS => ?_)
                    try dsimp only at hw
                    obtain rfl := hw
                    have hP : va_P D vwCl (o_w cY aa sa bp j c ++ o_w cY ab sb bq k9 d) H105 := hP
                    have hD : va_D A (o_w cY aa sa bp j c ++ o_w cY ab sb bq k9 d) := hD
                    refine lv_icmp_ne (tgt := 214) hx hb dL_areAlike_156 (by decide) (fun h => absurd (show n_ord (c.1 k) = n_ord (q_s (c.1 k)) from (q_ord hck).symm) h) (fun _ => ?_)
                    refine lv_aload_n hx hb dL_areAlike_159 rfl (lv_at hl 4 rfl) ?_
                    refine lv_iload hx hb dL_areAlike_160 (lv_at hl 2 rfl) ?_
                    refine f_TL (As := [.ref (aa 0), .int (nI (c.1 k))]) (rest := []) C0 hE hl hP hD hS (o_trace l hfl D cY eS eO aa sa bp hB j c hj hc (c.1 k) (by first | assumption | omega | exact nm_lt _ _ | exact np_lt _ _ | exact q_s_lt _ | decide)) (vx_cwSW 2 hts gL_areAlike_L_trace rfl rfl rfl (by decide +kernel) ⟨Nat.le_of_ble_eq_true rfl, Nat.le_of_ble_eq_true rfl⟩) dL_areAlike_162 rfl (Nat.le_of_ble_eq_true rfl) (Nat.le_of_ble_eq_true rfl) (Nat.le_of_ble_eq_true rfl) (fun _ => rfl) (fun r108 u H107 locs hw hP hD hS => ?_)
                    try dsimp only at hw
                    obtain rfl := hw
                    have hP : va_P D vwCl (o_w cY aa sa bp j c ++ o_w cY ab sb bq k9 d) H107 := hP
                    have hD : va_D A (o_w cY aa sa bp j c ++ o_w cY ab sb bq k9 d) := hD
                    refine lv_aload_n hx hb dL_areAlike_165 rfl (lv_at hl 5 rfl) ?_
                    refine lv_iload hx hb dL_areAlike_166 (lv_at hl 1 rfl) ?_
                    refine f_TR (As := [.ref (ab 0), .int (nI (q_s (c.1 k)))]) (rest := [.int (nI (n_tr (c.1 k) 16))]) C0 hE hl hP hD hS (o_trace l hfl D cY eS eO ab sb bq hBp k9 d hk9 hd (q_s (c.1 k)) (by first | assumption | omega | exact nm_lt _ _ | exact np_lt _ _ | exact q_s_lt _ | decide)) (vx_cwSW 2 hts gL_areAlike_L_trace rfl rfl rfl (by decide +kernel) ⟨Nat.le_of_ble_eq_true rfl, Nat.le_of_ble_eq_true rfl⟩) dL_areAlike_168 rfl (Nat.le_of_ble_eq_true rfl) (Nat.le_of_ble_eq_true rfl) (Nat.le_of_ble_eq_true rfl) (fun _ => rfl) (fun r110 u H109 locs hw hP hD hS => ?_)
                    try dsimp only at hw
                    obtain rfl := hw
                    have hP : va_P D vwCl (o_w cY aa sa bp j c ++ o_w cY ab sb bq k9 d) H109 := hP
                    have hD : va_D A (o_w cY aa sa bp j c ++ o_w cY ab sb bq k9 d) := hD
                    refine lv_icmp_ne (tgt := 214) hx hb dL_areAlike_171 (by decide) (fun h => absurd (show nI (n_tr (c.1 k) 16) = nI (n_tr (q_s (c.1 k)) 16) from congrArg nI (q_tr hck).symm) h) (fun _ => ?_)
                    refine lv_iload hx hb dL_areAlike_174 (lv_at hl 0 rfl) ?_
                    refine lv_if_ge (tgt := 191) hx hb dL_areAlike_176 (by decide) (fun c176 => ?_) (fun c176 => ?_)
                    · have c176 : 0 ≤ y := (nI_leI (a := 0) (b := y) (by first | omega | exact Nat.lt_of_le_of_lt Nat.and_le_right (by decide) | exact Nat.lt_trans (nm_lt _ _) (by decide) | exact Nat.lt_trans (np_lt _ _) (by decide) | exact Nat.lt_trans (p_at_lt htx) (by decide)) (by first | omega | exact Nat.lt_of_le_of_lt Nat.and_le_right (by decide) | exact Nat.lt_trans (nm_lt _ _) (by decide) | exact Nat.lt_trans (np_lt _ _) (by decide) | exact Nat.lt_trans (p_at_lt htx) (by decide))).mp c176
                      refine lv_aload_n hx hb dL_areAlike_191 rfl (lv_at hl 5 rfl) ?_
                      refine lv_iload hx hb dL_areAlike_192 (lv_at hl 1 rfl) ?_
                      refine f_TR (As := [.ref (ab 0), .int (nI (q_s (c.1 k)))]) (rest := []) C0 hE hl hP hD hS (o_solve l hfl D cY eS eO ab sb bq hBp k9 d hk9 hd (q_s (c.1 k)) (by first | assumption | omega | exact nm_lt _ _ | exact np_lt _ _ | exact q_s_lt _ | decide)) (vx_cwSW 2 hts gL_areAlike_L_solve rfl rfl rfl (by decide +kernel) ⟨Nat.le_of_ble_eq_true rfl, Nat.le_of_ble_eq_true rfl⟩) dL_areAlike_194 rfl (Nat.le_of_ble_eq_true rfl) (Nat.le_of_ble_eq_true rfl) (Nat.le_of_ble_eq_true rfl) (fun _ => rfl) (fun r112 u H111 locs hw hP hD hS => ?_)
                      try dsimp only at hw
                      obtain rfl := hw
                      have hP : va_P D vwCl (o_w cY aa sa bp j c ++ o_w cY ab sb bq k9 d) H111 := hP
                      have hD : va_D A (o_w cY aa sa bp j c ++ o_w cY ab sb bq k9 d) := hD
                      refine lv_topi (nm_r (esp) ?_)
                      refine lv_iconst (v := nI 1) hx hb dL_areAlike_197 (by decide) ?_
                      refine lv_ior hx hb dL_areAlike_198 ?_
                      refine lv_topi (nm_r (nx_or _ _) ?_)
                      refine lv_aload_n hx hb dL_areAlike_199 rfl (lv_at hl 4 rfl) ?_
                      refine lv_iload hx hb dL_areAlike_200 (lv_at hl 0 rfl) ?_
                      refine f_SL (As := [.ref (aa 0), .int (nI y)]) (rest := [.int (nI (z ||| 1))]) C0 hE hl hP hD hS (o_square l hfl D cY eS eO aa sa bp hB j c hj hc y (by first | assumption | omega | exact nm_lt _ _ | exact np_lt _ _ | exact q_s_lt _ | decide)) (va_cwS 2 hts gL_areAlike_L_square rfl rfl rfl (by decide +kernel) ⟨Nat.le_of_ble_eq_true rfl, Nat.le_of_ble_eq_true rfl⟩) dL_areAlike_202 rfl (Nat.le_of_ble_eq_true rfl) (Nat.le_of_ble_eq_true rfl) (Nat.le_of_ble_eq_true rfl) (fun _ => rfl) (fun r114 u H113 locs hw hP hD hS => ?_)
                      try dsimp only at hw
                      obtain rfl := hw
                      have hP : va_P D vwCl (o_w cY aa sa bp j c ++ o_w cY ab sb bq k9 d) H113 := hP
                      have hD : va_D A (o_w cY aa sa bp j c ++ o_w cY ab sb bq k9 d) := hD
                      refine lv_iconst (v := nI 1) hx hb dL_areAlike_205 (by decide) ?_
                      refine lv_ior hx hb dL_areAlike_206 ?_
                      refine lv_topi (nm_r (nx_or _ _) ?_)
                      refine lv_icmp_ne (tgt := 214) hx hb dL_areAlike_207 (by decide) (fun h => absurd (show nI (z ||| 1) = nI ((q_s y) ||| 1) from congrArg nI hzy) h) (fun _ => ?_)
                      refine lv_iconst (v := nI 1) hx hb dL_areAlike_210 (by decide) ?_
                      refine lv_goto (tgt := 215) hx hb dL_areAlike_211 (by decide) ?_
                      refine lv_istore_n (lv' := [(2, .int (nI 1)), (6, .int (nI y)), (5, .int (nI (q_s (c.1 k)))), (4, .int (nI (c.1 k))), (3, .int (nI k)), (0, .ref (aa 0)), (1, .ref (ab 0))]) hx hb dL_areAlike_215 rfl hl (by decide) rfl (fun ls hl => ?_)
                      refine lv_iinc (v := nI (k + 1)) (lv' := [(3, .int (nI (k + 1))), (2, .int (nI 1)), (6, .int (nI y)), (5, .int (nI (q_s (c.1 k)))), (4, .int (nI (c.1 k))), (0, .ref (aa 0)), (1, .ref (ab 0))]) hx hb dL_areAlike_216 hl (k := 4) rfl (nI_add _ 1) (by decide) rfl (fun ls hl => ?_)
                      refine lv_goto (tgt := 72) hx hb dL_areAlike_219 (by decide) ?_
                      exact ih72 (k + 1) _ _ ls (by first | assumption | omega) (by omega) hP hD hS (lv_sub hl [0, 5, 6, 1] rfl)
                    · have c176 : ¬ (0 ≤ y) := fun qq9 => c176 ((nI_leI (a := 0) (b := y) (by first | omega | exact Nat.lt_of_le_of_lt Nat.and_le_right (by decide) | exact Nat.lt_trans (nm_lt _ _) (by decide) | exact Nat.lt_trans (np_lt _ _) (by decide) | exact Nat.lt_trans (p_at_lt htx) (by decide)) (by first | omega | exact Nat.lt_of_le_of_lt Nat.and_le_right (by decide) | exact Nat.lt_trans (nm_lt _ _) (by decide) | exact Nat.lt_trans (np_lt _ _) (by decide) | exact Nat.lt_trans (p_at_lt htx) (by decide))).mpr qq9)
                      exfalso; omega
          exact lp72 _ 0 _ _ ls (by decide) (Nat.lt_succ_self _) hP hD hS (lv_sub hl [0, 2, 3, 1] rfl)
      · have c53 : ¬ (0 ≤ i8) := fun qq9 => c53 ((nI_leI (a := 0) (b := i8) (by first | omega | exact Nat.lt_of_le_of_lt Nat.and_le_right (by decide) | exact Nat.lt_trans (nm_lt _ _) (by decide) | exact Nat.lt_trans (np_lt _ _) (by decide) | exact Nat.lt_trans (p_at_lt htx) (by decide)) (by first | omega | exact Nat.lt_of_le_of_lt Nat.and_le_right (by decide) | exact Nat.lt_trans (nm_lt _ _) (by decide) | exact Nat.lt_trans (np_lt _ _) (by decide) | exact Nat.lt_trans (p_at_lt htx) (by decide))).mpr qq9)
        exfalso; omega
    · have c41 : ¬ (0 ≤ i9) := fun qq9 => c41 ((nI_leI (a := 0) (b := i9) (by first | omega | exact Nat.lt_of_le_of_lt Nat.and_le_right (by decide) | exact Nat.lt_trans (nm_lt _ _) (by decide) | exact Nat.lt_trans (np_lt _ _) (by decide) | exact Nat.lt_trans (p_at_lt htx) (by decide)) (by first | omega | exact Nat.lt_of_le_of_lt Nat.and_le_right (by decide) | exact Nat.lt_trans (nm_lt _ _) (by decide) | exact Nat.lt_trans (np_lt _ _) (by decide) | exact Nat.lt_trans (p_at_lt htx) (by decide))).mpr qq9)
      exfalso; omega
