/-! The law's methods. -/
set_option maxHeartbeats 8000000 in
set_option maxRecDepth 100000 in
theorem o_written_0 (l : Launch) (hfl : l.stackTraces = false) (D : va_G) (cY : Nat → ClassId) (eS : Nat → Nat) (eO : Nat) (aa sa bp : Nat → Nat) (hB : n_bp bp) (j : oJ) (c : oC) (hj : o_J j) (hc : o_C c) (to : Nat) (nb : Nat) (hto : to < 8) (hnb : nb < 65536) : m_Me l yL_written wsL_written 8 180 0 0 D cY eS eO [.ref (aa 0), .int (nI to), .int (nI 0), .int (nI nb)] (o_w cY aa sa bp j c) (fun (res : Int32) (u : oJ) => (res = nI nb) ∧ (o_J u) ∧ (o_C (o_rec c (m_up c.1 to nb) c.2.1))) (fun (u : oJ) => o_w cY aa sa bp u (o_rec c (m_up c.1 to nb) c.2.1)) := by
  refine m_enterE (cc := cL_written) (maxL := 6) (ret := (some .int)) (by decide +kernel) rfl (Nat.le_of_ble_eq_true rfl) ?_
  intro p e s m below meth cq A ls C0 hE hP hD hl
  obtain ⟨hx, hb, hr, hml, hts, hown, hlocks, hK, hA⟩ := id C0
  generalize hQ : MQ below _ _ s 0 0 A = Q
  have hS : va_S A s.heap s.heap [] := va_S.rf
  have hl : lv_has ls 6 [(0, .ref (aa 0)), (1, .int (nI to)), (2, .int (nI 0)), (3, .int (nI nb))] := hl
  have hj0 := hj.1
  refine lv_sipush (v := nI 10000) hx hb dL_written_0 (by decide) ?_
  refine lv_istore (lv' := [(4, .int (nI 10000)), (0, .ref (aa 0)), (1, .int (nI to)), (2, .int (nI 0)), (3, .int (nI nb))]) hx hb dL_written_3 hl (by decide) rfl (fun ls hl => ?_)
  refine lv_aload_n hx hb dL_written_5 rfl (lv_at hl 1 rfl) ?_
  refine f_VO (As := []) (rest := []) C0 hE hl hP hD hS (o_clearProgram l hfl D cY eS eO aa sa bp hB j c hj hc  ) (cwV 0 hts gL_written_X6_clearProgram rfl rfl rfl (by decide +kernel) ⟨Nat.le_of_ble_eq_true rfl, Nat.le_of_ble_eq_true rfl⟩) dL_written_6 0 rfl rfl rfl rfl (Nat.le_of_ble_eq_true rfl) (Nat.le_of_ble_eq_true rfl) (Nat.le_of_ble_eq_true rfl) (fun _ => rfl) (fun r2 u H1 locs hw hP hD hS => ?_)
  try dsimp only at hw
  obtain rfl := hw
  have hj3 : o_J (o_clr j) := o_J_clr hj
  have hP : va_P D vwCl (o_w cY aa sa bp (o_clr j) c) H1 := hP
  have hD : va_D A (o_w cY aa sa bp (o_clr j) c) := hD
  refine lv_if_lt (tgt := 63) hx hb dL_written_9 (by decide) (fun c9 => ?_) (fun c9 => ?_)
  · have c9 : j.1 < 0 := (nI_ltI (a := j.1) (b := 0) (by first | omega | exact Nat.lt_of_le_of_lt Nat.and_le_right (by decide) | exact Nat.lt_trans (nm_lt _ _) (by decide) | exact Nat.lt_trans (np_lt _ _) (by decide) | exact Nat.lt_trans (p_at_lt htx) (by decide)) (by first | omega | exact Nat.lt_of_le_of_lt Nat.and_le_right (by decide) | exact Nat.lt_trans (nm_lt _ _) (by decide) | exact Nat.lt_trans (np_lt _ _) (by decide) | exact Nat.lt_trans (p_at_lt htx) (by decide))).mp c9
    exfalso; omega
  · have c9 : ¬ (j.1 < 0) := fun qq9 => c9 ((nI_ltI (a := j.1) (b := 0) (by first | omega | exact Nat.lt_of_le_of_lt Nat.and_le_right (by decide) | exact Nat.lt_trans (nm_lt _ _) (by decide) | exact Nat.lt_trans (np_lt _ _) (by decide) | exact Nat.lt_trans (p_at_lt htx) (by decide)) (by first | omega | exact Nat.lt_of_le_of_lt Nat.and_le_right (by decide) | exact Nat.lt_trans (nm_lt _ _) (by decide) | exact Nat.lt_trans (np_lt _ _) (by decide) | exact Nat.lt_trans (p_at_lt htx) (by decide))).mpr qq9)
    refine lv_aload_n hx hb dL_written_12 rfl (lv_at hl 1 rfl) ?_
    refine lv_bipush (v := nI 65) hx hb dL_written_13 (by decide) ?_
    refine lv_iload_n hx hb dL_written_15 rfl (lv_at hl 2 rfl) ?_
    refine lv_iadd hx hb dL_written_16 ?_
    refine lv_topi (nm_r (nI_add _ _) ?_)
    refine f_TO (As := [.ref (aa 0), .int (nI (65 + to))]) (rest := []) C0 hE hl hP hD hS (o_type l hfl D cY eS eO aa sa bp hB (o_clr j) c hj3 hc (65 + to) (by first | assumption | omega | exact nm_lt _ _ | exact np_lt _ _ | exact q_s_lt _ | decide) (show 0 < 60 from by decide)) (vx_cwSW 2 hts gL_written_L_type rfl rfl rfl (by decide +kernel) ⟨Nat.le_of_ble_eq_true rfl, Nat.le_of_ble_eq_true rfl⟩) dL_written_17 rfl (Nat.le_of_ble_eq_true rfl) (Nat.le_of_ble_eq_true rfl) (Nat.le_of_ble_eq_true rfl) (fun _ => rfl) (fun r5 u H4 locs hw hP hD hS => ?_)
    try dsimp only at hw
    obtain rfl := hw
    have hj6 : o_J (o_put (o_clr j) (65 + to)) := o_J_put hj3 (by first | assumption | omega | exact nm_lt _ _ | exact np_lt _ _ | exact q_s_lt _ | decide) (show 0 < 60 from by decide)
    have hP : va_P D vwCl (o_w cY aa sa bp (o_put (o_clr j) (65 + to)) c) H4 := hP
    have hD : va_D A (o_w cY aa sa bp (o_put (o_clr j) (65 + to)) c) := hD
    refine lv_topi (nm_r (show nI ((o_clr j).1 + 1) = nI 1 from rfl) ?_)
    refine lv_iconst (v := nI 1) hx hb dL_written_20 (by decide) ?_
    refine lv_icmp_ne (tgt := 63) hx hb dL_written_21 (by decide) (fun c21 => ?_) (fun c21 => ?_)
    · exact absurd c21 (by decide)
    · refine lv_aload_n hx hb dL_written_24 rfl (lv_at hl 1 rfl) ?_
      refine lv_bipush (v := nI 61) hx hb dL_written_25 (by decide) ?_
      refine f_TO (As := [.ref (aa 0), .int (nI 61)]) (rest := []) C0 hE hl hP hD hS (o_type l hfl D cY eS eO aa sa bp hB (o_put (o_clr j) (65 + to)) c hj6 hc 61 (by first | assumption | omega | exact nm_lt _ _ | exact np_lt _ _ | exact q_s_lt _ | decide) (show 1 < 60 from by decide)) (vx_cwSW 2 hts gL_written_L_type rfl rfl rfl (by decide +kernel) ⟨Nat.le_of_ble_eq_true rfl, Nat.le_of_ble_eq_true rfl⟩) dL_written_27 rfl (Nat.le_of_ble_eq_true rfl) (Nat.le_of_ble_eq_true rfl) (Nat.le_of_ble_eq_true rfl) (fun _ => rfl) (fun r8 u H7 locs hw hP hD hS => ?_)
      try dsimp only at hw
      obtain rfl := hw
      have hj9 : o_J (o_put (o_put (o_clr j) (65 + to)) 61) := o_J_put hj6 (by first | assumption | omega | exact nm_lt _ _ | exact np_lt _ _ | exact q_s_lt _ | decide) (show 1 < 60 from by decide)
      have hP : va_P D vwCl (o_w cY aa sa bp (o_put (o_put (o_clr j) (65 + to)) 61) c) H7 := hP
      have hD : va_D A (o_w cY aa sa bp (o_put (o_put (o_clr j) (65 + to)) 61) c) := hD
      refine lv_topi (nm_r (show nI ((o_put (o_clr j) (65 + to)).1 + 1) = nI 2 from rfl) ?_)
      refine lv_iconst (v := nI 2) hx hb dL_written_30 (by decide) ?_
      refine lv_icmp_ne (tgt := 63) hx hb dL_written_31 (by decide) (fun c31 => ?_) (fun c31 => ?_)
      · exact absurd c31 (by decide)
      · refine lv_iload_n hx hb dL_written_34 rfl (lv_at hl 3 rfl) ?_
        refine lv_if_eq (tgt := 59) hx hb dL_written_35 (by decide) (fun c35 => ?_) (fun c35 => ?_)
        · refine lv_iconst (v := nI 1) hx hb dL_written_59 (by decide) ?_
          refine lv_goto (tgt := 64) hx hb dL_written_60 (by decide) ?_
          refine lv_istore (lv' := [(5, .int (nI 1)), (4, .int (nI 10000)), (0, .ref (aa 0)), (1, .int (nI to)), (2, .int (nI 0)), (3, .int (nI nb))]) hx hb dL_written_64 hl (by decide) rfl (fun ls hl => ?_)
          refine lv_iload hx hb dL_written_66 (lv_at hl 1 rfl) ?_
          refine lv_iconst (v := nI 1) hx hb dL_written_68 (by decide) ?_
          refine lv_icmp_le (tgt := 88) hx hb dL_written_69 (by decide) (fun c69 => ?_) (fun c69 => ?_)
          · exact absurd c69 (by decide)
          · refine lv_iload_n hx hb dL_written_72 rfl (lv_at hl 5 rfl) ?_
            refine lv_iload hx hb dL_written_73 (lv_at hl 1 rfl) ?_
            refine lv_icmp_ge (tgt := 88) hx hb dL_written_75 (by decide) (fun c75 => ?_) (fun c75 => ?_)
            · have c75 : 10000 ≤ nb := (nI_leI (a := 10000) (b := nb) (by first | omega | exact Nat.lt_of_le_of_lt Nat.and_le_right (by decide) | exact Nat.lt_trans (nm_lt _ _) (by decide) | exact Nat.lt_trans (np_lt _ _) (by decide) | exact Nat.lt_trans (p_at_lt htx) (by decide)) (by first | omega | exact Nat.lt_of_le_of_lt Nat.and_le_right (by decide) | exact Nat.lt_trans (nm_lt _ _) (by decide) | exact Nat.lt_trans (np_lt _ _) (by decide) | exact Nat.lt_trans (p_at_lt htx) (by decide))).mp c75
              refine lv_iload hx hb dL_written_88 (lv_at hl 1 rfl) ?_
              refine lv_if_le (tgt := 134) hx hb dL_written_90 (by decide) (fun c90 => ?_) (fun c90 => ?_)
              · exact absurd c90 (by decide)
              · refine lv_iload hx hb dL_written_93 (lv_at hl 0 rfl) ?_
                refine lv_if_eq (tgt := 121) hx hb dL_written_95 (by decide) (fun c95 => ?_) (fun c95 => ?_)
                · exact absurd c95 (by decide)
                · refine lv_aload_n hx hb dL_written_98 rfl (lv_at hl 2 rfl) ?_
                  refine lv_bipush (v := nI 48) hx hb dL_written_99 (by decide) ?_
                  refine lv_iload_n hx hb dL_written_101 rfl (lv_at hl 5 rfl) ?_
                  refine lv_iload hx hb dL_written_102 (lv_at hl 1 rfl) ?_
                  refine lv_idiv hx hb dL_written_104 (by decide) ?_
                  refine lv_topi (nm_r (pk_div (by omega) (by omega) (by omega)) ?_)
                  refine lv_bipush (v := nI 10) hx hb dL_written_105 (by decide) ?_
                  refine lv_irem hx hb dL_written_107 (by decide) ?_
                  refine lv_topi (nm_r (pk_rem (by omega) (by omega) (by omega)) ?_)
                  refine lv_iadd hx hb dL_written_108 ?_
                  refine lv_topi (nm_r (nI_add _ _) ?_)
                  refine f_TO (As := [.ref (aa 0), .int (nI (48 + ((nb / 10000) % 10)))]) (rest := []) C0 hE hl hP hD hS (o_type l hfl D cY eS eO aa sa bp hB (o_put (o_put (o_clr j) (65 + to)) 61) c hj9 hc (48 + ((nb / 10000) % 10)) (by first | assumption | omega | exact nm_lt _ _ | exact np_lt _ _ | exact q_s_lt _ | decide) (show 2 < 60 from by decide)) (vx_cwSW 2 hts gL_written_L_type rfl rfl rfl (by decide +kernel) ⟨Nat.le_of_ble_eq_true rfl, Nat.le_of_ble_eq_true rfl⟩) dL_written_109 rfl (Nat.le_of_ble_eq_true rfl) (Nat.le_of_ble_eq_true rfl) (Nat.le_of_ble_eq_true rfl) (fun _ => rfl) (fun r11 u H10 locs hw hP hD hS => ?_)
                  try dsimp only at hw
                  obtain rfl := hw
                  have hj12 : o_J (o_put (o_put (o_put (o_clr j) (65 + to)) 61) (48 + ((nb / 10000) % 10))) := o_J_put hj9 (by first | assumption | omega | exact nm_lt _ _ | exact np_lt _ _ | exact q_s_lt _ | decide) (show 2 < 60 from by decide)
                  have hP : va_P D vwCl (o_w cY aa sa bp (o_put (o_put (o_put (o_clr j) (65 + to)) 61) (48 + ((nb / 10000) % 10))) c) H10 := hP
                  have hD : va_D A (o_w cY aa sa bp (o_put (o_put (o_put (o_clr j) (65 + to)) 61) (48 + ((nb / 10000) % 10))) c) := hD
                  refine lv_topi (nm_r (show nI ((o_put (o_put (o_clr j) (65 + to)) 61).1 + 1) = nI 3 from rfl) ?_)
                  refine lv_bipush (v := nI 10) hx hb dL_written_112 (by decide) ?_
                  refine lv_icmp_ge (tgt := 121) hx hb dL_written_114 (by decide) (fun c114 => ?_) (fun c114 => ?_)
                  · exact absurd c114 (by decide)
                  · refine lv_iconst (v := nI 1) hx hb dL_written_117 (by decide) ?_
                    refine lv_goto (tgt := 122) hx hb dL_written_118 (by decide) ?_
                    refine lv_istore (lv' := [(5, .int (nI 1)), (4, .int (nI 10000)), (0, .ref (aa 0)), (1, .int (nI to)), (2, .int (nI 0)), (3, .int (nI nb))]) hx hb dL_written_122 hl (by decide) rfl (fun ls hl => ?_)
                    refine lv_iload hx hb dL_written_124 (lv_at hl 1 rfl) ?_
                    refine lv_bipush (v := nI 10) hx hb dL_written_126 (by decide) ?_
                    refine lv_idiv hx hb dL_written_128 (by decide) ?_
                    refine lv_topi (nm_r (show _ = nI 1000 from by decide) ?_)
                    refine lv_istore (lv' := [(4, .int (nI 1000)), (5, .int (nI 1)), (0, .ref (aa 0)), (1, .int (nI to)), (2, .int (nI 0)), (3, .int (nI nb))]) hx hb dL_written_129 hl (by decide) rfl (fun ls hl => ?_)
                    refine lv_goto (tgt := 88) hx hb dL_written_131 (by decide) ?_
                    refine lv_iload hx hb dL_written_88 (lv_at hl 0 rfl) ?_
                    refine lv_if_le (tgt := 134) hx hb dL_written_90 (by decide) (fun c90 => ?_) (fun c90 => ?_)
                    · exact absurd c90 (by decide)
                    · refine lv_iload hx hb dL_written_93 (lv_at hl 1 rfl) ?_
                      refine lv_if_eq (tgt := 121) hx hb dL_written_95 (by decide) (fun c95 => ?_) (fun c95 => ?_)
                      · exact absurd c95 (by decide)
                      · refine lv_aload_n hx hb dL_written_98 rfl (lv_at hl 2 rfl) ?_
                        refine lv_bipush (v := nI 48) hx hb dL_written_99 (by decide) ?_
                        refine lv_iload_n hx hb dL_written_101 rfl (lv_at hl 5 rfl) ?_
                        refine lv_iload hx hb dL_written_102 (lv_at hl 0 rfl) ?_
                        refine lv_idiv hx hb dL_written_104 (by decide) ?_
                        refine lv_topi (nm_r (pk_div (by omega) (by omega) (by omega)) ?_)
                        refine lv_bipush (v := nI 10) hx hb dL_written_105 (by decide) ?_
                        refine lv_irem hx hb dL_written_107 (by decide) ?_
                        refine lv_topi (nm_r (pk_rem (by omega) (by omega) (by omega)) ?_)
                        refine lv_iadd hx hb dL_written_108 ?_
                        refine lv_topi (nm_r (nI_add _ _) ?_)
                        refine f_TO (As := [.ref (aa 0), .int (nI (48 + ((nb / 1000) % 10)))]) (rest := []) C0 hE hl hP hD hS (o_type l hfl D cY eS eO aa sa bp hB (o_put (o_put (o_put (o_clr j) (65 + to)) 61) (48 + ((nb / 10000) % 10))) c hj12 hc (48 + ((nb / 1000) % 10)) (by first | assumption | omega | exact nm_lt _ _ | exact np_lt _ _ | exact q_s_lt _ | decide) (show 3 < 60 from by decide)) (vx_cwSW 2 hts gL_written_L_type rfl rfl rfl (by decide +kernel) ⟨Nat.le_of_ble_eq_true rfl, Nat.le_of_ble_eq_true rfl⟩) dL_written_109 rfl (Nat.le_of_ble_eq_true rfl) (Nat.le_of_ble_eq_true rfl) (Nat.le_of_ble_eq_true rfl) (fun _ => rfl) (fun r14 u H13 locs hw hP hD hS => ?_)
                        try dsimp only at hw
                        obtain rfl := hw
                        have hj15 : o_J (o_put (o_put (o_put (o_put (o_clr j) (65 + to)) 61) (48 + ((nb / 10000) % 10))) (48 + ((nb / 1000) % 10))) := o_J_put hj12 (by first | assumption | omega | exact nm_lt _ _ | exact np_lt _ _ | exact q_s_lt _ | decide) (show 3 < 60 from by decide)
                        have hP : va_P D vwCl (o_w cY aa sa bp (o_put (o_put (o_put (o_put (o_clr j) (65 + to)) 61) (48 + ((nb / 10000) % 10))) (48 + ((nb / 1000) % 10))) c) H13 := hP
                        have hD : va_D A (o_w cY aa sa bp (o_put (o_put (o_put (o_put (o_clr j) (65 + to)) 61) (48 + ((nb / 10000) % 10))) (48 + ((nb / 1000) % 10))) c) := hD
                        refine lv_topi (nm_r (show nI ((o_put (o_put (o_put (o_clr j) (65 + to)) 61) (48 + ((nb / 10000) % 10))).1 + 1) = nI 4 from rfl) ?_)
                        refine lv_bipush (v := nI 10) hx hb dL_written_112 (by decide) ?_
                        refine lv_icmp_ge (tgt := 121) hx hb dL_written_114 (by decide) (fun c114 => ?_) (fun c114 => ?_)
                        · exact absurd c114 (by decide)
                        · refine lv_iconst (v := nI 1) hx hb dL_written_117 (by decide) ?_
                          refine lv_goto (tgt := 122) hx hb dL_written_118 (by decide) ?_
                          refine lv_istore (lv' := [(5, .int (nI 1)), (4, .int (nI 1000)), (0, .ref (aa 0)), (1, .int (nI to)), (2, .int (nI 0)), (3, .int (nI nb))]) hx hb dL_written_122 hl (by decide) rfl (fun ls hl => ?_)
                          refine lv_iload hx hb dL_written_124 (lv_at hl 1 rfl) ?_
                          refine lv_bipush (v := nI 10) hx hb dL_written_126 (by decide) ?_
                          refine lv_idiv hx hb dL_written_128 (by decide) ?_
                          refine lv_topi (nm_r (show _ = nI 100 from by decide) ?_)
                          refine lv_istore (lv' := [(4, .int (nI 100)), (5, .int (nI 1)), (0, .ref (aa 0)), (1, .int (nI to)), (2, .int (nI 0)), (3, .int (nI nb))]) hx hb dL_written_129 hl (by decide) rfl (fun ls hl => ?_)
                          refine lv_goto (tgt := 88) hx hb dL_written_131 (by decide) ?_
                          refine lv_iload hx hb dL_written_88 (lv_at hl 0 rfl) ?_
                          refine lv_if_le (tgt := 134) hx hb dL_written_90 (by decide) (fun c90 => ?_) (fun c90 => ?_)
                          · exact absurd c90 (by decide)
                          · refine lv_iload hx hb dL_written_93 (lv_at hl 1 rfl) ?_
                            refine lv_if_eq (tgt := 121) hx hb dL_written_95 (by decide) (fun c95 => ?_) (fun c95 => ?_)
                            · exact absurd c95 (by decide)
                            · refine lv_aload_n hx hb dL_written_98 rfl (lv_at hl 2 rfl) ?_
                              refine lv_bipush (v := nI 48) hx hb dL_written_99 (by decide) ?_
                              refine lv_iload_n hx hb dL_written_101 rfl (lv_at hl 5 rfl) ?_
                              refine lv_iload hx hb dL_written_102 (lv_at hl 0 rfl) ?_
                              refine lv_idiv hx hb dL_written_104 (by decide) ?_
                              refine lv_topi (nm_r (pk_div (by omega) (by omega) (by omega)) ?_)
                              refine lv_bipush (v := nI 10) hx hb dL_written_105 (by decide) ?_
                              refine lv_irem hx hb dL_written_107 (by decide) ?_
                              refine lv_topi (nm_r (pk_rem (by omega) (by omega) (by omega)) ?_)
                              refine lv_iadd hx hb dL_written_108 ?_
                              refine lv_topi (nm_r (nI_add _ _) ?_)
                              refine f_TO (As := [.ref (aa 0), .int (nI (48 + ((nb / 100) % 10)))]) (rest := []) C0 hE hl hP hD hS (o_type l hfl D cY eS eO aa sa bp hB (o_put (o_put (o_put (o_put (o_clr j) (65 + to)) 61) (48 + ((nb / 10000) % 10))) (48 + ((nb / 1000) % 10))) c hj15 hc (48 + ((nb / 100) % 10)) (by first | assumption | omega | exact nm_lt _ _ | exact np_lt _ _ | exact q_s_lt _ | decide) (show 4 < 60 from by decide)) (vx_cwSW 2 hts gL_written_L_type rfl rfl rfl (by decide +kernel) ⟨Nat.le_of_ble_eq_true rfl, Nat.le_of_ble_eq_true rfl⟩) dL_written_109 rfl (Nat.le_of_ble_eq_true rfl) (Nat.le_of_ble_eq_true rfl) (Nat.le_of_ble_eq_true rfl) (fun _ => rfl) (fun r17 u H16 locs hw hP hD hS => ?_)
                              try dsimp only at hw
                              obtain rfl := hw
                              have hj18 : o_J (o_put (o_put (o_put (o_put (o_put (o_clr j) (65 + to)) 61) (48 + ((nb / 10000) % 10))) (48 + ((nb / 1000) % 10))) (48 + ((nb / 100) % 10))) := o_J_put hj15 (by first | assumption | omega | exact nm_lt _ _ | exact np_lt _ _ | exact q_s_lt _ | decide) (show 4 < 60 from by decide)
                              have hP : va_P D vwCl (o_w cY aa sa bp (o_put (o_put (o_put (o_put (o_put (o_clr j) (65 + to)) 61) (48 + ((nb / 10000) % 10))) (48 + ((nb / 1000) % 10))) (48 + ((nb / 100) % 10))) c) H16 := hP
                              have hD : va_D A (o_w cY aa sa bp (o_put (o_put (o_put (o_put (o_put (o_clr j) (65 + to)) 61) (48 + ((nb / 10000) % 10))) (48 + ((nb / 1000) % 10))) (48 + ((nb / 100) % 10))) c) := hD
                              refine lv_topi (nm_r (show nI ((o_put (o_put (o_put (o_put (o_clr j) (65 + to)) 61) (48 + ((nb / 10000) % 10))) (48 + ((nb / 1000) % 10))).1 + 1) = nI 5 from rfl) ?_)
                              refine lv_bipush (v := nI 10) hx hb dL_written_112 (by decide) ?_
                              refine lv_icmp_ge (tgt := 121) hx hb dL_written_114 (by decide) (fun c114 => ?_) (fun c114 => ?_)
                              · exact absurd c114 (by decide)
                              · refine lv_iconst (v := nI 1) hx hb dL_written_117 (by decide) ?_
                                refine lv_goto (tgt := 122) hx hb dL_written_118 (by decide) ?_
                                refine lv_istore (lv' := [(5, .int (nI 1)), (4, .int (nI 100)), (0, .ref (aa 0)), (1, .int (nI to)), (2, .int (nI 0)), (3, .int (nI nb))]) hx hb dL_written_122 hl (by decide) rfl (fun ls hl => ?_)
                                refine lv_iload hx hb dL_written_124 (lv_at hl 1 rfl) ?_
                                refine lv_bipush (v := nI 10) hx hb dL_written_126 (by decide) ?_
                                refine lv_idiv hx hb dL_written_128 (by decide) ?_
                                refine lv_topi (nm_r (show _ = nI 10 from by decide) ?_)
                                refine lv_istore (lv' := [(4, .int (nI 10)), (5, .int (nI 1)), (0, .ref (aa 0)), (1, .int (nI to)), (2, .int (nI 0)), (3, .int (nI nb))]) hx hb dL_written_129 hl (by decide) rfl (fun ls hl => ?_)
                                refine lv_goto (tgt := 88) hx hb dL_written_131 (by decide) ?_
                                refine lv_iload hx hb dL_written_88 (lv_at hl 0 rfl) ?_
                                refine lv_if_le (tgt := 134) hx hb dL_written_90 (by decide) (fun c90 => ?_) (fun c90 => ?_)
                                · exact absurd c90 (by decide)
                                · refine lv_iload hx hb dL_written_93 (lv_at hl 1 rfl) ?_
                                  refine lv_if_eq (tgt := 121) hx hb dL_written_95 (by decide) (fun c95 => ?_) (fun c95 => ?_)
                                  · exact absurd c95 (by decide)
                                  · refine lv_aload_n hx hb dL_written_98 rfl (lv_at hl 2 rfl) ?_
                                    refine lv_bipush (v := nI 48) hx hb dL_written_99 (by decide) ?_
                                    refine lv_iload_n hx hb dL_written_101 rfl (lv_at hl 5 rfl) ?_
                                    refine lv_iload hx hb dL_written_102 (lv_at hl 0 rfl) ?_
                                    refine lv_idiv hx hb dL_written_104 (by decide) ?_
                                    refine lv_topi (nm_r (pk_div (by omega) (by omega) (by omega)) ?_)
                                    refine lv_bipush (v := nI 10) hx hb dL_written_105 (by decide) ?_
                                    refine lv_irem hx hb dL_written_107 (by decide) ?_
                                    refine lv_topi (nm_r (pk_rem (by omega) (by omega) (by omega)) ?_)
                                    refine lv_iadd hx hb dL_written_108 ?_
                                    refine lv_topi (nm_r (nI_add _ _) ?_)
                                    refine f_TO (As := [.ref (aa 0), .int (nI (48 + ((nb / 10) % 10)))]) (rest := []) C0 hE hl hP hD hS (o_type l hfl D cY eS eO aa sa bp hB (o_put (o_put (o_put (o_put (o_put (o_clr j) (65 + to)) 61) (48 + ((nb / 10000) % 10))) (48 + ((nb / 1000) % 10))) (48 + ((nb / 100) % 10))) c hj18 hc (48 + ((nb / 10) % 10)) (by first | assumption | omega | exact nm_lt _ _ | exact np_lt _ _ | exact q_s_lt _ | decide) (show 5 < 60 from by decide)) (vx_cwSW 2 hts gL_written_L_type rfl rfl rfl (by decide +kernel) ⟨Nat.le_of_ble_eq_true rfl, Nat.le_of_ble_eq_true rfl⟩) dL_written_109 rfl (Nat.le_of_ble_eq_true rfl) (Nat.le_of_ble_eq_true rfl) (Nat.le_of_ble_eq_true rfl) (fun _ => rfl) (fun r20 u H19 locs hw hP hD hS => ?_)
                                    try dsimp only at hw
                                    obtain rfl := hw
                                    have hj21 : o_J (o_put (o_put (o_put (o_put (o_put (o_put (o_clr j) (65 + to)) 61) (48 + ((nb / 10000) % 10))) (48 + ((nb / 1000) % 10))) (48 + ((nb / 100) % 10))) (48 + ((nb / 10) % 10))) := o_J_put hj18 (by first | assumption | omega | exact nm_lt _ _ | exact np_lt _ _ | exact q_s_lt _ | decide) (show 5 < 60 from by decide)
                                    have hP : va_P D vwCl (o_w cY aa sa bp (o_put (o_put (o_put (o_put (o_put (o_put (o_clr j) (65 + to)) 61) (48 + ((nb / 10000) % 10))) (48 + ((nb / 1000) % 10))) (48 + ((nb / 100) % 10))) (48 + ((nb / 10) % 10))) c) H19 := hP
                                    have hD : va_D A (o_w cY aa sa bp (o_put (o_put (o_put (o_put (o_put (o_put (o_clr j) (65 + to)) 61) (48 + ((nb / 10000) % 10))) (48 + ((nb / 1000) % 10))) (48 + ((nb / 100) % 10))) (48 + ((nb / 10) % 10))) c) := hD
                                    refine lv_topi (nm_r (show nI ((o_put (o_put (o_put (o_put (o_put (o_clr j) (65 + to)) 61) (48 + ((nb / 10000) % 10))) (48 + ((nb / 1000) % 10))) (48 + ((nb / 100) % 10))).1 + 1) = nI 6 from rfl) ?_)
                                    refine lv_bipush (v := nI 10) hx hb dL_written_112 (by decide) ?_
                                    refine lv_icmp_ge (tgt := 121) hx hb dL_written_114 (by decide) (fun c114 => ?_) (fun c114 => ?_)
                                    · exact absurd c114 (by decide)
                                    · refine lv_iconst (v := nI 1) hx hb dL_written_117 (by decide) ?_
                                      refine lv_goto (tgt := 122) hx hb dL_written_118 (by decide) ?_
                                      refine lv_istore (lv' := [(5, .int (nI 1)), (4, .int (nI 10)), (0, .ref (aa 0)), (1, .int (nI to)), (2, .int (nI 0)), (3, .int (nI nb))]) hx hb dL_written_122 hl (by decide) rfl (fun ls hl => ?_)
                                      refine lv_iload hx hb dL_written_124 (lv_at hl 1 rfl) ?_
                                      refine lv_bipush (v := nI 10) hx hb dL_written_126 (by decide) ?_
                                      refine lv_idiv hx hb dL_written_128 (by decide) ?_
                                      refine lv_topi (nm_r (show _ = nI 1 from by decide) ?_)
                                      refine lv_istore (lv' := [(4, .int (nI 1)), (5, .int (nI 1)), (0, .ref (aa 0)), (1, .int (nI to)), (2, .int (nI 0)), (3, .int (nI nb))]) hx hb dL_written_129 hl (by decide) rfl (fun ls hl => ?_)
                                      refine lv_goto (tgt := 88) hx hb dL_written_131 (by decide) ?_
                                      refine lv_iload hx hb dL_written_88 (lv_at hl 0 rfl) ?_
                                      refine lv_if_le (tgt := 134) hx hb dL_written_90 (by decide) (fun c90 => ?_) (fun c90 => ?_)
                                      · exact absurd c90 (by decide)
                                      · refine lv_iload hx hb dL_written_93 (lv_at hl 1 rfl) ?_
                                        refine lv_if_eq (tgt := 121) hx hb dL_written_95 (by decide) (fun c95 => ?_) (fun c95 => ?_)
                                        · exact absurd c95 (by decide)
                                        · refine lv_aload_n hx hb dL_written_98 rfl (lv_at hl 2 rfl) ?_
                                          refine lv_bipush (v := nI 48) hx hb dL_written_99 (by decide) ?_
                                          refine lv_iload_n hx hb dL_written_101 rfl (lv_at hl 5 rfl) ?_
                                          refine lv_iload hx hb dL_written_102 (lv_at hl 0 rfl) ?_
                                          refine lv_idiv hx hb dL_written_104 (by decide) ?_
                                          refine lv_topi (nm_r (pk_div (by omega) (by omega) (by omega)) ?_)
                                          refine lv_bipush (v := nI 10) hx hb dL_written_105 (by decide) ?_
                                          refine lv_irem hx hb dL_written_107 (by decide) ?_
                                          refine lv_topi (nm_r (pk_rem (by omega) (by omega) (by omega)) ?_)
                                          refine lv_iadd hx hb dL_written_108 ?_
                                          refine lv_topi (nm_r (nI_add _ _) ?_)
                                          refine f_TO (As := [.ref (aa 0), .int (nI (48 + ((nb / 1) % 10)))]) (rest := []) C0 hE hl hP hD hS (o_type l hfl D cY eS eO aa sa bp hB (o_put (o_put (o_put (o_put (o_put (o_put (o_clr j) (65 + to)) 61) (48 + ((nb / 10000) % 10))) (48 + ((nb / 1000) % 10))) (48 + ((nb / 100) % 10))) (48 + ((nb / 10) % 10))) c hj21 hc (48 + ((nb / 1) % 10)) (by first | assumption | omega | exact nm_lt _ _ | exact np_lt _ _ | exact q_s_lt _ | decide) (show 6 < 60 from by decide)) (vx_cwSW 2 hts gL_written_L_type rfl rfl rfl (by decide +kernel) ⟨Nat.le_of_ble_eq_true rfl, Nat.le_of_ble_eq_true rfl⟩) dL_written_109 rfl (Nat.le_of_ble_eq_true rfl) (Nat.le_of_ble_eq_true rfl) (Nat.le_of_ble_eq_true rfl) (fun _ => rfl) (fun r23 u H22 locs hw hP hD hS => ?_)
                                          try dsimp only at hw
                                          obtain rfl := hw
                                          have hj24 : o_J (o_put (o_put (o_put (o_put (o_put (o_put (o_put (o_clr j) (65 + to)) 61) (48 + ((nb / 10000) % 10))) (48 + ((nb / 1000) % 10))) (48 + ((nb / 100) % 10))) (48 + ((nb / 10) % 10))) (48 + ((nb / 1) % 10))) := o_J_put hj21 (by first | assumption | omega | exact nm_lt _ _ | exact np_lt _ _ | exact q_s_lt _ | decide) (show 6 < 60 from by decide)
                                          have hP : va_P D vwCl (o_w cY aa sa bp (o_put (o_put (o_put (o_put (o_put (o_put (o_put (o_clr j) (65 + to)) 61) (48 + ((nb / 10000) % 10))) (48 + ((nb / 1000) % 10))) (48 + ((nb / 100) % 10))) (48 + ((nb / 10) % 10))) (48 + ((nb / 1) % 10))) c) H22 := hP
                                          have hD : va_D A (o_w cY aa sa bp (o_put (o_put (o_put (o_put (o_put (o_put (o_put (o_clr j) (65 + to)) 61) (48 + ((nb / 10000) % 10))) (48 + ((nb / 1000) % 10))) (48 + ((nb / 100) % 10))) (48 + ((nb / 10) % 10))) (48 + ((nb / 1) % 10))) c) := hD
                                          refine lv_topi (nm_r (show nI ((o_put (o_put (o_put (o_put (o_put (o_put (o_clr j) (65 + to)) 61) (48 + ((nb / 10000) % 10))) (48 + ((nb / 1000) % 10))) (48 + ((nb / 100) % 10))) (48 + ((nb / 10) % 10))).1 + 1) = nI 7 from rfl) ?_)
                                          refine lv_bipush (v := nI 10) hx hb dL_written_112 (by decide) ?_
                                          refine lv_icmp_ge (tgt := 121) hx hb dL_written_114 (by decide) (fun c114 => ?_) (fun c114 => ?_)
                                          · exact absurd c114 (by decide)
                                          · refine lv_iconst (v := nI 1) hx hb dL_written_117 (by decide) ?_
                                            refine lv_goto (tgt := 122) hx hb dL_written_118 (by decide) ?_
                                            refine lv_istore (lv' := [(5, .int (nI 1)), (4, .int (nI 1)), (0, .ref (aa 0)), (1, .int (nI to)), (2, .int (nI 0)), (3, .int (nI nb))]) hx hb dL_written_122 hl (by decide) rfl (fun ls hl => ?_)
                                            refine lv_iload hx hb dL_written_124 (lv_at hl 1 rfl) ?_
                                            refine lv_bipush (v := nI 10) hx hb dL_written_126 (by decide) ?_
                                            refine lv_idiv hx hb dL_written_128 (by decide) ?_
                                            refine lv_topi (nm_r (show _ = nI 0 from by decide) ?_)
                                            refine lv_istore (lv' := [(4, .int (nI 0)), (5, .int (nI 1)), (0, .ref (aa 0)), (1, .int (nI to)), (2, .int (nI 0)), (3, .int (nI nb))]) hx hb dL_written_129 hl (by decide) rfl (fun ls hl => ?_)
                                            refine lv_goto (tgt := 88) hx hb dL_written_131 (by decide) ?_
                                            refine lv_iload hx hb dL_written_88 (lv_at hl 0 rfl) ?_
                                            refine lv_if_le (tgt := 134) hx hb dL_written_90 (by decide) (fun c90 => ?_) (fun c90 => ?_)
                                            · refine lv_iload hx hb dL_written_134 (lv_at hl 1 rfl) ?_
                                              refine lv_if_eq (tgt := 146) hx hb dL_written_136 (by decide) (fun c136 => ?_) (fun c136 => ?_)
                                              · exact absurd c136 (by decide)
                                              · refine lv_aload_n hx hb dL_written_139 rfl (lv_at hl 2 rfl) ?_
                                                refine f_TO (As := [.ref (aa 0)]) (rest := []) C0 hE hl hP hD hS (o_carry l hfl D cY eS eO aa sa bp hB (o_put (o_put (o_put (o_put (o_put (o_put (o_put (o_clr j) (65 + to)) 61) (48 + ((nb / 10000) % 10))) (48 + ((nb / 1000) % 10))) (48 + ((nb / 100) % 10))) (48 + ((nb / 10) % 10))) (48 + ((nb / 1) % 10))) c hj24 hc ([(to, 0, nb, 0)]) (to, 0, nb, 0) (m_up c.1 to nb) c.2.1 (w_z5 j hto (by omega) (by omega) (by omega)) (w_run0 hnb) (rfl) (hto) ((o_g_up hc.1 hto hnb).1)) (vx_cwSW 1 hts gL_written_L_carryOut rfl rfl rfl (by decide +kernel) ⟨Nat.le_of_ble_eq_true rfl, Nat.le_of_ble_eq_true rfl⟩) dL_written_140 rfl (Nat.le_of_ble_eq_true rfl) (Nat.le_of_ble_eq_true rfl) (Nat.le_of_ble_eq_true rfl) (fun _ => rfl) (fun r26 u H25 locs hw hP hD hS => ?_)
                                                obtain ⟨j2_27, rfl⟩ : ∃ z, z = u := ⟨_, rfl⟩
                                                try dsimp only at hw
                                                obtain ⟨rfl, hq28⟩ := hw
                                                have hj29 : o_J j2_27 := hq28
                                                have hc30 : o_C (o_rec c (m_up c.1 to nb) c.2.1) := o_C_rec hc (o_g_up hc.1 hto hnb)
                                                have hP : va_P D vwCl (o_w cY aa sa bp j2_27 (o_rec c (m_up c.1 to nb) c.2.1)) H25 := hP
                                                have hD : va_D A (o_w cY aa sa bp j2_27 (o_rec c (m_up c.1 to nb) c.2.1)) := hD
                                                refine lv_goto (tgt := 148) hx hb dL_written_143 (by decide) ?_
                                                subst hQ
                                                exact f_iret (by decide) (by decide) C0 hS dL_written_148 (u := j2_27) hP (⟨congrArg nI (m_ups _ _ _), hj29, hc30⟩)
                                            · exact absurd c90 (by decide)
            · have c75 : ¬ (10000 ≤ nb) := fun qq9 => c75 ((nI_leI (a := 10000) (b := nb) (by first | omega | exact Nat.lt_of_le_of_lt Nat.and_le_right (by decide) | exact Nat.lt_trans (nm_lt _ _) (by decide) | exact Nat.lt_trans (np_lt _ _) (by decide) | exact Nat.lt_trans (p_at_lt htx) (by decide)) (by first | omega | exact Nat.lt_of_le_of_lt Nat.and_le_right (by decide) | exact Nat.lt_trans (nm_lt _ _) (by decide) | exact Nat.lt_trans (np_lt _ _) (by decide) | exact Nat.lt_trans (p_at_lt htx) (by decide))).mpr qq9)
              refine lv_iload hx hb dL_written_78 (lv_at hl 1 rfl) ?_
              refine lv_bipush (v := nI 10) hx hb dL_written_80 (by decide) ?_
              refine lv_idiv hx hb dL_written_82 (by decide) ?_
              refine lv_topi (nm_r (show _ = nI 1000 from by decide) ?_)
              refine lv_istore (lv' := [(4, .int (nI 1000)), (5, .int (nI 1)), (0, .ref (aa 0)), (1, .int (nI to)), (2, .int (nI 0)), (3, .int (nI nb))]) hx hb dL_written_83 hl (by decide) rfl (fun ls hl => ?_)
              refine lv_goto (tgt := 66) hx hb dL_written_85 (by decide) ?_
              refine lv_iload hx hb dL_written_66 (lv_at hl 0 rfl) ?_
              refine lv_iconst (v := nI 1) hx hb dL_written_68 (by decide) ?_
              refine lv_icmp_le (tgt := 88) hx hb dL_written_69 (by decide) (fun c69 => ?_) (fun c69 => ?_)
              · exact absurd c69 (by decide)
              · refine lv_iload_n hx hb dL_written_72 rfl (lv_at hl 5 rfl) ?_
                refine lv_iload hx hb dL_written_73 (lv_at hl 0 rfl) ?_
                refine lv_icmp_ge (tgt := 88) hx hb dL_written_75 (by decide) (fun c75 => ?_) (fun c75 => ?_)
                · have c75 : 1000 ≤ nb := (nI_leI (a := 1000) (b := nb) (by first | omega | exact Nat.lt_of_le_of_lt Nat.and_le_right (by decide) | exact Nat.lt_trans (nm_lt _ _) (by decide) | exact Nat.lt_trans (np_lt _ _) (by decide) | exact Nat.lt_trans (p_at_lt htx) (by decide)) (by first | omega | exact Nat.lt_of_le_of_lt Nat.and_le_right (by decide) | exact Nat.lt_trans (nm_lt _ _) (by decide) | exact Nat.lt_trans (np_lt _ _) (by decide) | exact Nat.lt_trans (p_at_lt htx) (by decide))).mp c75
                  refine lv_iload hx hb dL_written_88 (lv_at hl 0 rfl) ?_
                  refine lv_if_le (tgt := 134) hx hb dL_written_90 (by decide) (fun c90 => ?_) (fun c90 => ?_)
                  · exact absurd c90 (by decide)
                  · refine lv_iload hx hb dL_written_93 (lv_at hl 1 rfl) ?_
                    refine lv_if_eq (tgt := 121) hx hb dL_written_95 (by decide) (fun c95 => ?_) (fun c95 => ?_)
                    · exact absurd c95 (by decide)
                    · refine lv_aload_n hx hb dL_written_98 rfl (lv_at hl 2 rfl) ?_
                      refine lv_bipush (v := nI 48) hx hb dL_written_99 (by decide) ?_
                      refine lv_iload_n hx hb dL_written_101 rfl (lv_at hl 5 rfl) ?_
                      refine lv_iload hx hb dL_written_102 (lv_at hl 0 rfl) ?_
                      refine lv_idiv hx hb dL_written_104 (by decide) ?_
                      refine lv_topi (nm_r (pk_div (by omega) (by omega) (by omega)) ?_)
                      refine lv_bipush (v := nI 10) hx hb dL_written_105 (by decide) ?_
                      refine lv_irem hx hb dL_written_107 (by decide) ?_
                      refine lv_topi (nm_r (pk_rem (by omega) (by omega) (by omega)) ?_)
                      refine lv_iadd hx hb dL_written_108 ?_
                      refine lv_topi (nm_r (nI_add _ _) ?_)
                      refine f_TO (As := [.ref (aa 0), .int (nI (48 + ((nb / 1000) % 10)))]) (rest := []) C0 hE hl hP hD hS (o_type l hfl D cY eS eO aa sa bp hB (o_put (o_put (o_clr j) (65 + to)) 61) c hj9 hc (48 + ((nb / 1000) % 10)) (by first | assumption | omega | exact nm_lt _ _ | exact np_lt _ _ | exact q_s_lt _ | decide) (show 2 < 60 from by decide)) (vx_cwSW 2 hts gL_written_L_type rfl rfl rfl (by decide +kernel) ⟨Nat.le_of_ble_eq_true rfl, Nat.le_of_ble_eq_true rfl⟩) dL_written_109 rfl (Nat.le_of_ble_eq_true rfl) (Nat.le_of_ble_eq_true rfl) (Nat.le_of_ble_eq_true rfl) (fun _ => rfl) (fun r32 u H31 locs hw hP hD hS => ?_)
                      try dsimp only at hw
                      obtain rfl := hw
                      have hj33 : o_J (o_put (o_put (o_put (o_clr j) (65 + to)) 61) (48 + ((nb / 1000) % 10))) := o_J_put hj9 (by first | assumption | omega | exact nm_lt _ _ | exact np_lt _ _ | exact q_s_lt _ | decide) (show 2 < 60 from by decide)
                      have hP : va_P D vwCl (o_w cY aa sa bp (o_put (o_put (o_put (o_clr j) (65 + to)) 61) (48 + ((nb / 1000) % 10))) c) H31 := hP
                      have hD : va_D A (o_w cY aa sa bp (o_put (o_put (o_put (o_clr j) (65 + to)) 61) (48 + ((nb / 1000) % 10))) c) := hD
                      refine lv_topi (nm_r (show nI ((o_put (o_put (o_clr j) (65 + to)) 61).1 + 1) = nI 3 from rfl) ?_)
                      refine lv_bipush (v := nI 10) hx hb dL_written_112 (by decide) ?_
                      refine lv_icmp_ge (tgt := 121) hx hb dL_written_114 (by decide) (fun c114 => ?_) (fun c114 => ?_)
                      · exact absurd c114 (by decide)
                      · refine lv_iconst (v := nI 1) hx hb dL_written_117 (by decide) ?_
                        refine lv_goto (tgt := 122) hx hb dL_written_118 (by decide) ?_
                        refine lv_istore (lv' := [(5, .int (nI 1)), (4, .int (nI 1000)), (0, .ref (aa 0)), (1, .int (nI to)), (2, .int (nI 0)), (3, .int (nI nb))]) hx hb dL_written_122 hl (by decide) rfl (fun ls hl => ?_)
                        refine lv_iload hx hb dL_written_124 (lv_at hl 1 rfl) ?_
                        refine lv_bipush (v := nI 10) hx hb dL_written_126 (by decide) ?_
                        refine lv_idiv hx hb dL_written_128 (by decide) ?_
                        refine lv_topi (nm_r (show _ = nI 100 from by decide) ?_)
                        refine lv_istore (lv' := [(4, .int (nI 100)), (5, .int (nI 1)), (0, .ref (aa 0)), (1, .int (nI to)), (2, .int (nI 0)), (3, .int (nI nb))]) hx hb dL_written_129 hl (by decide) rfl (fun ls hl => ?_)
                        refine lv_goto (tgt := 88) hx hb dL_written_131 (by decide) ?_
                        refine lv_iload hx hb dL_written_88 (lv_at hl 0 rfl) ?_
                        refine lv_if_le (tgt := 134) hx hb dL_written_90 (by decide) (fun c90 => ?_) (fun c90 => ?_)
                        · exact absurd c90 (by decide)
                        · refine lv_iload hx hb dL_written_93 (lv_at hl 1 rfl) ?_
                          refine lv_if_eq (tgt := 121) hx hb dL_written_95 (by decide) (fun c95 => ?_) (fun c95 => ?_)
                          · exact absurd c95 (by decide)
                          · refine lv_aload_n hx hb dL_written_98 rfl (lv_at hl 2 rfl) ?_
                            refine lv_bipush (v := nI 48) hx hb dL_written_99 (by decide) ?_
                            refine lv_iload_n hx hb dL_written_101 rfl (lv_at hl 5 rfl) ?_
                            refine lv_iload hx hb dL_written_102 (lv_at hl 0 rfl) ?_
                            refine lv_idiv hx hb dL_written_104 (by decide) ?_
                            refine lv_topi (nm_r (pk_div (by omega) (by omega) (by omega)) ?_)
                            refine lv_bipush (v := nI 10) hx hb dL_written_105 (by decide) ?_
                            refine lv_irem hx hb dL_written_107 (by decide) ?_
                            refine lv_topi (nm_r (pk_rem (by omega) (by omega) (by omega)) ?_)
                            refine lv_iadd hx hb dL_written_108 ?_
                            refine lv_topi (nm_r (nI_add _ _) ?_)
                            refine f_TO (As := [.ref (aa 0), .int (nI (48 + ((nb / 100) % 10)))]) (rest := []) C0 hE hl hP hD hS (o_type l hfl D cY eS eO aa sa bp hB (o_put (o_put (o_put (o_clr j) (65 + to)) 61) (48 + ((nb / 1000) % 10))) c hj33 hc (48 + ((nb / 100) % 10)) (by first | assumption | omega | exact nm_lt _ _ | exact np_lt _ _ | exact q_s_lt _ | decide) (show 3 < 60 from by decide)) (vx_cwSW 2 hts gL_written_L_type rfl rfl rfl (by decide +kernel) ⟨Nat.le_of_ble_eq_true rfl, Nat.le_of_ble_eq_true rfl⟩) dL_written_109 rfl (Nat.le_of_ble_eq_true rfl) (Nat.le_of_ble_eq_true rfl) (Nat.le_of_ble_eq_true rfl) (fun _ => rfl) (fun r35 u H34 locs hw hP hD hS => ?_)
                            try dsimp only at hw
                            obtain rfl := hw
                            have hj36 : o_J (o_put (o_put (o_put (o_put (o_clr j) (65 + to)) 61) (48 + ((nb / 1000) % 10))) (48 + ((nb / 100) % 10))) := o_J_put hj33 (by first | assumption | omega | exact nm_lt _ _ | exact np_lt _ _ | exact q_s_lt _ | decide) (show 3 < 60 from by decide)
                            have hP : va_P D vwCl (o_w cY aa sa bp (o_put (o_put (o_put (o_put (o_clr j) (65 + to)) 61) (48 + ((nb / 1000) % 10))) (48 + ((nb / 100) % 10))) c) H34 := hP
                            have hD : va_D A (o_w cY aa sa bp (o_put (o_put (o_put (o_put (o_clr j) (65 + to)) 61) (48 + ((nb / 1000) % 10))) (48 + ((nb / 100) % 10))) c) := hD
                            refine lv_topi (nm_r (show nI ((o_put (o_put (o_put (o_clr j) (65 + to)) 61) (48 + ((nb / 1000) % 10))).1 + 1) = nI 4 from rfl) ?_)
                            refine lv_bipush (v := nI 10) hx hb dL_written_112 (by decide) ?_
                            refine lv_icmp_ge (tgt := 121) hx hb dL_written_114 (by decide) (fun c114 => ?_) (fun c114 => ?_)
                            · exact absurd c114 (by decide)
                            · refine lv_iconst (v := nI 1) hx hb dL_written_117 (by decide) ?_
                              refine lv_goto (tgt := 122) hx hb dL_written_118 (by decide) ?_
                              refine lv_istore (lv' := [(5, .int (nI 1)), (4, .int (nI 100)), (0, .ref (aa 0)), (1, .int (nI to)), (2, .int (nI 0)), (3, .int (nI nb))]) hx hb dL_written_122 hl (by decide) rfl (fun ls hl => ?_)
                              refine lv_iload hx hb dL_written_124 (lv_at hl 1 rfl) ?_
                              refine lv_bipush (v := nI 10) hx hb dL_written_126 (by decide) ?_
                              refine lv_idiv hx hb dL_written_128 (by decide) ?_
                              refine lv_topi (nm_r (show _ = nI 10 from by decide) ?_)
                              refine lv_istore (lv' := [(4, .int (nI 10)), (5, .int (nI 1)), (0, .ref (aa 0)), (1, .int (nI to)), (2, .int (nI 0)), (3, .int (nI nb))]) hx hb dL_written_129 hl (by decide) rfl (fun ls hl => ?_)
                              refine lv_goto (tgt := 88) hx hb dL_written_131 (by decide) ?_
                              refine lv_iload hx hb dL_written_88 (lv_at hl 0 rfl) ?_
                              refine lv_if_le (tgt := 134) hx hb dL_written_90 (by decide) (fun c90 => ?_) (fun c90 => ?_)
                              · exact absurd c90 (by decide)
                              · refine lv_iload hx hb dL_written_93 (lv_at hl 1 rfl) ?_
                                refine lv_if_eq (tgt := 121) hx hb dL_written_95 (by decide) (fun c95 => ?_) (fun c95 => ?_)
                                · exact absurd c95 (by decide)
                                · refine lv_aload_n hx hb dL_written_98 rfl (lv_at hl 2 rfl) ?_
                                  refine lv_bipush (v := nI 48) hx hb dL_written_99 (by decide) ?_
                                  refine lv_iload_n hx hb dL_written_101 rfl (lv_at hl 5 rfl) ?_
                                  refine lv_iload hx hb dL_written_102 (lv_at hl 0 rfl) ?_
                                  refine lv_idiv hx hb dL_written_104 (by decide) ?_
                                  refine lv_topi (nm_r (pk_div (by omega) (by omega) (by omega)) ?_)
                                  refine lv_bipush (v := nI 10) hx hb dL_written_105 (by decide) ?_
                                  refine lv_irem hx hb dL_written_107 (by decide) ?_
                                  refine lv_topi (nm_r (pk_rem (by omega) (by omega) (by omega)) ?_)
                                  refine lv_iadd hx hb dL_written_108 ?_
                                  refine lv_topi (nm_r (nI_add _ _) ?_)
                                  refine f_TO (As := [.ref (aa 0), .int (nI (48 + ((nb / 10) % 10)))]) (rest := []) C0 hE hl hP hD hS (o_type l hfl D cY eS eO aa sa bp hB (o_put (o_put (o_put (o_put (o_clr j) (65 + to)) 61) (48 + ((nb / 1000) % 10))) (48 + ((nb / 100) % 10))) c hj36 hc (48 + ((nb / 10) % 10)) (by first | assumption | omega | exact nm_lt _ _ | exact np_lt _ _ | exact q_s_lt _ | decide) (show 4 < 60 from by decide)) (vx_cwSW 2 hts gL_written_L_type rfl rfl rfl (by decide +kernel) ⟨Nat.le_of_ble_eq_true rfl, Nat.le_of_ble_eq_true rfl⟩) dL_written_109 rfl (Nat.le_of_ble_eq_true rfl) (Nat.le_of_ble_eq_true rfl) (Nat.le_of_ble_eq_true rfl) (fun _ => rfl) (fun r38 u H37 locs hw hP hD hS => ?_)
                                  try dsimp only at hw
                                  obtain rfl := hw
                                  have hj39 : o_J (o_put (o_put (o_put (o_put (o_put (o_clr j) (65 + to)) 61) (48 + ((nb / 1000) % 10))) (48 + ((nb / 100) % 10))) (48 + ((nb / 10) % 10))) := o_J_put hj36 (by first | assumption | omega | exact nm_lt _ _ | exact np_lt _ _ | exact q_s_lt _ | decide) (show 4 < 60 from by decide)
                                  have hP : va_P D vwCl (o_w cY aa sa bp (o_put (o_put (o_put (o_put (o_put (o_clr j) (65 + to)) 61) (48 + ((nb / 1000) % 10))) (48 + ((nb / 100) % 10))) (48 + ((nb / 10) % 10))) c) H37 := hP
                                  have hD : va_D A (o_w cY aa sa bp (o_put (o_put (o_put (o_put (o_put (o_clr j) (65 + to)) 61) (48 + ((nb / 1000) % 10))) (48 + ((nb / 100) % 10))) (48 + ((nb / 10) % 10))) c) := hD
                                  refine lv_topi (nm_r (show nI ((o_put (o_put (o_put (o_put (o_clr j) (65 + to)) 61) (48 + ((nb / 1000) % 10))) (48 + ((nb / 100) % 10))).1 + 1) = nI 5 from rfl) ?_)
                                  refine lv_bipush (v := nI 10) hx hb dL_written_112 (by decide) ?_
                                  refine lv_icmp_ge (tgt := 121) hx hb dL_written_114 (by decide) (fun c114 => ?_) (fun c114 => ?_)
                                  · exact absurd c114 (by decide)
                                  · refine lv_iconst (v := nI 1) hx hb dL_written_117 (by decide) ?_
                                    refine lv_goto (tgt := 122) hx hb dL_written_118 (by decide) ?_
                                    refine lv_istore (lv' := [(5, .int (nI 1)), (4, .int (nI 10)), (0, .ref (aa 0)), (1, .int (nI to)), (2, .int (nI 0)), (3, .int (nI nb))]) hx hb dL_written_122 hl (by decide) rfl (fun ls hl => ?_)
                                    refine lv_iload hx hb dL_written_124 (lv_at hl 1 rfl) ?_
                                    refine lv_bipush (v := nI 10) hx hb dL_written_126 (by decide) ?_
                                    refine lv_idiv hx hb dL_written_128 (by decide) ?_
                                    refine lv_topi (nm_r (show _ = nI 1 from by decide) ?_)
                                    refine lv_istore (lv' := [(4, .int (nI 1)), (5, .int (nI 1)), (0, .ref (aa 0)), (1, .int (nI to)), (2, .int (nI 0)), (3, .int (nI nb))]) hx hb dL_written_129 hl (by decide) rfl (fun ls hl => ?_)
                                    refine lv_goto (tgt := 88) hx hb dL_written_131 (by decide) ?_
                                    refine lv_iload hx hb dL_written_88 (lv_at hl 0 rfl) ?_
                                    refine lv_if_le (tgt := 134) hx hb dL_written_90 (by decide) (fun c90 => ?_) (fun c90 => ?_)
                                    · exact absurd c90 (by decide)
                                    · refine lv_iload hx hb dL_written_93 (lv_at hl 1 rfl) ?_
                                      refine lv_if_eq (tgt := 121) hx hb dL_written_95 (by decide) (fun c95 => ?_) (fun c95 => ?_)
                                      · exact absurd c95 (by decide)
                                      · refine lv_aload_n hx hb dL_written_98 rfl (lv_at hl 2 rfl) ?_
                                        refine lv_bipush (v := nI 48) hx hb dL_written_99 (by decide) ?_
                                        refine lv_iload_n hx hb dL_written_101 rfl (lv_at hl 5 rfl) ?_
                                        refine lv_iload hx hb dL_written_102 (lv_at hl 0 rfl) ?_
                                        refine lv_idiv hx hb dL_written_104 (by decide) ?_
                                        refine lv_topi (nm_r (pk_div (by omega) (by omega) (by omega)) ?_)
                                        refine lv_bipush (v := nI 10) hx hb dL_written_105 (by decide) ?_
                                        refine lv_irem hx hb dL_written_107 (by decide) ?_
                                        refine lv_topi (nm_r (pk_rem (by omega) (by omega) (by omega)) ?_)
                                        refine lv_iadd hx hb dL_written_108 ?_
                                        refine lv_topi (nm_r (nI_add _ _) ?_)
                                        refine f_TO (As := [.ref (aa 0), .int (nI (48 + ((nb / 1) % 10)))]) (rest := []) C0 hE hl hP hD hS (o_type l hfl D cY eS eO aa sa bp hB (o_put (o_put (o_put (o_put (o_put (o_clr j) (65 + to)) 61) (48 + ((nb / 1000) % 10))) (48 + ((nb / 100) % 10))) (48 + ((nb / 10) % 10))) c hj39 hc (48 + ((nb / 1) % 10)) (by first | assumption | omega | exact nm_lt _ _ | exact np_lt _ _ | exact q_s_lt _ | decide) (show 5 < 60 from by decide)) (vx_cwSW 2 hts gL_written_L_type rfl rfl rfl (by decide +kernel) ⟨Nat.le_of_ble_eq_true rfl, Nat.le_of_ble_eq_true rfl⟩) dL_written_109 rfl (Nat.le_of_ble_eq_true rfl) (Nat.le_of_ble_eq_true rfl) (Nat.le_of_ble_eq_true rfl) (fun _ => rfl) (fun r41 u H40 locs hw hP hD hS => ?_)
                                        try dsimp only at hw
                                        obtain rfl := hw
                                        have hj42 : o_J (o_put (o_put (o_put (o_put (o_put (o_put (o_clr j) (65 + to)) 61) (48 + ((nb / 1000) % 10))) (48 + ((nb / 100) % 10))) (48 + ((nb / 10) % 10))) (48 + ((nb / 1) % 10))) := o_J_put hj39 (by first | assumption | omega | exact nm_lt _ _ | exact np_lt _ _ | exact q_s_lt _ | decide) (show 5 < 60 from by decide)
                                        have hP : va_P D vwCl (o_w cY aa sa bp (o_put (o_put (o_put (o_put (o_put (o_put (o_clr j) (65 + to)) 61) (48 + ((nb / 1000) % 10))) (48 + ((nb / 100) % 10))) (48 + ((nb / 10) % 10))) (48 + ((nb / 1) % 10))) c) H40 := hP
                                        have hD : va_D A (o_w cY aa sa bp (o_put (o_put (o_put (o_put (o_put (o_put (o_clr j) (65 + to)) 61) (48 + ((nb / 1000) % 10))) (48 + ((nb / 100) % 10))) (48 + ((nb / 10) % 10))) (48 + ((nb / 1) % 10))) c) := hD
                                        refine lv_topi (nm_r (show nI ((o_put (o_put (o_put (o_put (o_put (o_clr j) (65 + to)) 61) (48 + ((nb / 1000) % 10))) (48 + ((nb / 100) % 10))) (48 + ((nb / 10) % 10))).1 + 1) = nI 6 from rfl) ?_)
                                        refine lv_bipush (v := nI 10) hx hb dL_written_112 (by decide) ?_
                                        refine lv_icmp_ge (tgt := 121) hx hb dL_written_114 (by decide) (fun c114 => ?_) (fun c114 => ?_)
                                        · exact absurd c114 (by decide)
                                        · refine lv_iconst (v := nI 1) hx hb dL_written_117 (by decide) ?_
                                          refine lv_goto (tgt := 122) hx hb dL_written_118 (by decide) ?_
                                          refine lv_istore (lv' := [(5, .int (nI 1)), (4, .int (nI 1)), (0, .ref (aa 0)), (1, .int (nI to)), (2, .int (nI 0)), (3, .int (nI nb))]) hx hb dL_written_122 hl (by decide) rfl (fun ls hl => ?_)
                                          refine lv_iload hx hb dL_written_124 (lv_at hl 1 rfl) ?_
                                          refine lv_bipush (v := nI 10) hx hb dL_written_126 (by decide) ?_
                                          refine lv_idiv hx hb dL_written_128 (by decide) ?_
                                          refine lv_topi (nm_r (show _ = nI 0 from by decide) ?_)
                                          refine lv_istore (lv' := [(4, .int (nI 0)), (5, .int (nI 1)), (0, .ref (aa 0)), (1, .int (nI to)), (2, .int (nI 0)), (3, .int (nI nb))]) hx hb dL_written_129 hl (by decide) rfl (fun ls hl => ?_)
                                          refine lv_goto (tgt := 88) hx hb dL_written_131 (by decide) ?_
                                          refine lv_iload hx hb dL_written_88 (lv_at hl 0 rfl) ?_
                                          refine lv_if_le (tgt := 134) hx hb dL_written_90 (by decide) (fun c90 => ?_) (fun c90 => ?_)
                                          · refine lv_iload hx hb dL_written_134 (lv_at hl 1 rfl) ?_
                                            refine lv_if_eq (tgt := 146) hx hb dL_written_136 (by decide) (fun c136 => ?_) (fun c136 => ?_)
                                            · exact absurd c136 (by decide)
                                            · refine lv_aload_n hx hb dL_written_139 rfl (lv_at hl 2 rfl) ?_
                                              refine f_TO (As := [.ref (aa 0)]) (rest := []) C0 hE hl hP hD hS (o_carry l hfl D cY eS eO aa sa bp hB (o_put (o_put (o_put (o_put (o_put (o_put (o_clr j) (65 + to)) 61) (48 + ((nb / 1000) % 10))) (48 + ((nb / 100) % 10))) (48 + ((nb / 10) % 10))) (48 + ((nb / 1) % 10))) c hj42 hc ([(to, 0, nb, 0)]) (to, 0, nb, 0) (m_up c.1 to nb) c.2.1 (w_z4 j hto (by omega) (by omega) (by omega)) (w_run0 hnb) (rfl) (hto) ((o_g_up hc.1 hto hnb).1)) (vx_cwSW 1 hts gL_written_L_carryOut rfl rfl rfl (by decide +kernel) ⟨Nat.le_of_ble_eq_true rfl, Nat.le_of_ble_eq_true rfl⟩) dL_written_140 rfl (Nat.le_of_ble_eq_true rfl) (Nat.le_of_ble_eq_true rfl) (Nat.le_of_ble_eq_true rfl) (fun _ => rfl) (fun r44 u H43 locs hw hP hD hS => ?_)
                                              obtain ⟨j2_45, rfl⟩ : ∃ z, z = u := ⟨_, rfl⟩
                                              try dsimp only at hw
                                              obtain ⟨rfl, hq46⟩ := hw
                                              have hj47 : o_J j2_45 := hq46
                                              have hc48 : o_C (o_rec c (m_up c.1 to nb) c.2.1) := o_C_rec hc (o_g_up hc.1 hto hnb)
                                              have hP : va_P D vwCl (o_w cY aa sa bp j2_45 (o_rec c (m_up c.1 to nb) c.2.1)) H43 := hP
                                              have hD : va_D A (o_w cY aa sa bp j2_45 (o_rec c (m_up c.1 to nb) c.2.1)) := hD
                                              refine lv_goto (tgt := 148) hx hb dL_written_143 (by decide) ?_
                                              subst hQ
                                              exact f_iret (by decide) (by decide) C0 hS dL_written_148 (u := j2_45) hP (⟨congrArg nI (m_ups _ _ _), hj47, hc48⟩)
                                          · exact absurd c90 (by decide)
                · have c75 : ¬ (1000 ≤ nb) := fun qq9 => c75 ((nI_leI (a := 1000) (b := nb) (by first | omega | exact Nat.lt_of_le_of_lt Nat.and_le_right (by decide) | exact Nat.lt_trans (nm_lt _ _) (by decide) | exact Nat.lt_trans (np_lt _ _) (by decide) | exact Nat.lt_trans (p_at_lt htx) (by decide)) (by first | omega | exact Nat.lt_of_le_of_lt Nat.and_le_right (by decide) | exact Nat.lt_trans (nm_lt _ _) (by decide) | exact Nat.lt_trans (np_lt _ _) (by decide) | exact Nat.lt_trans (p_at_lt htx) (by decide))).mpr qq9)
                  refine lv_iload hx hb dL_written_78 (lv_at hl 0 rfl) ?_
                  refine lv_bipush (v := nI 10) hx hb dL_written_80 (by decide) ?_
                  refine lv_idiv hx hb dL_written_82 (by decide) ?_
                  refine lv_topi (nm_r (show _ = nI 100 from by decide) ?_)
                  refine lv_istore (lv' := [(4, .int (nI 100)), (5, .int (nI 1)), (0, .ref (aa 0)), (1, .int (nI to)), (2, .int (nI 0)), (3, .int (nI nb))]) hx hb dL_written_83 hl (by decide) rfl (fun ls hl => ?_)
                  refine lv_goto (tgt := 66) hx hb dL_written_85 (by decide) ?_
                  refine lv_iload hx hb dL_written_66 (lv_at hl 0 rfl) ?_
                  refine lv_iconst (v := nI 1) hx hb dL_written_68 (by decide) ?_
                  refine lv_icmp_le (tgt := 88) hx hb dL_written_69 (by decide) (fun c69 => ?_) (fun c69 => ?_)
                  · exact absurd c69 (by decide)
                  · refine lv_iload_n hx hb dL_written_72 rfl (lv_at hl 5 rfl) ?_
                    refine lv_iload hx hb dL_written_73 (lv_at hl 0 rfl) ?_
                    refine lv_icmp_ge (tgt := 88) hx hb dL_written_75 (by decide) (fun c75 => ?_) (fun c75 => ?_)
                    · have c75 : 100 ≤ nb := (nI_leI (a := 100) (b := nb) (by first | omega | exact Nat.lt_of_le_of_lt Nat.and_le_right (by decide) | exact Nat.lt_trans (nm_lt _ _) (by decide) | exact Nat.lt_trans (np_lt _ _) (by decide) | exact Nat.lt_trans (p_at_lt htx) (by decide)) (by first | omega | exact Nat.lt_of_le_of_lt Nat.and_le_right (by decide) | exact Nat.lt_trans (nm_lt _ _) (by decide) | exact Nat.lt_trans (np_lt _ _) (by decide) | exact Nat.lt_trans (p_at_lt htx) (by decide))).mp c75
                      refine lv_iload hx hb dL_written_88 (lv_at hl 0 rfl) ?_
                      refine lv_if_le (tgt := 134) hx hb dL_written_90 (by decide) (fun c90 => ?_) (fun c90 => ?_)
                      · exact absurd c90 (by decide)
                      · refine lv_iload hx hb dL_written_93 (lv_at hl 1 rfl) ?_
                        refine lv_if_eq (tgt := 121) hx hb dL_written_95 (by decide) (fun c95 => ?_) (fun c95 => ?_)
                        · exact absurd c95 (by decide)
                        · refine lv_aload_n hx hb dL_written_98 rfl (lv_at hl 2 rfl) ?_
                          refine lv_bipush (v := nI 48) hx hb dL_written_99 (by decide) ?_
                          refine lv_iload_n hx hb dL_written_101 rfl (lv_at hl 5 rfl) ?_
                          refine lv_iload hx hb dL_written_102 (lv_at hl 0 rfl) ?_
                          refine lv_idiv hx hb dL_written_104 (by decide) ?_
                          refine lv_topi (nm_r (pk_div (by omega) (by omega) (by omega)) ?_)
                          refine lv_bipush (v := nI 10) hx hb dL_written_105 (by decide) ?_
                          refine lv_irem hx hb dL_written_107 (by decide) ?_
                          refine lv_topi (nm_r (pk_rem (by omega) (by omega) (by omega)) ?_)
                          refine lv_iadd hx hb dL_written_108 ?_
                          refine lv_topi (nm_r (nI_add _ _) ?_)
                          refine f_TO (As := [.ref (aa 0), .int (nI (48 + ((nb / 100) % 10)))]) (rest := []) C0 hE hl hP hD hS (o_type l hfl D cY eS eO aa sa bp hB (o_put (o_put (o_clr j) (65 + to)) 61) c hj9 hc (48 + ((nb / 100) % 10)) (by first | assumption | omega | exact nm_lt _ _ | exact np_lt _ _ | exact q_s_lt _ | decide) (show 2 < 60 from by decide)) (vx_cwSW 2 hts gL_written_L_type rfl rfl rfl (by decide +kernel) ⟨Nat.le_of_ble_eq_true rfl, Nat.le_of_ble_eq_true rfl⟩) dL_written_109 rfl (Nat.le_of_ble_eq_true rfl) (Nat.le_of_ble_eq_true rfl) (Nat.le_of_ble_eq_true rfl) (fun _ => rfl) (fun r50 u H49 locs hw hP hD hS => ?_)
                          try dsimp only at hw
                          obtain rfl := hw
                          have hj51 : o_J (o_put (o_put (o_put (o_clr j) (65 + to)) 61) (48 + ((nb / 100) % 10))) := o_J_put hj9 (by first | assumption | omega | exact nm_lt _ _ | exact np_lt _ _ | exact q_s_lt _ | decide) (show 2 < 60 from by decide)
                          have hP : va_P D vwCl (o_w cY aa sa bp (o_put (o_put (o_put (o_clr j) (65 + to)) 61) (48 + ((nb / 100) % 10))) c) H49 := hP
                          have hD : va_D A (o_w cY aa sa bp (o_put (o_put (o_put (o_clr j) (65 + to)) 61) (48 + ((nb / 100) % 10))) c) := hD
                          refine lv_topi (nm_r (show nI ((o_put (o_put (o_clr j) (65 + to)) 61).1 + 1) = nI 3 from rfl) ?_)
                          refine lv_bipush (v := nI 10) hx hb dL_written_112 (by decide) ?_
                          refine lv_icmp_ge (tgt := 121) hx hb dL_written_114 (by decide) (fun c114 => ?_) (fun c114 => ?_)
                          · exact absurd c114 (by decide)
                          · refine lv_iconst (v := nI 1) hx hb dL_written_117 (by decide) ?_
                            refine lv_goto (tgt := 122) hx hb dL_written_118 (by decide) ?_
                            refine lv_istore (lv' := [(5, .int (nI 1)), (4, .int (nI 100)), (0, .ref (aa 0)), (1, .int (nI to)), (2, .int (nI 0)), (3, .int (nI nb))]) hx hb dL_written_122 hl (by decide) rfl (fun ls hl => ?_)
                            refine lv_iload hx hb dL_written_124 (lv_at hl 1 rfl) ?_
                            refine lv_bipush (v := nI 10) hx hb dL_written_126 (by decide) ?_
                            refine lv_idiv hx hb dL_written_128 (by decide) ?_
                            refine lv_topi (nm_r (show _ = nI 10 from by decide) ?_)
                            refine lv_istore (lv' := [(4, .int (nI 10)), (5, .int (nI 1)), (0, .ref (aa 0)), (1, .int (nI to)), (2, .int (nI 0)), (3, .int (nI nb))]) hx hb dL_written_129 hl (by decide) rfl (fun ls hl => ?_)
                            refine lv_goto (tgt := 88) hx hb dL_written_131 (by decide) ?_
                            refine lv_iload hx hb dL_written_88 (lv_at hl 0 rfl) ?_
                            refine lv_if_le (tgt := 134) hx hb dL_written_90 (by decide) (fun c90 => ?_) (fun c90 => ?_)
                            · exact absurd c90 (by decide)
                            · refine lv_iload hx hb dL_written_93 (lv_at hl 1 rfl) ?_
                              refine lv_if_eq (tgt := 121) hx hb dL_written_95 (by decide) (fun c95 => ?_) (fun c95 => ?_)
                              · exact absurd c95 (by decide)
                              · refine lv_aload_n hx hb dL_written_98 rfl (lv_at hl 2 rfl) ?_
                                refine lv_bipush (v := nI 48) hx hb dL_written_99 (by decide) ?_
                                refine lv_iload_n hx hb dL_written_101 rfl (lv_at hl 5 rfl) ?_
                                refine lv_iload hx hb dL_written_102 (lv_at hl 0 rfl) ?_
                                refine lv_idiv hx hb dL_written_104 (by decide) ?_
                                refine lv_topi (nm_r (pk_div (by omega) (by omega) (by omega)) ?_)
                                refine lv_bipush (v := nI 10) hx hb dL_written_105 (by decide) ?_
                                refine lv_irem hx hb dL_written_107 (by decide) ?_
                                refine lv_topi (nm_r (pk_rem (by omega) (by omega) (by omega)) ?_)
                                refine lv_iadd hx hb dL_written_108 ?_
                                refine lv_topi (nm_r (nI_add _ _) ?_)
                                refine f_TO (As := [.ref (aa 0), .int (nI (48 + ((nb / 10) % 10)))]) (rest := []) C0 hE hl hP hD hS (o_type l hfl D cY eS eO aa sa bp hB (o_put (o_put (o_put (o_clr j) (65 + to)) 61) (48 + ((nb / 100) % 10))) c hj51 hc (48 + ((nb / 10) % 10)) (by first | assumption | omega | exact nm_lt _ _ | exact np_lt _ _ | exact q_s_lt _ | decide) (show 3 < 60 from by decide)) (vx_cwSW 2 hts gL_written_L_type rfl rfl rfl (by decide +kernel) ⟨Nat.le_of_ble_eq_true rfl, Nat.le_of_ble_eq_true rfl⟩) dL_written_109 rfl (Nat.le_of_ble_eq_true rfl) (Nat.le_of_ble_eq_true rfl) (Nat.le_of_ble_eq_true rfl) (fun _ => rfl) (fun r53 u H52 locs hw hP hD hS => ?_)
                                try dsimp only at hw
                                obtain rfl := hw
                                have hj54 : o_J (o_put (o_put (o_put (o_put (o_clr j) (65 + to)) 61) (48 + ((nb / 100) % 10))) (48 + ((nb / 10) % 10))) := o_J_put hj51 (by first | assumption | omega | exact nm_lt _ _ | exact np_lt _ _ | exact q_s_lt _ | decide) (show 3 < 60 from by decide)
                                have hP : va_P D vwCl (o_w cY aa sa bp (o_put (o_put (o_put (o_put (o_clr j) (65 + to)) 61) (48 + ((nb / 100) % 10))) (48 + ((nb / 10) % 10))) c) H52 := hP
                                have hD : va_D A (o_w cY aa sa bp (o_put (o_put (o_put (o_put (o_clr j) (65 + to)) 61) (48 + ((nb / 100) % 10))) (48 + ((nb / 10) % 10))) c) := hD
                                refine lv_topi (nm_r (show nI ((o_put (o_put (o_put (o_clr j) (65 + to)) 61) (48 + ((nb / 100) % 10))).1 + 1) = nI 4 from rfl) ?_)
                                refine lv_bipush (v := nI 10) hx hb dL_written_112 (by decide) ?_
                                refine lv_icmp_ge (tgt := 121) hx hb dL_written_114 (by decide) (fun c114 => ?_) (fun c114 => ?_)
                                · exact absurd c114 (by decide)
                                · refine lv_iconst (v := nI 1) hx hb dL_written_117 (by decide) ?_
                                  refine lv_goto (tgt := 122) hx hb dL_written_118 (by decide) ?_
                                  refine lv_istore (lv' := [(5, .int (nI 1)), (4, .int (nI 10)), (0, .ref (aa 0)), (1, .int (nI to)), (2, .int (nI 0)), (3, .int (nI nb))]) hx hb dL_written_122 hl (by decide) rfl (fun ls hl => ?_)
                                  refine lv_iload hx hb dL_written_124 (lv_at hl 1 rfl) ?_
                                  refine lv_bipush (v := nI 10) hx hb dL_written_126 (by decide) ?_
                                  refine lv_idiv hx hb dL_written_128 (by decide) ?_
                                  refine lv_topi (nm_r (show _ = nI 1 from by decide) ?_)
                                  refine lv_istore (lv' := [(4, .int (nI 1)), (5, .int (nI 1)), (0, .ref (aa 0)), (1, .int (nI to)), (2, .int (nI 0)), (3, .int (nI nb))]) hx hb dL_written_129 hl (by decide) rfl (fun ls hl => ?_)
                                  refine lv_goto (tgt := 88) hx hb dL_written_131 (by decide) ?_
                                  refine lv_iload hx hb dL_written_88 (lv_at hl 0 rfl) ?_
                                  refine lv_if_le (tgt := 134) hx hb dL_written_90 (by decide) (fun c90 => ?_) (fun c90 => ?_)
                                  · exact absurd c90 (by decide)
                                  · refine lv_iload hx hb dL_written_93 (lv_at hl 1 rfl) ?_
                                    refine lv_if_eq (tgt := 121) hx hb dL_written_95 (by decide) (fun c95 => ?_) (fun c95 => ?_)
                                    · exact absurd c95 (by decide)
                                    · refine lv_aload_n hx hb dL_written_98 rfl (lv_at hl 2 rfl) ?_
                                      refine lv_bipush (v := nI 48) hx hb dL_written_99 (by decide) ?_
                                      refine lv_iload_n hx hb dL_written_101 rfl (lv_at hl 5 rfl) ?_
                                      refine lv_iload hx hb dL_written_102 (lv_at hl 0 rfl) ?_
                                      refine lv_idiv hx hb dL_written_104 (by decide) ?_
                                      refine lv_topi (nm_r (pk_div (by omega) (by omega) (by omega)) ?_)
                                      refine lv_bipush (v := nI 10) hx hb dL_written_105 (by decide) ?_
                                      refine lv_irem hx hb dL_written_107 (by decide) ?_
                                      refine lv_topi (nm_r (pk_rem (by omega) (by omega) (by omega)) ?_)
                                      refine lv_iadd hx hb dL_written_108 ?_
                                      refine lv_topi (nm_r (nI_add _ _) ?_)
                                      refine f_TO (As := [.ref (aa 0), .int (nI (48 + ((nb / 1) % 10)))]) (rest := []) C0 hE hl hP hD hS (o_type l hfl D cY eS eO aa sa bp hB (o_put (o_put (o_put (o_put (o_clr j) (65 + to)) 61) (48 + ((nb / 100) % 10))) (48 + ((nb / 10) % 10))) c hj54 hc (48 + ((nb / 1) % 10)) (by first | assumption | omega | exact nm_lt _ _ | exact np_lt _ _ | exact q_s_lt _ | decide) (show 4 < 60 from by decide)) (vx_cwSW 2 hts gL_written_L_type rfl rfl rfl (by decide +kernel) ⟨Nat.le_of_ble_eq_true rfl, Nat.le_of_ble_eq_true rfl⟩) dL_written_109 rfl (Nat.le_of_ble_eq_true rfl) (Nat.le_of_ble_eq_true rfl) (Nat.le_of_ble_eq_true rfl) (fun _ => rfl) (fun r56 u H55 locs hw hP hD hS => ?_)
                                      try dsimp only at hw
                                      obtain rfl := hw
                                      have hj57 : o_J (o_put (o_put (o_put (o_put (o_put (o_clr j) (65 + to)) 61) (48 + ((nb / 100) % 10))) (48 + ((nb / 10) % 10))) (48 + ((nb / 1) % 10))) := o_J_put hj54 (by first | assumption | omega | exact nm_lt _ _ | exact np_lt _ _ | exact q_s_lt _ | decide) (show 4 < 60 from by decide)
                                      have hP : va_P D vwCl (o_w cY aa sa bp (o_put (o_put (o_put (o_put (o_put (o_clr j) (65 + to)) 61) (48 + ((nb / 100) % 10))) (48 + ((nb / 10) % 10))) (48 + ((nb / 1) % 10))) c) H55 := hP
                                      have hD : va_D A (o_w cY aa sa bp (o_put (o_put (o_put (o_put (o_put (o_clr j) (65 + to)) 61) (48 + ((nb / 100) % 10))) (48 + ((nb / 10) % 10))) (48 + ((nb / 1) % 10))) c) := hD
                                      refine lv_topi (nm_r (show nI ((o_put (o_put (o_put (o_put (o_clr j) (65 + to)) 61) (48 + ((nb / 100) % 10))) (48 + ((nb / 10) % 10))).1 + 1) = nI 5 from rfl) ?_)
                                      refine lv_bipush (v := nI 10) hx hb dL_written_112 (by decide) ?_
                                      refine lv_icmp_ge (tgt := 121) hx hb dL_written_114 (by decide) (fun c114 => ?_) (fun c114 => ?_)
                                      · exact absurd c114 (by decide)
                                      · refine lv_iconst (v := nI 1) hx hb dL_written_117 (by decide) ?_
                                        refine lv_goto (tgt := 122) hx hb dL_written_118 (by decide) ?_
                                        refine lv_istore (lv' := [(5, .int (nI 1)), (4, .int (nI 1)), (0, .ref (aa 0)), (1, .int (nI to)), (2, .int (nI 0)), (3, .int (nI nb))]) hx hb dL_written_122 hl (by decide) rfl (fun ls hl => ?_)
                                        refine lv_iload hx hb dL_written_124 (lv_at hl 1 rfl) ?_
                                        refine lv_bipush (v := nI 10) hx hb dL_written_126 (by decide) ?_
                                        refine lv_idiv hx hb dL_written_128 (by decide) ?_
                                        refine lv_topi (nm_r (show _ = nI 0 from by decide) ?_)
                                        refine lv_istore (lv' := [(4, .int (nI 0)), (5, .int (nI 1)), (0, .ref (aa 0)), (1, .int (nI to)), (2, .int (nI 0)), (3, .int (nI nb))]) hx hb dL_written_129 hl (by decide) rfl (fun ls hl => ?_)
                                        refine lv_goto (tgt := 88) hx hb dL_written_131 (by decide) ?_
                                        refine lv_iload hx hb dL_written_88 (lv_at hl 0 rfl) ?_
                                        refine lv_if_le (tgt := 134) hx hb dL_written_90 (by decide) (fun c90 => ?_) (fun c90 => ?_)
                                        · refine lv_iload hx hb dL_written_134 (lv_at hl 1 rfl) ?_
                                          refine lv_if_eq (tgt := 146) hx hb dL_written_136 (by decide) (fun c136 => ?_) (fun c136 => ?_)
                                          · exact absurd c136 (by decide)
                                          · refine lv_aload_n hx hb dL_written_139 rfl (lv_at hl 2 rfl) ?_
                                            refine f_TO (As := [.ref (aa 0)]) (rest := []) C0 hE hl hP hD hS (o_carry l hfl D cY eS eO aa sa bp hB (o_put (o_put (o_put (o_put (o_put (o_clr j) (65 + to)) 61) (48 + ((nb / 100) % 10))) (48 + ((nb / 10) % 10))) (48 + ((nb / 1) % 10))) c hj57 hc ([(to, 0, nb, 0)]) (to, 0, nb, 0) (m_up c.1 to nb) c.2.1 (w_z3 j hto (by omega) (by omega) (by omega)) (w_run0 hnb) (rfl) (hto) ((o_g_up hc.1 hto hnb).1)) (vx_cwSW 1 hts gL_written_L_carryOut rfl rfl rfl (by decide +kernel) ⟨Nat.le_of_ble_eq_true rfl, Nat.le_of_ble_eq_true rfl⟩) dL_written_140 rfl (Nat.le_of_ble_eq_true rfl) (Nat.le_of_ble_eq_true rfl) (Nat.le_of_ble_eq_true rfl) (fun _ => rfl) (fun r59 u H58 locs hw hP hD hS => ?_)
                                            obtain ⟨j2_60, rfl⟩ : ∃ z, z = u := ⟨_, rfl⟩
                                            try dsimp only at hw
                                            obtain ⟨rfl, hq61⟩ := hw
                                            have hj62 : o_J j2_60 := hq61
                                            have hc63 : o_C (o_rec c (m_up c.1 to nb) c.2.1) := o_C_rec hc (o_g_up hc.1 hto hnb)
                                            have hP : va_P D vwCl (o_w cY aa sa bp j2_60 (o_rec c (m_up c.1 to nb) c.2.1)) H58 := hP
                                            have hD : va_D A (o_w cY aa sa bp j2_60 (o_rec c (m_up c.1 to nb) c.2.1)) := hD
                                            refine lv_goto (tgt := 148) hx hb dL_written_143 (by decide) ?_
                                            subst hQ
                                            exact f_iret (by decide) (by decide) C0 hS dL_written_148 (u := j2_60) hP (⟨congrArg nI (m_ups _ _ _), hj62, hc63⟩)
                                        · exact absurd c90 (by decide)
                    · have c75 : ¬ (100 ≤ nb) := fun qq9 => c75 ((nI_leI (a := 100) (b := nb) (by first | omega | exact Nat.lt_of_le_of_lt Nat.and_le_right (by decide) | exact Nat.lt_trans (nm_lt _ _) (by decide) | exact Nat.lt_trans (np_lt _ _) (by decide) | exact Nat.lt_trans (p_at_lt htx) (by decide)) (by first | omega | exact Nat.lt_of_le_of_lt Nat.and_le_right (by decide) | exact Nat.lt_trans (nm_lt _ _) (by decide) | exact Nat.lt_trans (np_lt _ _) (by decide) | exact Nat.lt_trans (p_at_lt htx) (by decide))).mpr qq9)
                      refine lv_iload hx hb dL_written_78 (lv_at hl 0 rfl) ?_
                      refine lv_bipush (v := nI 10) hx hb dL_written_80 (by decide) ?_
                      refine lv_idiv hx hb dL_written_82 (by decide) ?_
                      refine lv_topi (nm_r (show _ = nI 10 from by decide) ?_)
                      refine lv_istore (lv' := [(4, .int (nI 10)), (5, .int (nI 1)), (0, .ref (aa 0)), (1, .int (nI to)), (2, .int (nI 0)), (3, .int (nI nb))]) hx hb dL_written_83 hl (by decide) rfl (fun ls hl => ?_)
                      refine lv_goto (tgt := 66) hx hb dL_written_85 (by decide) ?_
                      refine lv_iload hx hb dL_written_66 (lv_at hl 0 rfl) ?_
                      refine lv_iconst (v := nI 1) hx hb dL_written_68 (by decide) ?_
                      refine lv_icmp_le (tgt := 88) hx hb dL_written_69 (by decide) (fun c69 => ?_) (fun c69 => ?_)
                      · exact absurd c69 (by decide)
                      · refine lv_iload_n hx hb dL_written_72 rfl (lv_at hl 5 rfl) ?_
                        refine lv_iload hx hb dL_written_73 (lv_at hl 0 rfl) ?_
                        refine lv_icmp_ge (tgt := 88) hx hb dL_written_75 (by decide) (fun c75 => ?_) (fun c75 => ?_)
                        · have c75 : 10 ≤ nb := (nI_leI (a := 10) (b := nb) (by first | omega | exact Nat.lt_of_le_of_lt Nat.and_le_right (by decide) | exact Nat.lt_trans (nm_lt _ _) (by decide) | exact Nat.lt_trans (np_lt _ _) (by decide) | exact Nat.lt_trans (p_at_lt htx) (by decide)) (by first | omega | exact Nat.lt_of_le_of_lt Nat.and_le_right (by decide) | exact Nat.lt_trans (nm_lt _ _) (by decide) | exact Nat.lt_trans (np_lt _ _) (by decide) | exact Nat.lt_trans (p_at_lt htx) (by decide))).mp c75
                          refine lv_iload hx hb dL_written_88 (lv_at hl 0 rfl) ?_
                          refine lv_if_le (tgt := 134) hx hb dL_written_90 (by decide) (fun c90 => ?_) (fun c90 => ?_)
                          · exact absurd c90 (by decide)
                          · refine lv_iload hx hb dL_written_93 (lv_at hl 1 rfl) ?_
                            refine lv_if_eq (tgt := 121) hx hb dL_written_95 (by decide) (fun c95 => ?_) (fun c95 => ?_)
                            · exact absurd c95 (by decide)
                            · refine lv_aload_n hx hb dL_written_98 rfl (lv_at hl 2 rfl) ?_
                              refine lv_bipush (v := nI 48) hx hb dL_written_99 (by decide) ?_
                              refine lv_iload_n hx hb dL_written_101 rfl (lv_at hl 5 rfl) ?_
                              refine lv_iload hx hb dL_written_102 (lv_at hl 0 rfl) ?_
                              refine lv_idiv hx hb dL_written_104 (by decide) ?_
                              refine lv_topi (nm_r (pk_div (by omega) (by omega) (by omega)) ?_)
                              refine lv_bipush (v := nI 10) hx hb dL_written_105 (by decide) ?_
                              refine lv_irem hx hb dL_written_107 (by decide) ?_
                              refine lv_topi (nm_r (pk_rem (by omega) (by omega) (by omega)) ?_)
                              refine lv_iadd hx hb dL_written_108 ?_
                              refine lv_topi (nm_r (nI_add _ _) ?_)
                              refine f_TO (As := [.ref (aa 0), .int (nI (48 + ((nb / 10) % 10)))]) (rest := []) C0 hE hl hP hD hS (o_type l hfl D cY eS eO aa sa bp hB (o_put (o_put (o_clr j) (65 + to)) 61) c hj9 hc (48 + ((nb / 10) % 10)) (by first | assumption | omega | exact nm_lt _ _ | exact np_lt _ _ | exact q_s_lt _ | decide) (show 2 < 60 from by decide)) (vx_cwSW 2 hts gL_written_L_type rfl rfl rfl (by decide +kernel) ⟨Nat.le_of_ble_eq_true rfl, Nat.le_of_ble_eq_true rfl⟩) dL_written_109 rfl (Nat.le_of_ble_eq_true rfl) (Nat.le_of_ble_eq_true rfl) (Nat.le_of_ble_eq_true rfl) (fun _ => rfl) (fun r65 u H64 locs hw hP hD hS => ?_)
                              try dsimp only at hw
                              obtain rfl := hw
                              have hj66 : o_J (o_put (o_put (o_put (o_clr j) (65 + to)) 61) (48 + ((nb / 10) % 10))) := o_J_put hj9 (by first | assumption | omega | exact nm_lt _ _ | exact np_lt _ _ | exact q_s_lt _ | decide) (show 2 < 60 from by decide)
                              have hP : va_P D vwCl (o_w cY aa sa bp (o_put (o_put (o_put (o_clr j) (65 + to)) 61) (48 + ((nb / 10) % 10))) c) H64 := hP
                              have hD : va_D A (o_w cY aa sa bp (o_put (o_put (o_put (o_clr j) (65 + to)) 61) (48 + ((nb / 10) % 10))) c) := hD
                              refine lv_topi (nm_r (show nI ((o_put (o_put (o_clr j) (65 + to)) 61).1 + 1) = nI 3 from rfl) ?_)
                              refine lv_bipush (v := nI 10) hx hb dL_written_112 (by decide) ?_
                              refine lv_icmp_ge (tgt := 121) hx hb dL_written_114 (by decide) (fun c114 => ?_) (fun c114 => ?_)
                              · exact absurd c114 (by decide)
                              · refine lv_iconst (v := nI 1) hx hb dL_written_117 (by decide) ?_
                                refine lv_goto (tgt := 122) hx hb dL_written_118 (by decide) ?_
                                refine lv_istore (lv' := [(5, .int (nI 1)), (4, .int (nI 10)), (0, .ref (aa 0)), (1, .int (nI to)), (2, .int (nI 0)), (3, .int (nI nb))]) hx hb dL_written_122 hl (by decide) rfl (fun ls hl => ?_)
                                refine lv_iload hx hb dL_written_124 (lv_at hl 1 rfl) ?_
                                refine lv_bipush (v := nI 10) hx hb dL_written_126 (by decide) ?_
                                refine lv_idiv hx hb dL_written_128 (by decide) ?_
                                refine lv_topi (nm_r (show _ = nI 1 from by decide) ?_)
                                refine lv_istore (lv' := [(4, .int (nI 1)), (5, .int (nI 1)), (0, .ref (aa 0)), (1, .int (nI to)), (2, .int (nI 0)), (3, .int (nI nb))]) hx hb dL_written_129 hl (by decide) rfl (fun ls hl => ?_)
                                refine lv_goto (tgt := 88) hx hb dL_written_131 (by decide) ?_
                                refine lv_iload hx hb dL_written_88 (lv_at hl 0 rfl) ?_
                                refine lv_if_le (tgt := 134) hx hb dL_written_90 (by decide) (fun c90 => ?_) (fun c90 => ?_)
                                · exact absurd c90 (by decide)
                                · refine lv_iload hx hb dL_written_93 (lv_at hl 1 rfl) ?_
                                  refine lv_if_eq (tgt := 121) hx hb dL_written_95 (by decide) (fun c95 => ?_) (fun c95 => ?_)
                                  · exact absurd c95 (by decide)
                                  · refine lv_aload_n hx hb dL_written_98 rfl (lv_at hl 2 rfl) ?_
                                    refine lv_bipush (v := nI 48) hx hb dL_written_99 (by decide) ?_
                                    refine lv_iload_n hx hb dL_written_101 rfl (lv_at hl 5 rfl) ?_
                                    refine lv_iload hx hb dL_written_102 (lv_at hl 0 rfl) ?_
                                    refine lv_idiv hx hb dL_written_104 (by decide) ?_
                                    refine lv_topi (nm_r (pk_div (by omega) (by omega) (by omega)) ?_)
                                    refine lv_bipush (v := nI 10) hx hb dL_written_105 (by decide) ?_
                                    refine lv_irem hx hb dL_written_107 (by decide) ?_
                                    refine lv_topi (nm_r (pk_rem (by omega) (by omega) (by omega)) ?_)
                                    refine lv_iadd hx hb dL_written_108 ?_
                                    refine lv_topi (nm_r (nI_add _ _) ?_)
                                    refine f_TO (As := [.ref (aa 0), .int (nI (48 + ((nb / 1) % 10)))]) (rest := []) C0 hE hl hP hD hS (o_type l hfl D cY eS eO aa sa bp hB (o_put (o_put (o_put (o_clr j) (65 + to)) 61) (48 + ((nb / 10) % 10))) c hj66 hc (48 + ((nb / 1) % 10)) (by first | assumption | omega | exact nm_lt _ _ | exact np_lt _ _ | exact q_s_lt _ | decide) (show 3 < 60 from by decide)) (vx_cwSW 2 hts gL_written_L_type rfl rfl rfl (by decide +kernel) ⟨Nat.le_of_ble_eq_true rfl, Nat.le_of_ble_eq_true rfl⟩) dL_written_109 rfl (Nat.le_of_ble_eq_true rfl) (Nat.le_of_ble_eq_true rfl) (Nat.le_of_ble_eq_true rfl) (fun _ => rfl) (fun r68 u H67 locs hw hP hD hS => ?_)
                                    try dsimp only at hw
                                    obtain rfl := hw
                                    have hj69 : o_J (o_put (o_put (o_put (o_put (o_clr j) (65 + to)) 61) (48 + ((nb / 10) % 10))) (48 + ((nb / 1) % 10))) := o_J_put hj66 (by first | assumption | omega | exact nm_lt _ _ | exact np_lt _ _ | exact q_s_lt _ | decide) (show 3 < 60 from by decide)
                                    have hP : va_P D vwCl (o_w cY aa sa bp (o_put (o_put (o_put (o_put (o_clr j) (65 + to)) 61) (48 + ((nb / 10) % 10))) (48 + ((nb / 1) % 10))) c) H67 := hP
                                    have hD : va_D A (o_w cY aa sa bp (o_put (o_put (o_put (o_put (o_clr j) (65 + to)) 61) (48 + ((nb / 10) % 10))) (48 + ((nb / 1) % 10))) c) := hD
                                    refine lv_topi (nm_r (show nI ((o_put (o_put (o_put (o_clr j) (65 + to)) 61) (48 + ((nb / 10) % 10))).1 + 1) = nI 4 from rfl) ?_)
                                    refine lv_bipush (v := nI 10) hx hb dL_written_112 (by decide) ?_
                                    refine lv_icmp_ge (tgt := 121) hx hb dL_written_114 (by decide) (fun c114 => ?_) (fun c114 => ?_)
                                    · exact absurd c114 (by decide)
                                    · refine lv_iconst (v := nI 1) hx hb dL_written_117 (by decide) ?_
                                      refine lv_goto (tgt := 122) hx hb dL_written_118 (by decide) ?_
                                      refine lv_istore (lv' := [(5, .int (nI 1)), (4, .int (nI 1)), (0, .ref (aa 0)), (1, .int (nI to)), (2, .int (nI 0)), (3, .int (nI nb))]) hx hb dL_written_122 hl (by decide) rfl (fun ls hl => ?_)
                                      refine lv_iload hx hb dL_written_124 (lv_at hl 1 rfl) ?_
                                      refine lv_bipush (v := nI 10) hx hb dL_written_126 (by decide) ?_
                                      refine lv_idiv hx hb dL_written_128 (by decide) ?_
                                      refine lv_topi (nm_r (show _ = nI 0 from by decide) ?_)
                                      refine lv_istore (lv' := [(4, .int (nI 0)), (5, .int (nI 1)), (0, .ref (aa 0)), (1, .int (nI to)), (2, .int (nI 0)), (3, .int (nI nb))]) hx hb dL_written_129 hl (by decide) rfl (fun ls hl => ?_)
                                      refine lv_goto (tgt := 88) hx hb dL_written_131 (by decide) ?_
                                      refine lv_iload hx hb dL_written_88 (lv_at hl 0 rfl) ?_
                                      refine lv_if_le (tgt := 134) hx hb dL_written_90 (by decide) (fun c90 => ?_) (fun c90 => ?_)
                                      · refine lv_iload hx hb dL_written_134 (lv_at hl 1 rfl) ?_
                                        refine lv_if_eq (tgt := 146) hx hb dL_written_136 (by decide) (fun c136 => ?_) (fun c136 => ?_)
                                        · exact absurd c136 (by decide)
                                        · refine lv_aload_n hx hb dL_written_139 rfl (lv_at hl 2 rfl) ?_
                                          refine f_TO (As := [.ref (aa 0)]) (rest := []) C0 hE hl hP hD hS (o_carry l hfl D cY eS eO aa sa bp hB (o_put (o_put (o_put (o_put (o_clr j) (65 + to)) 61) (48 + ((nb / 10) % 10))) (48 + ((nb / 1) % 10))) c hj69 hc ([(to, 0, nb, 0)]) (to, 0, nb, 0) (m_up c.1 to nb) c.2.1 (w_z2 j hto (by omega) (by omega) (by omega)) (w_run0 hnb) (rfl) (hto) ((o_g_up hc.1 hto hnb).1)) (vx_cwSW 1 hts gL_written_L_carryOut rfl rfl rfl (by decide +kernel) ⟨Nat.le_of_ble_eq_true rfl, Nat.le_of_ble_eq_true rfl⟩) dL_written_140 rfl (Nat.le_of_ble_eq_true rfl) (Nat.le_of_ble_eq_true rfl) (Nat.le_of_ble_eq_true rfl) (fun _ => rfl) (fun r71 u H70 locs hw hP hD hS => ?_)
                                          obtain ⟨j2_72, rfl⟩ : ∃ z, z = u := ⟨_, rfl⟩
                                          try dsimp only at hw
                                          obtain ⟨rfl, hq73⟩ := hw
                                          have hj74 : o_J j2_72 := hq73
                                          have hc75 : o_C (o_rec c (m_up c.1 to nb) c.2.1) := o_C_rec hc (o_g_up hc.1 hto hnb)
                                          have hP : va_P D vwCl (o_w cY aa sa bp j2_72 (o_rec c (m_up c.1 to nb) c.2.1)) H70 := hP
                                          have hD : va_D A (o_w cY aa sa bp j2_72 (o_rec c (m_up c.1 to nb) c.2.1)) := hD
                                          refine lv_goto (tgt := 148) hx hb dL_written_143 (by decide) ?_
                                          subst hQ
                                          exact f_iret (by decide) (by decide) C0 hS dL_written_148 (u := j2_72) hP (⟨congrArg nI (m_ups _ _ _), hj74, hc75⟩)
                                      · exact absurd c90 (by decide)
                        · have c75 : ¬ (10 ≤ nb) := fun qq9 => c75 ((nI_leI (a := 10) (b := nb) (by first | omega | exact Nat.lt_of_le_of_lt Nat.and_le_right (by decide) | exact Nat.lt_trans (nm_lt _ _) (by decide) | exact Nat.lt_trans (np_lt _ _) (by decide) | exact Nat.lt_trans (p_at_lt htx) (by decide)) (by first | omega | exact Nat.lt_of_le_of_lt Nat.and_le_right (by decide) | exact Nat.lt_trans (nm_lt _ _) (by decide) | exact Nat.lt_trans (np_lt _ _) (by decide) | exact Nat.lt_trans (p_at_lt htx) (by decide))).mpr qq9)
                          refine lv_iload hx hb dL_written_78 (lv_at hl 0 rfl) ?_
                          refine lv_bipush (v := nI 10) hx hb dL_written_80 (by decide) ?_
                          refine lv_idiv hx hb dL_written_82 (by decide) ?_
                          refine lv_topi (nm_r (show _ = nI 1 from by decide) ?_)
                          refine lv_istore (lv' := [(4, .int (nI 1)), (5, .int (nI 1)), (0, .ref (aa 0)), (1, .int (nI to)), (2, .int (nI 0)), (3, .int (nI nb))]) hx hb dL_written_83 hl (by decide) rfl (fun ls hl => ?_)
                          refine lv_goto (tgt := 66) hx hb dL_written_85 (by decide) ?_
                          refine lv_iload hx hb dL_written_66 (lv_at hl 0 rfl) ?_
                          refine lv_iconst (v := nI 1) hx hb dL_written_68 (by decide) ?_
                          refine lv_icmp_le (tgt := 88) hx hb dL_written_69 (by decide) (fun c69 => ?_) (fun c69 => ?_)
                          · refine lv_iload hx hb dL_written_88 (lv_at hl 0 rfl) ?_
                            refine lv_if_le (tgt := 134) hx hb dL_written_90 (by decide) (fun c90 => ?_) (fun c90 => ?_)
                            · exact absurd c90 (by decide)
                            · refine lv_iload hx hb dL_written_93 (lv_at hl 1 rfl) ?_
                              refine lv_if_eq (tgt := 121) hx hb dL_written_95 (by decide) (fun c95 => ?_) (fun c95 => ?_)
                              · exact absurd c95 (by decide)
                              · refine lv_aload_n hx hb dL_written_98 rfl (lv_at hl 2 rfl) ?_
                                refine lv_bipush (v := nI 48) hx hb dL_written_99 (by decide) ?_
                                refine lv_iload_n hx hb dL_written_101 rfl (lv_at hl 5 rfl) ?_
                                refine lv_iload hx hb dL_written_102 (lv_at hl 0 rfl) ?_
                                refine lv_idiv hx hb dL_written_104 (by decide) ?_
                                refine lv_topi (nm_r (pk_div (by omega) (by omega) (by omega)) ?_)
                                refine lv_bipush (v := nI 10) hx hb dL_written_105 (by decide) ?_
                                refine lv_irem hx hb dL_written_107 (by decide) ?_
                                refine lv_topi (nm_r (pk_rem (by omega) (by omega) (by omega)) ?_)
                                refine lv_iadd hx hb dL_written_108 ?_
                                refine lv_topi (nm_r (nI_add _ _) ?_)
                                refine f_TO (As := [.ref (aa 0), .int (nI (48 + ((nb / 1) % 10)))]) (rest := []) C0 hE hl hP hD hS (o_type l hfl D cY eS eO aa sa bp hB (o_put (o_put (o_clr j) (65 + to)) 61) c hj9 hc (48 + ((nb / 1) % 10)) (by first | assumption | omega | exact nm_lt _ _ | exact np_lt _ _ | exact q_s_lt _ | decide) (show 2 < 60 from by decide)) (vx_cwSW 2 hts gL_written_L_type rfl rfl rfl (by decide +kernel) ⟨Nat.le_of_ble_eq_true rfl, Nat.le_of_ble_eq_true rfl⟩) dL_written_109 rfl (Nat.le_of_ble_eq_true rfl) (Nat.le_of_ble_eq_true rfl) (Nat.le_of_ble_eq_true rfl) (fun _ => rfl) (fun r77 u H76 locs hw hP hD hS => ?_)
                                try dsimp only at hw
                                obtain rfl := hw
                                have hj78 : o_J (o_put (o_put (o_put (o_clr j) (65 + to)) 61) (48 + ((nb / 1) % 10))) := o_J_put hj9 (by first | assumption | omega | exact nm_lt _ _ | exact np_lt _ _ | exact q_s_lt _ | decide) (show 2 < 60 from by decide)
                                have hP : va_P D vwCl (o_w cY aa sa bp (o_put (o_put (o_put (o_clr j) (65 + to)) 61) (48 + ((nb / 1) % 10))) c) H76 := hP
                                have hD : va_D A (o_w cY aa sa bp (o_put (o_put (o_put (o_clr j) (65 + to)) 61) (48 + ((nb / 1) % 10))) c) := hD
                                refine lv_topi (nm_r (show nI ((o_put (o_put (o_clr j) (65 + to)) 61).1 + 1) = nI 3 from rfl) ?_)
                                refine lv_bipush (v := nI 10) hx hb dL_written_112 (by decide) ?_
                                refine lv_icmp_ge (tgt := 121) hx hb dL_written_114 (by decide) (fun c114 => ?_) (fun c114 => ?_)
                                · exact absurd c114 (by decide)
                                · refine lv_iconst (v := nI 1) hx hb dL_written_117 (by decide) ?_
                                  refine lv_goto (tgt := 122) hx hb dL_written_118 (by decide) ?_
                                  refine lv_istore (lv' := [(5, .int (nI 1)), (4, .int (nI 1)), (0, .ref (aa 0)), (1, .int (nI to)), (2, .int (nI 0)), (3, .int (nI nb))]) hx hb dL_written_122 hl (by decide) rfl (fun ls hl => ?_)
                                  refine lv_iload hx hb dL_written_124 (lv_at hl 1 rfl) ?_
                                  refine lv_bipush (v := nI 10) hx hb dL_written_126 (by decide) ?_
                                  refine lv_idiv hx hb dL_written_128 (by decide) ?_
                                  refine lv_topi (nm_r (show _ = nI 0 from by decide) ?_)
                                  refine lv_istore (lv' := [(4, .int (nI 0)), (5, .int (nI 1)), (0, .ref (aa 0)), (1, .int (nI to)), (2, .int (nI 0)), (3, .int (nI nb))]) hx hb dL_written_129 hl (by decide) rfl (fun ls hl => ?_)
                                  refine lv_goto (tgt := 88) hx hb dL_written_131 (by decide) ?_
                                  refine lv_iload hx hb dL_written_88 (lv_at hl 0 rfl) ?_
                                  refine lv_if_le (tgt := 134) hx hb dL_written_90 (by decide) (fun c90 => ?_) (fun c90 => ?_)
                                  · refine lv_iload hx hb dL_written_134 (lv_at hl 1 rfl) ?_
                                    refine lv_if_eq (tgt := 146) hx hb dL_written_136 (by decide) (fun c136 => ?_) (fun c136 => ?_)
                                    · exact absurd c136 (by decide)
                                    · refine lv_aload_n hx hb dL_written_139 rfl (lv_at hl 2 rfl) ?_
                                      refine f_TO (As := [.ref (aa 0)]) (rest := []) C0 hE hl hP hD hS (o_carry l hfl D cY eS eO aa sa bp hB (o_put (o_put (o_put (o_clr j) (65 + to)) 61) (48 + ((nb / 1) % 10))) c hj78 hc ([(to, 0, nb, 0)]) (to, 0, nb, 0) (m_up c.1 to nb) c.2.1 (w_z1 j hto (by omega) (by omega) (by omega)) (w_run0 hnb) (rfl) (hto) ((o_g_up hc.1 hto hnb).1)) (vx_cwSW 1 hts gL_written_L_carryOut rfl rfl rfl (by decide +kernel) ⟨Nat.le_of_ble_eq_true rfl, Nat.le_of_ble_eq_true rfl⟩) dL_written_140 rfl (Nat.le_of_ble_eq_true rfl) (Nat.le_of_ble_eq_true rfl) (Nat.le_of_ble_eq_true rfl) (fun _ => rfl) (fun r80 u H79 locs hw hP hD hS => ?_)
                                      obtain ⟨j2_81, rfl⟩ : ∃ z, z = u := ⟨_, rfl⟩
                                      try dsimp only at hw
                                      obtain ⟨rfl, hq82⟩ := hw
                                      have hj83 : o_J j2_81 := hq82
                                      have hc84 : o_C (o_rec c (m_up c.1 to nb) c.2.1) := o_C_rec hc (o_g_up hc.1 hto hnb)
                                      have hP : va_P D vwCl (o_w cY aa sa bp j2_81 (o_rec c (m_up c.1 to nb) c.2.1)) H79 := hP
                                      have hD : va_D A (o_w cY aa sa bp j2_81 (o_rec c (m_up c.1 to nb) c.2.1)) := hD
                                      refine lv_goto (tgt := 148) hx hb dL_written_143 (by decide) ?_
                                      subst hQ
                                      exact f_iret (by decide) (by decide) C0 hS dL_written_148 (u := j2_81) hP (⟨congrArg nI (m_ups _ _ _), hj83, hc84⟩)
                                  · exact absurd c90 (by decide)
                          · exact absurd c69 (by decide)
        · exact absurd c35 (by decide)
