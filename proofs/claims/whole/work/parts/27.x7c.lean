set_option maxHeartbeats 4000000 in
set_option maxRecDepth 100000 in
theorem c_X7_readsStep (l : Launch) (D : va_G) (cY : Nat → ClassId) (mx va vk vr vs vt vc vb : Nat) (rl ik th tl ta : Nat) (yr ys yo yf ye : Int32) (tx : Nat → Nat) (htl : tl ≤ 60) (htx : ∀ j, tx j < 65536) (hta : ta ≤ tl) : m_Mi l yX7_readsStep wsX7_readsStep 3 69 D cY [.ref mx] [(mx, .inr (7, [.ref va, .ref vk, .ref vr, .int (nI rl), .ref vs, .int (nI ik), .int (nI th), .ref vt, .int (nI tl), .int (nI ta), .int yr, .int ys, .int yo, .int yf, .int ye, .ref vc, .ref vb])), (vt, .inl (cY 0, 60, .inl (m_nf tx)))] (fun (res : Int32) (u : Nat × Int32 × Int32 × Int32 × Int32 × Int32) => (res = nI 0 ∧ p_step tx tl ta = .inl u.1 ∧ u.1 ≤ tl) ∨ (∃ x a b d, res = nI 1 ∧ p_step tx tl ta = .inr ((x, a, b, d), u.1) ∧ u.2.1 = nI x ∧ u.2.2.1 = nI a ∧ u.2.2.2.2.1 = p_ref b ∧ p_ok (x, a, b, d) ∧ (((a = 0 ∨ a = 126 ∨ a = 37) ∧ d = 0) ∨ ((a = 43 ∨ a = 42 ∨ a = 47 ∨ a = 94) ∧ u.2.2.2.2.2 = p_ref d)))) (fun (u : Nat × Int32 × Int32 × Int32 × Int32 × Int32) => [(mx, .inr (7, [.ref va, .ref vk, .ref vr, .int (nI rl), .ref vs, .int (nI ik), .int (nI th), .ref vt, .int (nI tl), .int (nI u.1), .int u.2.1, .int u.2.2.1, .int u.2.2.2.1, .int u.2.2.2.2.1, .int u.2.2.2.2.2, .ref vc, .ref vb])), (vt, .inl (cY 0, 60, .inl (m_nf tx)))]) := by
  refine m_enterI (cc := cX7_readsStep) (maxL := 2) (ret := (some .boolean)) (by decide +kernel) rfl (Nat.le_of_ble_eq_true rfl) ?_
  intro p e s m below meth c A ls C0 hP hD hl
  obtain ⟨hx, hb, hr, hml, hts, hown, hlocks, hK, hA⟩ := id C0
  generalize hQ : MQ below _ _ s 0 0 A = Q
  have hS : va_S A s.heap s.heap [] := va_S.rf
  have hl : lv_has ls 2 [(0, .ref mx)] := hl
  have hwd0 := hts (.fieldLink RX7 22 "NimberFieldModel" "text" "[I") (by decide +kernel)
  have hwd1 := (show ∀ w ∈ u_ws RX7 TX7 17, w ∈ wsX7_readsStep from by decide +kernel)
  have hwd2 := hts (.fieldLink RX7 90 "NimberFieldModel" "at" "I") (by decide +kernel)
  have hwd3 := hts (.fieldLink RX7 101 "NimberFieldModel" "register" "I") (by decide +kernel)
  have hwd4 := hts (.fieldLink RX7 107 "NimberFieldModel" "sign" "I") (by decide +kernel)
  have hwd5 := hts (.fieldLink RX7 97 "NimberFieldModel" "operand" "I") (by decide +kernel)
  have hwd6 := hts (.fieldLink RX7 114 "NimberFieldModel" "first" "I") (by decide +kernel)
  have hwd7 := hts (.fieldLink RX7 117 "NimberFieldModel" "second" "I") (by decide +kernel)
  have hpl : p_at tx tl ta < 65536 := p_at_lt htx
  refine lv_aload_n hx hb dX7_readsStep_0 rfl (lv_at hl 0 rfl) ?_
  refine lv_bipush (v := nI 65) hx hb dX7_readsStep_1 (by decide) ?_
  refine lv_bipush (v := nI 72) hx hb dX7_readsStep_3 (by decide) ?_
  refine m_callVi (As := [.int (nI 65), .int (nI 72)]) (rest := []) C0 hl hP hD hS (c_X7_isHere l D cY mx va vk vr vs vt vc vb rl ik th tl ta yr ys yo yf ye tx 65 72 (by first | assumption | omega | exact nm_lt _ _ | exact np_lt _ _ | decide) (by first | assumption | omega | exact nm_lt _ _ | exact np_lt _ _ | decide) (by first | assumption | omega | exact nm_lt _ _ | exact np_lt _ _ | decide) (by first | assumption | omega | exact nm_lt _ _ | exact np_lt _ _ | decide) (by first | assumption | omega | exact nm_lt _ _ | exact np_lt _ _ | decide) (by first | assumption | omega | exact nm_lt _ _ | exact np_lt _ _ | decide)) (cwV 2 hts gX7_readsStep_X7_isHere rfl rfl rfl (by decide +kernel) ⟨Nat.le_of_ble_eq_true rfl, Nat.le_of_ble_eq_true rfl⟩) dX7_readsStep_5 [0, 1] rfl rfl 0 rfl rfl rfl rfl (Nat.le_of_ble_eq_true rfl) (Nat.zero_le _) (Nat.zero_le _) (fun _ => rfl) (fun r2 u H1 locs hw hP hD hS => ?_)
  try dsimp only at hw
  obtain rfl := hw
  have hP : va_P D vwCl [(mx, .inr (7, [.ref va, .ref vk, .ref vr, .int (nI rl), .ref vs, .int (nI ik), .int (nI th), .ref vt, .int (nI tl), .int (nI ta), .int yr, .int ys, .int yo, .int yf, .int ye, .ref vc, .ref vb])), (vt, .inl (cY 0, 60, .inl (m_nf tx)))] H1 := hP
  have hD : va_D A [(mx, .inr (7, [.ref va, .ref vk, .ref vr, .int (nI rl), .ref vs, .int (nI ik), .int (nI th), .ref vt, .int (nI tl), .int (nI ta), .int yr, .int ys, .int yo, .int yf, .int ye, .ref vc, .ref vb])), (vt, .inl (cY 0, 60, .inl (m_nf tx)))] := hD
  rcases Decidable.em (65 ≤ p_at tx tl ta ∧ p_at tx tl ta ≤ 72) with ha | ha
  · skip
    refine lv_topi (nm_r (congrArg nI (if_pos ha)) ?_)
    refine lv_if_ne (tgt := 13) hx hb dX7_readsStep_8 (by decide) (fun c8 => ?_) (fun c8 => ?_)
    · have hin := p_at_in (tx := tx) (show 0 < p_at tx tl ta by omega)
      refine lv_aload_n hx hb dX7_readsStep_13 rfl (lv_at hl 0 rfl) ?_
      refine lv_aload_n hx hb dX7_readsStep_14 rfl (lv_at hl 0 rfl) ?_
      refine va_get (D := D) (ci := 7) (v := .ref vt) (C := RX7) (T := TX7) (N := 17) hx hb hts hwd1 hown hK hP 0 rfl rfl 7 (by decide) hwd0 (fun _ h9 => h9) rfl dX7_readsStep_15 ?_
      refine lv_aload_n hx hb dX7_readsStep_18 rfl (lv_at hl 0 rfl) ?_
      refine va_get (D := D) (ci := 7) (v := .int (nI ta)) (C := RX7) (T := TX7) (N := 17) hx hb hts hwd1 hown hK hP 0 rfl rfl 9 (by decide) hwd2 (fun _ h9 => h9) rfl dX7_readsStep_19 ?_
      refine va_iald hx hb hK hP 1 0 rfl rfl (m_in (n := ta) (by first | assumption | omega) (by decide)) dX7_readsStep_22 ?_
      refine lv_topi (nm_r (m_ldn (g := tx) (n := ta) (by omega)) ?_)
      refine lv_topi (nm_r (congrArg nI (p_at_of hin).symm) ?_)
      refine lv_bipush (v := nI 65) hx hb dX7_readsStep_23 (by decide) ?_
      refine lv_isub hx hb dX7_readsStep_25 ?_
      refine lv_topi (nm_r (pk_sub (by omega)) ?_)
      refine va_put (D := D) (ci := 7) (v := .int (nI ((p_at tx tl ta) - 65))) (ty := .int) (C := RX7) (T := TX7) (N := 17) hx hb hts hwd1 tyX7 tyX7_ok nmX7 hown hK hP hD hS 0 rfl rfl 10 (by decide) hwd3 (fun _ h9 => h9) rfl (by decide +kernel) rfl rfl (Nat.le_of_ble_eq_true rfl) dX7_readsStep_26 (fun H3 locs hP hD hS => ?_)
      have hP : va_P D vwCl [(mx, .inr (7, [.ref va, .ref vk, .ref vr, .int (nI rl), .ref vs, .int (nI ik), .int (nI th), .ref vt, .int (nI tl), .int (nI ta), .int (nI ((p_at tx tl ta) - 65)), .int ys, .int yo, .int yf, .int ye, .ref vc, .ref vb])), (vt, .inl (cY 0, 60, .inl (m_nf tx)))] H3 := hP
      have hD : va_D A [(mx, .inr (7, [.ref va, .ref vk, .ref vr, .int (nI rl), .ref vs, .int (nI ik), .int (nI th), .ref vt, .int (nI tl), .int (nI ta), .int (nI ((p_at tx tl ta) - 65)), .int ys, .int yo, .int yf, .int ye, .ref vc, .ref vb])), (vt, .inl (cY 0, 60, .inl (m_nf tx)))] := hD
      refine lv_aload_n hx hb dX7_readsStep_29 rfl (lv_at hl 0 rfl) ?_
      refine lv_dup hx hb dX7_readsStep_30 rfl ?_
      refine va_get (D := D) (ci := 7) (v := .int (nI ta)) (C := RX7) (T := TX7) (N := 17) hx hb hts hwd1 hown hK hP 0 rfl rfl 9 (by decide) hwd2 (fun _ h9 => h9) rfl dX7_readsStep_31 ?_
      refine lv_iconst (v := nI 1) hx hb dX7_readsStep_34 (by decide) ?_
      refine lv_iadd hx hb dX7_readsStep_35 ?_
      refine lv_topi (nm_r (nI_add _ _) ?_)
      refine va_put (D := D) (ci := 7) (v := .int (nI (ta + 1))) (ty := .int) (C := RX7) (T := TX7) (N := 17) hx hb hts hwd1 tyX7 tyX7_ok nmX7 hown hK hP hD hS 0 rfl rfl 9 (by decide) hwd2 (fun _ h9 => h9) rfl (by decide +kernel) rfl rfl (Nat.le_of_ble_eq_true rfl) dX7_readsStep_36 (fun H4 locs hP hD hS => ?_)
      have hP : va_P D vwCl [(mx, .inr (7, [.ref va, .ref vk, .ref vr, .int (nI rl), .ref vs, .int (nI ik), .int (nI th), .ref vt, .int (nI tl), .int (nI (ta + 1)), .int (nI ((p_at tx tl ta) - 65)), .int ys, .int yo, .int yf, .int ye, .ref vc, .ref vb])), (vt, .inl (cY 0, 60, .inl (m_nf tx)))] H4 := hP
      have hD : va_D A [(mx, .inr (7, [.ref va, .ref vk, .ref vr, .int (nI rl), .ref vs, .int (nI ik), .int (nI th), .ref vt, .int (nI tl), .int (nI (ta + 1)), .int (nI ((p_at tx tl ta) - 65)), .int ys, .int yo, .int yf, .int ye, .ref vc, .ref vb])), (vt, .inl (cY 0, 60, .inl (m_nf tx)))] := hD
      refine lv_aload_n hx hb dX7_readsStep_39 rfl (lv_at hl 0 rfl) ?_
      refine lv_bipush (v := nI 61) hx hb dX7_readsStep_40 (by decide) ?_
      refine m_callVi (As := [.int (nI 61)]) (rest := []) C0 hl hP hD hS (c_X7_takesOne l D cY mx va vk vr vs vt vc vb rl ik th tl (ta + 1) (nI ((p_at tx tl ta) - 65)) ys yo yf ye tx 61 (by first | assumption | omega | exact nm_lt _ _ | exact np_lt _ _ | decide) (by first | assumption | omega | exact nm_lt _ _ | exact np_lt _ _ | decide) (by first | assumption | omega | exact nm_lt _ _ | exact np_lt _ _ | decide) (by first | assumption | omega | exact nm_lt _ _ | exact np_lt _ _ | decide) (by first | assumption | omega | exact nm_lt _ _ | exact np_lt _ _ | decide)) (cwV 1 hts gX7_readsStep_X7_takesOne rfl rfl rfl (by decide +kernel) ⟨Nat.le_of_ble_eq_true rfl, Nat.le_of_ble_eq_true rfl⟩) dX7_readsStep_42 [0, 1] rfl rfl 0 rfl rfl rfl rfl (Nat.le_of_ble_eq_true rfl) (Nat.zero_le _) (Nat.zero_le _) (fun _ => rfl) (fun r7 u H5 locs hw hP hD hS => ?_)
      obtain ⟨ta9_6, rfl⟩ : ∃ z, z = u := ⟨_, rfl⟩
      try dsimp only at hw
      have hq8 := hw; clear hw
      have hP : va_P D vwCl [(mx, .inr (7, [.ref va, .ref vk, .ref vr, .int (nI rl), .ref vs, .int (nI ik), .int (nI th), .ref vt, .int (nI tl), .int (nI ta9_6), .int (nI ((p_at tx tl ta) - 65)), .int ys, .int yo, .int yf, .int ye, .ref vc, .ref vb])), (vt, .inl (cY 0, 60, .inl (m_nf tx)))] H5 := hP
      have hD : va_D A [(mx, .inr (7, [.ref va, .ref vk, .ref vr, .int (nI rl), .ref vs, .int (nI ik), .int (nI th), .ref vt, .int (nI tl), .int (nI ta9_6), .int (nI ((p_at tx tl ta) - 65)), .int ys, .int yo, .int yf, .int ye, .ref vc, .ref vb])), (vt, .inl (cY 0, 60, .inl (m_nf tx)))] := hD
      rcases hq8 with ⟨rfl, hk1, hk3, hk4⟩ | ⟨rfl, hk1, hk3⟩
      · skip
        rw [hk3] at hP hD
        have hP : va_P D vwCl [(mx, .inr (7, [.ref va, .ref vk, .ref vr, .int (nI rl), .ref vs, .int (nI ik), .int (nI th), .ref vt, .int (nI tl), .int (nI (ta + 1 + 1)), .int (nI ((p_at tx tl ta) - 65)), .int ys, .int yo, .int yf, .int ye, .ref vc, .ref vb])), (vt, .inl (cY 0, 60, .inl (m_nf tx)))] H5 := hP
        have hD : va_D A [(mx, .inr (7, [.ref va, .ref vk, .ref vr, .int (nI rl), .ref vs, .int (nI ik), .int (nI th), .ref vt, .int (nI tl), .int (nI (ta + 1 + 1)), .int (nI ((p_at tx tl ta) - 65)), .int ys, .int yo, .int yf, .int ye, .ref vc, .ref vb])), (vt, .inl (cY 0, 60, .inl (m_nf tx)))] := hD
        refine lv_if_ne (tgt := 50) hx hb dX7_readsStep_45 (by decide) (fun c45 => ?_) (fun c45 => ?_)
        · refine lv_aload_n hx hb dX7_readsStep_50 rfl (lv_at hl 0 rfl) ?_
          refine lv_aload_n hx hb dX7_readsStep_51 rfl (lv_at hl 0 rfl) ?_
          refine lv_bipush (v := nI 126) hx hb dX7_readsStep_52 (by decide) ?_
          refine lv_bipush (v := nI 126) hx hb dX7_readsStep_54 (by decide) ?_
          refine m_callVi (As := [.int (nI 126), .int (nI 126)]) (rest := [.ref mx]) C0 hl hP hD hS (c_X7_isHere l D cY mx va vk vr vs vt vc vb rl ik th tl (ta + 1 + 1) (nI ((p_at tx tl ta) - 65)) ys yo yf ye tx 126 126 (by first | assumption | omega | exact nm_lt _ _ | exact np_lt _ _ | decide) (by first | assumption | omega | exact nm_lt _ _ | exact np_lt _ _ | decide) (by first | assumption | omega | exact nm_lt _ _ | exact np_lt _ _ | decide) (by first | assumption | omega | exact nm_lt _ _ | exact np_lt _ _ | decide) (by first | assumption | omega | exact nm_lt _ _ | exact np_lt _ _ | decide) (by first | assumption | omega | exact nm_lt _ _ | exact np_lt _ _ | decide)) (cwV 2 hts gX7_readsStep_X7_isHere rfl rfl rfl (by decide +kernel) ⟨Nat.le_of_ble_eq_true rfl, Nat.le_of_ble_eq_true rfl⟩) dX7_readsStep_56 [0, 1] rfl rfl 0 rfl rfl rfl rfl (Nat.le_of_ble_eq_true rfl) (Nat.zero_le _) (Nat.zero_le _) (fun _ => rfl) (fun r10 u H9 locs hw hP hD hS => ?_)
          try dsimp only at hw
          obtain rfl := hw
          have hP : va_P D vwCl [(mx, .inr (7, [.ref va, .ref vk, .ref vr, .int (nI rl), .ref vs, .int (nI ik), .int (nI th), .ref vt, .int (nI tl), .int (nI (ta + 1 + 1)), .int (nI ((p_at tx tl ta) - 65)), .int ys, .int yo, .int yf, .int ye, .ref vc, .ref vb])), (vt, .inl (cY 0, 60, .inl (m_nf tx)))] H9 := hP
          have hD : va_D A [(mx, .inr (7, [.ref va, .ref vk, .ref vr, .int (nI rl), .ref vs, .int (nI ik), .int (nI th), .ref vt, .int (nI tl), .int (nI (ta + 1 + 1)), .int (nI ((p_at tx tl ta) - 65)), .int ys, .int yo, .int yf, .int ye, .ref vc, .ref vb])), (vt, .inl (cY 0, 60, .inl (m_nf tx)))] := hD
          rcases Decidable.em (126 ≤ p_at tx tl (ta + 1 + 1) ∧ p_at tx tl (ta + 1 + 1) ≤ 126) with h126 | h126
          · skip
            refine lv_topi (nm_r (congrArg nI (if_pos h126)) ?_)
            refine lv_if_ne (tgt := 73) hx hb dX7_readsStep_59 (by decide) (fun c59 => ?_) (fun c59 => ?_)
            · have hinz11 := p_at_in (tx := tx) (len := tl) (k := (ta + 1 + 1)) (by omega)
              refine lv_aload_n hx hb dX7_readsStep_73 rfl (lv_at hl 0 rfl) ?_
              refine va_get (D := D) (ci := 7) (v := .ref vt) (C := RX7) (T := TX7) (N := 17) hx hb hts hwd1 hown hK hP 0 rfl rfl 7 (by decide) hwd0 (fun _ h9 => h9) rfl dX7_readsStep_74 ?_
              refine lv_aload_n hx hb dX7_readsStep_77 rfl (lv_at hl 0 rfl) ?_
              refine va_get (D := D) (ci := 7) (v := .int (nI (ta + 1 + 1))) (C := RX7) (T := TX7) (N := 17) hx hb hts hwd1 hown hK hP 0 rfl rfl 9 (by decide) hwd2 (fun _ h9 => h9) rfl dX7_readsStep_78 ?_
              refine va_iald hx hb hK hP 1 0 rfl rfl (m_in (n := (ta + 1 + 1)) (by first | assumption | omega) (by decide)) dX7_readsStep_81 ?_
              refine lv_topi (nm_r (m_ldn (g := tx) (n := (ta + 1 + 1)) (by omega)) ?_)
              refine lv_topi (nm_r (congrArg nI (p_at_of (p_at_in (tx := tx) (len := tl) (k := (ta + 1 + 1)) (by omega))).symm) ?_)
              refine lv_goto (tgt := 86) hx hb dX7_readsStep_82 (by decide) ?_
              refine va_put (D := D) (ci := 7) (v := .int (nI (p_at tx tl ((ta + 1 + 1))))) (ty := .int) (C := RX7) (T := TX7) (N := 17) hx hb hts hwd1 tyX7 tyX7_ok nmX7 hown hK hP hD hS 0 rfl rfl 11 (by decide) hwd4 (fun _ h9 => h9) rfl (by decide +kernel) rfl rfl (Nat.le_of_ble_eq_true rfl) dX7_readsStep_86 (fun H12 locs hP hD hS => ?_)
              have hP : va_P D vwCl [(mx, .inr (7, [.ref va, .ref vk, .ref vr, .int (nI rl), .ref vs, .int (nI ik), .int (nI th), .ref vt, .int (nI tl), .int (nI (ta + 1 + 1)), .int (nI ((p_at tx tl ta) - 65)), .int (nI (p_at tx tl ((ta + 1 + 1)))), .int yo, .int yf, .int ye, .ref vc, .ref vb])), (vt, .inl (cY 0, 60, .inl (m_nf tx)))] H12 := hP
              have hD : va_D A [(mx, .inr (7, [.ref va, .ref vk, .ref vr, .int (nI rl), .ref vs, .int (nI ik), .int (nI th), .ref vt, .int (nI tl), .int (nI (ta + 1 + 1)), .int (nI ((p_at tx tl ta) - 65)), .int (nI (p_at tx tl ((ta + 1 + 1)))), .int yo, .int yf, .int ye, .ref vc, .ref vb])), (vt, .inl (cY 0, 60, .inl (m_nf tx)))] := hD
              refine lv_aload_n hx hb dX7_readsStep_89 rfl (lv_at hl 0 rfl) ?_
              refine lv_dup hx hb dX7_readsStep_90 rfl ?_
              refine va_get (D := D) (ci := 7) (v := .int (nI (ta + 1 + 1))) (C := RX7) (T := TX7) (N := 17) hx hb hts hwd1 hown hK hP 0 rfl rfl 9 (by decide) hwd2 (fun _ h9 => h9) rfl dX7_readsStep_91 ?_
              refine lv_aload_n hx hb dX7_readsStep_94 rfl (lv_at hl 0 rfl) ?_
              refine va_get (D := D) (ci := 7) (v := .int (nI (p_at tx tl ((ta + 1 + 1))))) (C := RX7) (T := TX7) (N := 17) hx hb hts hwd1 hown hK hP 0 rfl rfl 11 (by decide) hwd4 (fun _ h9 => h9) rfl dX7_readsStep_95 ?_
              refine lv_if_eq (tgt := 105) hx hb dX7_readsStep_98 (by decide) (fun c98 => ?_) (fun c98 => ?_)
              · have c98 : (p_at tx tl ((ta + 1 + 1))) = 0 := (nI_eq (a := (p_at tx tl ((ta + 1 + 1)))) (b := 0) (by first | omega | exact Nat.lt_of_le_of_lt Nat.and_le_right (by decide) | exact Nat.lt_trans (nm_lt _ _) (by decide) | exact Nat.lt_trans (np_lt _ _) (by decide) | exact Nat.lt_trans (p_at_lt htx) (by decide)) (by first | omega | exact Nat.lt_of_le_of_lt Nat.and_le_right (by decide) | exact Nat.lt_trans (nm_lt _ _) (by decide) | exact Nat.lt_trans (np_lt _ _) (by decide) | exact Nat.lt_trans (p_at_lt htx) (by decide))).mp c98
                exfalso; omega
              · have c98 : ¬ ((p_at tx tl ((ta + 1 + 1))) = 0) := fun qq9 => c98 ((nI_eq (a := (p_at tx tl ((ta + 1 + 1)))) (b := 0) (by first | omega | exact Nat.lt_of_le_of_lt Nat.and_le_right (by decide) | exact Nat.lt_trans (nm_lt _ _) (by decide) | exact Nat.lt_trans (np_lt _ _) (by decide) | exact Nat.lt_trans (p_at_lt htx) (by decide)) (by first | omega | exact Nat.lt_of_le_of_lt Nat.and_le_right (by decide) | exact Nat.lt_trans (nm_lt _ _) (by decide) | exact Nat.lt_trans (np_lt _ _) (by decide) | exact Nat.lt_trans (p_at_lt htx) (by decide))).mpr qq9)
                refine lv_iconst (v := nI 1) hx hb dX7_readsStep_101 (by decide) ?_
                refine lv_goto (tgt := 106) hx hb dX7_readsStep_102 (by decide) ?_
                refine lv_iadd hx hb dX7_readsStep_106 ?_
                refine lv_topi (nm_r (nI_add _ _) ?_)
                refine va_put (D := D) (ci := 7) (v := .int (nI ((ta + 1 + 1) + 1))) (ty := .int) (C := RX7) (T := TX7) (N := 17) hx hb hts hwd1 tyX7 tyX7_ok nmX7 hown hK hP hD hS 0 rfl rfl 9 (by decide) hwd2 (fun _ h9 => h9) rfl (by decide +kernel) rfl rfl (Nat.le_of_ble_eq_true rfl) dX7_readsStep_107 (fun H13 locs hP hD hS => ?_)
                have hP : va_P D vwCl [(mx, .inr (7, [.ref va, .ref vk, .ref vr, .int (nI rl), .ref vs, .int (nI ik), .int (nI th), .ref vt, .int (nI tl), .int (nI ((ta + 1 + 1) + 1)), .int (nI ((p_at tx tl ta) - 65)), .int (nI (p_at tx tl ((ta + 1 + 1)))), .int yo, .int yf, .int ye, .ref vc, .ref vb])), (vt, .inl (cY 0, 60, .inl (m_nf tx)))] H13 := hP
                have hD : va_D A [(mx, .inr (7, [.ref va, .ref vk, .ref vr, .int (nI rl), .ref vs, .int (nI ik), .int (nI th), .ref vt, .int (nI tl), .int (nI ((ta + 1 + 1) + 1)), .int (nI ((p_at tx tl ta) - 65)), .int (nI (p_at tx tl ((ta + 1 + 1)))), .int yo, .int yf, .int ye, .ref vc, .ref vb])), (vt, .inl (cY 0, 60, .inl (m_nf tx)))] := hD
                refine lv_aload_n hx hb dX7_readsStep_110 rfl (lv_at hl 0 rfl) ?_
                refine m_callVi (As := []) (rest := []) C0 hl hP hD hS (c_X7_readsOperand l D cY mx va vk vr vs vt vc vb rl ik th tl ((ta + 1 + 1) + 1) (nI ((p_at tx tl ta) - 65)) (nI (p_at tx tl ((ta + 1 + 1)))) yo yf ye tx (by first | assumption | omega | exact nm_lt _ _ | exact np_lt _ _ | decide) (by first | assumption | omega | exact nm_lt _ _ | exact np_lt _ _ | decide) (by first | assumption | omega | exact nm_lt _ _ | exact np_lt _ _ | decide)) (cwV 0 hts gX7_readsStep_X7_readsOperand rfl rfl rfl (by decide +kernel) ⟨Nat.le_of_ble_eq_true rfl, Nat.le_of_ble_eq_true rfl⟩) dX7_readsStep_111 [0, 1] rfl rfl 0 rfl rfl rfl rfl (Nat.le_of_ble_eq_true rfl) (Nat.zero_le _) (Nat.zero_le _) (fun _ => rfl) (fun r17 u H14 locs hw hP hD hS => ?_)
                obtain ⟨ta9_15, yo9_16⟩ := u
                try dsimp only at hw
                have hq18 := hw; clear hw
                have hP : va_P D vwCl [(mx, .inr (7, [.ref va, .ref vk, .ref vr, .int (nI rl), .ref vs, .int (nI ik), .int (nI th), .ref vt, .int (nI tl), .int (nI ta9_15), .int (nI ((p_at tx tl ta) - 65)), .int (nI (p_at tx tl ((ta + 1 + 1)))), .int yo9_16, .int yf, .int ye, .ref vc, .ref vb])), (vt, .inl (cY 0, 60, .inl (m_nf tx)))] H14 := hP
                have hD : va_D A [(mx, .inr (7, [.ref va, .ref vk, .ref vr, .int (nI rl), .ref vs, .int (nI ik), .int (nI th), .ref vt, .int (nI tl), .int (nI ta9_15), .int (nI ((p_at tx tl ta) - 65)), .int (nI (p_at tx tl ((ta + 1 + 1)))), .int yo9_16, .int yf, .int ye, .ref vc, .ref vb])), (vt, .inl (cY 0, 60, .inl (m_nf tx)))] := hD
                rcases hq18 with ⟨rfl, ha1, ha2⟩ | ⟨vA, rfl, ha1, hra, hva, hla⟩
                · skip
                  rw [ha2] at hP hD
                  have hP : va_P D vwCl [(mx, .inr (7, [.ref va, .ref vk, .ref vr, .int (nI rl), .ref vs, .int (nI ik), .int (nI th), .ref vt, .int (nI tl), .int (nI ((ta + 1 + 1) + 1)), .int (nI ((p_at tx tl ta) - 65)), .int (nI (p_at tx tl ((ta + 1 + 1)))), .int yo9_16, .int yf, .int ye, .ref vc, .ref vb])), (vt, .inl (cY 0, 60, .inl (m_nf tx)))] H14 := hP
                  have hD : va_D A [(mx, .inr (7, [.ref va, .ref vk, .ref vr, .int (nI rl), .ref vs, .int (nI ik), .int (nI th), .ref vt, .int (nI tl), .int (nI ((ta + 1 + 1) + 1)), .int (nI ((p_at tx tl ta) - 65)), .int (nI (p_at tx tl ((ta + 1 + 1)))), .int yo9_16, .int yf, .int ye, .ref vc, .ref vb])), (vt, .inl (cY 0, 60, .inl (m_nf tx)))] := hD
                  refine lv_if_ne (tgt := 119) hx hb dX7_readsStep_114 (by decide) (fun c114 => ?_) (fun c114 => ?_)
                  · exact absurd c114 (by decide)
                  · refine lv_iconst (v := nI 0) hx hb dX7_readsStep_117 (by decide) ?_
                    have hrg : p_rg (p_at tx tl ta) = some (p_at tx tl ta - 65) := by rw [p_rg, if_pos ha]
                    have hone : (p_at tx tl (ta + 2) = 126 ∨ p_at tx tl (ta + 2) = 37) := by (have e2 : ta + 2 = ta + 1 + 1 := rfl); (rw [e2]); omega
                    subst hQ
                    exact m_zret C0 (by decide) hS dX7_readsStep_118 (u := (((ta + 1 + 1) + 1), nI ((p_at tx tl ta) - 65), nI (p_at tx tl ((ta + 1 + 1))), yo9_16, yf, ye)) hP (Or.inl ⟨rfl, by simp only [p_step, p_tgt, hrg, if_pos hk1, p_rhs, if_pos hone, show p_opd tx tl (ta + 2 + 1) = none from ha1], by omega⟩)
                · skip
                  have hlta := p_opd_lt ha1
                  refine lv_if_ne (tgt := 119) hx hb dX7_readsStep_114 (by decide) (fun c114 => ?_) (fun c114 => ?_)
                  · refine lv_aload_n hx hb dX7_readsStep_119 rfl (lv_at hl 0 rfl) ?_
                    refine lv_aload_n hx hb dX7_readsStep_120 rfl (lv_at hl 0 rfl) ?_
                    refine va_get (D := D) (ci := 7) (v := .int yo9_16) (C := RX7) (T := TX7) (N := 17) hx hb hts hwd1 hown hK hP 0 rfl rfl 12 (by decide) hwd5 (fun _ h9 => h9) rfl dX7_readsStep_121 ?_
                    refine va_put (D := D) (ci := 7) (v := .int yo9_16) (ty := .int) (C := RX7) (T := TX7) (N := 17) hx hb hts hwd1 tyX7 tyX7_ok nmX7 hown hK hP hD hS 0 rfl rfl 13 (by decide) hwd6 (fun _ h9 => h9) rfl (by decide +kernel) rfl rfl (Nat.le_of_ble_eq_true rfl) dX7_readsStep_124 (fun H19 locs hP hD hS => ?_)
                    have hP : va_P D vwCl [(mx, .inr (7, [.ref va, .ref vk, .ref vr, .int (nI rl), .ref vs, .int (nI ik), .int (nI th), .ref vt, .int (nI tl), .int (nI ta9_15), .int (nI ((p_at tx tl ta) - 65)), .int (nI (p_at tx tl ((ta + 1 + 1)))), .int yo9_16, .int yo9_16, .int ye, .ref vc, .ref vb])), (vt, .inl (cY 0, 60, .inl (m_nf tx)))] H19 := hP
                    have hD : va_D A [(mx, .inr (7, [.ref va, .ref vk, .ref vr, .int (nI rl), .ref vs, .int (nI ik), .int (nI th), .ref vt, .int (nI tl), .int (nI ta9_15), .int (nI ((p_at tx tl ta) - 65)), .int (nI (p_at tx tl ((ta + 1 + 1)))), .int yo9_16, .int yo9_16, .int ye, .ref vc, .ref vb])), (vt, .inl (cY 0, 60, .inl (m_nf tx)))] := hD
                    refine lv_aload_n hx hb dX7_readsStep_127 rfl (lv_at hl 0 rfl) ?_
                    refine va_get (D := D) (ci := 7) (v := .int (nI (p_at tx tl ((ta + 1 + 1))))) (C := RX7) (T := TX7) (N := 17) hx hb hts hwd1 hown hK hP 0 rfl rfl 11 (by decide) hwd4 (fun _ h9 => h9) rfl dX7_readsStep_128 ?_
                    refine lv_if_ne (tgt := 178) hx hb dX7_readsStep_131 (by decide) (fun c131 => ?_) (fun c131 => ?_)
                    · have c131 : ¬ ((p_at tx tl ((ta + 1 + 1))) = 0) := fun qq9 => c131 ((nI_eq (a := (p_at tx tl ((ta + 1 + 1)))) (b := 0) (by first | omega | exact Nat.lt_of_le_of_lt Nat.and_le_right (by decide) | exact Nat.lt_trans (nm_lt _ _) (by decide) | exact Nat.lt_trans (np_lt _ _) (by decide) | exact Nat.lt_trans (p_at_lt htx) (by decide)) (by first | omega | exact Nat.lt_of_le_of_lt Nat.and_le_right (by decide) | exact Nat.lt_trans (nm_lt _ _) (by decide) | exact Nat.lt_trans (np_lt _ _) (by decide) | exact Nat.lt_trans (p_at_lt htx) (by decide))).mpr qq9)
                      refine lv_iconst (v := nI 1) hx hb dX7_readsStep_178 (by decide) ?_
                      have hrg : p_rg (p_at tx tl ta) = some (p_at tx tl ta - 65) := by rw [p_rg, if_pos ha]
                      have hone : (p_at tx tl (ta + 2) = 126 ∨ p_at tx tl (ta + 2) = 37) := by (have e2 : ta + 2 = ta + 1 + 1 := rfl); (rw [e2]); omega
                      subst hQ
                      exact m_zret C0 (by decide) hS dX7_readsStep_179 (u := (ta9_15, nI ((p_at tx tl ta) - 65), nI (p_at tx tl ((ta + 1 + 1))), yo9_16, yo9_16, ye)) hP (Or.inr ⟨_, p_at tx tl (ta + 2), vA, 0, rfl, by simp only [p_step, p_tgt, hrg, if_pos hk1, p_rhs, if_pos hone, show p_opd tx tl (ta + 2 + 1) = some (vA, ta9_15) from ha1], rfl, rfl, hra, ⟨by dsimp only; omega, p_at_lt htx, hva, (show (0 : Nat) < 65544 from by decide)⟩, Or.inl ⟨by omega, rfl⟩⟩)
                    · have c131 : (p_at tx tl ((ta + 1 + 1))) = 0 := (nI_eq (a := (p_at tx tl ((ta + 1 + 1)))) (b := 0) (by first | omega | exact Nat.lt_of_le_of_lt Nat.and_le_right (by decide) | exact Nat.lt_trans (nm_lt _ _) (by decide) | exact Nat.lt_trans (np_lt _ _) (by decide) | exact Nat.lt_trans (p_at_lt htx) (by decide)) (by first | omega | exact Nat.lt_of_le_of_lt Nat.and_le_right (by decide) | exact Nat.lt_trans (nm_lt _ _) (by decide) | exact Nat.lt_trans (np_lt _ _) (by decide) | exact Nat.lt_trans (p_at_lt htx) (by decide))).mp c131
                      exfalso; omega
                  · exact absurd c114 (by decide)
            · exact absurd c59 (by decide)
          · skip
            refine lv_topi (nm_r (congrArg nI (if_neg h126)) ?_)
            refine lv_if_ne (tgt := 73) hx hb dX7_readsStep_59 (by decide) (fun c59 => ?_) (fun c59 => ?_)
            · exact absurd c59 (by decide)
            · refine lv_aload_n hx hb dX7_readsStep_62 rfl (lv_at hl 0 rfl) ?_
              refine lv_bipush (v := nI 37) hx hb dX7_readsStep_63 (by decide) ?_
              refine lv_bipush (v := nI 37) hx hb dX7_readsStep_65 (by decide) ?_
              refine m_callVi (As := [.int (nI 37), .int (nI 37)]) (rest := [.ref mx]) C0 hl hP hD hS (c_X7_isHere l D cY mx va vk vr vs vt vc vb rl ik th tl (ta + 1 + 1) (nI ((p_at tx tl ta) - 65)) ys yo yf ye tx 37 37 (by first | assumption | omega | exact nm_lt _ _ | exact np_lt _ _ | decide) (by first | assumption | omega | exact nm_lt _ _ | exact np_lt _ _ | decide) (by first | assumption | omega | exact nm_lt _ _ | exact np_lt _ _ | decide) (by first | assumption | omega | exact nm_lt _ _ | exact np_lt _ _ | decide) (by first | assumption | omega | exact nm_lt _ _ | exact np_lt _ _ | decide) (by first | assumption | omega | exact nm_lt _ _ | exact np_lt _ _ | decide)) (cwV 2 hts gX7_readsStep_X7_isHere rfl rfl rfl (by decide +kernel) ⟨Nat.le_of_ble_eq_true rfl, Nat.le_of_ble_eq_true rfl⟩) dX7_readsStep_67 [0, 1] rfl rfl 0 rfl rfl rfl rfl (Nat.le_of_ble_eq_true rfl) (Nat.zero_le _) (Nat.zero_le _) (fun _ => rfl) (fun r21 u H20 locs hw hP hD hS => ?_)
              try dsimp only at hw
              obtain rfl := hw
              have hP : va_P D vwCl [(mx, .inr (7, [.ref va, .ref vk, .ref vr, .int (nI rl), .ref vs, .int (nI ik), .int (nI th), .ref vt, .int (nI tl), .int (nI (ta + 1 + 1)), .int (nI ((p_at tx tl ta) - 65)), .int ys, .int yo, .int yf, .int ye, .ref vc, .ref vb])), (vt, .inl (cY 0, 60, .inl (m_nf tx)))] H20 := hP
              have hD : va_D A [(mx, .inr (7, [.ref va, .ref vk, .ref vr, .int (nI rl), .ref vs, .int (nI ik), .int (nI th), .ref vt, .int (nI tl), .int (nI (ta + 1 + 1)), .int (nI ((p_at tx tl ta) - 65)), .int ys, .int yo, .int yf, .int ye, .ref vc, .ref vb])), (vt, .inl (cY 0, 60, .inl (m_nf tx)))] := hD
              rcases Decidable.em (37 ≤ p_at tx tl (ta + 1 + 1) ∧ p_at tx tl (ta + 1 + 1) ≤ 37) with h37 | h37
              · skip
                refine lv_topi (nm_r (congrArg nI (if_pos h37)) ?_)
                refine lv_if_eq (tgt := 85) hx hb dX7_readsStep_70 (by decide) (fun c70 => ?_) (fun c70 => ?_)
                · exact absurd c70 (by decide)
                · have hinz22 := p_at_in (tx := tx) (len := tl) (k := (ta + 1 + 1)) (by omega)
                  refine lv_aload_n hx hb dX7_readsStep_73 rfl (lv_at hl 0 rfl) ?_
                  refine va_get (D := D) (ci := 7) (v := .ref vt) (C := RX7) (T := TX7) (N := 17) hx hb hts hwd1 hown hK hP 0 rfl rfl 7 (by decide) hwd0 (fun _ h9 => h9) rfl dX7_readsStep_74 ?_
                  refine lv_aload_n hx hb dX7_readsStep_77 rfl (lv_at hl 0 rfl) ?_
                  refine va_get (D := D) (ci := 7) (v := .int (nI (ta + 1 + 1))) (C := RX7) (T := TX7) (N := 17) hx hb hts hwd1 hown hK hP 0 rfl rfl 9 (by decide) hwd2 (fun _ h9 => h9) rfl dX7_readsStep_78 ?_
                  refine va_iald hx hb hK hP 1 0 rfl rfl (m_in (n := (ta + 1 + 1)) (by first | assumption | omega) (by decide)) dX7_readsStep_81 ?_
                  refine lv_topi (nm_r (m_ldn (g := tx) (n := (ta + 1 + 1)) (by omega)) ?_)
                  refine lv_topi (nm_r (congrArg nI (p_at_of (p_at_in (tx := tx) (len := tl) (k := (ta + 1 + 1)) (by omega))).symm) ?_)
                  refine lv_goto (tgt := 86) hx hb dX7_readsStep_82 (by decide) ?_
                  refine va_put (D := D) (ci := 7) (v := .int (nI (p_at tx tl ((ta + 1 + 1))))) (ty := .int) (C := RX7) (T := TX7) (N := 17) hx hb hts hwd1 tyX7 tyX7_ok nmX7 hown hK hP hD hS 0 rfl rfl 11 (by decide) hwd4 (fun _ h9 => h9) rfl (by decide +kernel) rfl rfl (Nat.le_of_ble_eq_true rfl) dX7_readsStep_86 (fun H23 locs hP hD hS => ?_)
                  have hP : va_P D vwCl [(mx, .inr (7, [.ref va, .ref vk, .ref vr, .int (nI rl), .ref vs, .int (nI ik), .int (nI th), .ref vt, .int (nI tl), .int (nI (ta + 1 + 1)), .int (nI ((p_at tx tl ta) - 65)), .int (nI (p_at tx tl ((ta + 1 + 1)))), .int yo, .int yf, .int ye, .ref vc, .ref vb])), (vt, .inl (cY 0, 60, .inl (m_nf tx)))] H23 := hP
                  have hD : va_D A [(mx, .inr (7, [.ref va, .ref vk, .ref vr, .int (nI rl), .ref vs, .int (nI ik), .int (nI th), .ref vt, .int (nI tl), .int (nI (ta + 1 + 1)), .int (nI ((p_at tx tl ta) - 65)), .int (nI (p_at tx tl ((ta + 1 + 1)))), .int yo, .int yf, .int ye, .ref vc, .ref vb])), (vt, .inl (cY 0, 60, .inl (m_nf tx)))] := hD
                  refine lv_aload_n hx hb dX7_readsStep_89 rfl (lv_at hl 0 rfl) ?_
                  refine lv_dup hx hb dX7_readsStep_90 rfl ?_
                  refine va_get (D := D) (ci := 7) (v := .int (nI (ta + 1 + 1))) (C := RX7) (T := TX7) (N := 17) hx hb hts hwd1 hown hK hP 0 rfl rfl 9 (by decide) hwd2 (fun _ h9 => h9) rfl dX7_readsStep_91 ?_
                  refine lv_aload_n hx hb dX7_readsStep_94 rfl (lv_at hl 0 rfl) ?_
                  refine va_get (D := D) (ci := 7) (v := .int (nI (p_at tx tl ((ta + 1 + 1))))) (C := RX7) (T := TX7) (N := 17) hx hb hts hwd1 hown hK hP 0 rfl rfl 11 (by decide) hwd4 (fun _ h9 => h9) rfl dX7_readsStep_95 ?_
                  refine lv_if_eq (tgt := 105) hx hb dX7_readsStep_98 (by decide) (fun c98 => ?_) (fun c98 => ?_)
                  · have c98 : (p_at tx tl ((ta + 1 + 1))) = 0 := (nI_eq (a := (p_at tx tl ((ta + 1 + 1)))) (b := 0) (by first | omega | exact Nat.lt_of_le_of_lt Nat.and_le_right (by decide) | exact Nat.lt_trans (nm_lt _ _) (by decide) | exact Nat.lt_trans (np_lt _ _) (by decide) | exact Nat.lt_trans (p_at_lt htx) (by decide)) (by first | omega | exact Nat.lt_of_le_of_lt Nat.and_le_right (by decide) | exact Nat.lt_trans (nm_lt _ _) (by decide) | exact Nat.lt_trans (np_lt _ _) (by decide) | exact Nat.lt_trans (p_at_lt htx) (by decide))).mp c98
                    exfalso; omega
                  · have c98 : ¬ ((p_at tx tl ((ta + 1 + 1))) = 0) := fun qq9 => c98 ((nI_eq (a := (p_at tx tl ((ta + 1 + 1)))) (b := 0) (by first | omega | exact Nat.lt_of_le_of_lt Nat.and_le_right (by decide) | exact Nat.lt_trans (nm_lt _ _) (by decide) | exact Nat.lt_trans (np_lt _ _) (by decide) | exact Nat.lt_trans (p_at_lt htx) (by decide)) (by first | omega | exact Nat.lt_of_le_of_lt Nat.and_le_right (by decide) | exact Nat.lt_trans (nm_lt _ _) (by decide) | exact Nat.lt_trans (np_lt _ _) (by decide) | exact Nat.lt_trans (p_at_lt htx) (by decide))).mpr qq9)
                    refine lv_iconst (v := nI 1) hx hb dX7_readsStep_101 (by decide) ?_
                    refine lv_goto (tgt := 106) hx hb dX7_readsStep_102 (by decide) ?_
                    refine lv_iadd hx hb dX7_readsStep_106 ?_
                    refine lv_topi (nm_r (nI_add _ _) ?_)
                    refine va_put (D := D) (ci := 7) (v := .int (nI ((ta + 1 + 1) + 1))) (ty := .int) (C := RX7) (T := TX7) (N := 17) hx hb hts hwd1 tyX7 tyX7_ok nmX7 hown hK hP hD hS 0 rfl rfl 9 (by decide) hwd2 (fun _ h9 => h9) rfl (by decide +kernel) rfl rfl (Nat.le_of_ble_eq_true rfl) dX7_readsStep_107 (fun H24 locs hP hD hS => ?_)
                    have hP : va_P D vwCl [(mx, .inr (7, [.ref va, .ref vk, .ref vr, .int (nI rl), .ref vs, .int (nI ik), .int (nI th), .ref vt, .int (nI tl), .int (nI ((ta + 1 + 1) + 1)), .int (nI ((p_at tx tl ta) - 65)), .int (nI (p_at tx tl ((ta + 1 + 1)))), .int yo, .int yf, .int ye, .ref vc, .ref vb])), (vt, .inl (cY 0, 60, .inl (m_nf tx)))] H24 := hP
                    have hD : va_D A [(mx, .inr (7, [.ref va, .ref vk, .ref vr, .int (nI rl), .ref vs, .int (nI ik), .int (nI th), .ref vt, .int (nI tl), .int (nI ((ta + 1 + 1) + 1)), .int (nI ((p_at tx tl ta) - 65)), .int (nI (p_at tx tl ((ta + 1 + 1)))), .int yo, .int yf, .int ye, .ref vc, .ref vb])), (vt, .inl (cY 0, 60, .inl (m_nf tx)))] := hD
                    refine lv_aload_n hx hb dX7_readsStep_110 rfl (lv_at hl 0 rfl) ?_
                    refine m_callVi (As := []) (rest := []) C0 hl hP hD hS (c_X7_readsOperand l D cY mx va vk vr vs vt vc vb rl ik th tl ((ta + 1 + 1) + 1) (nI ((p_at tx tl ta) - 65)) (nI (p_at tx tl ((ta + 1 + 1)))) yo yf ye tx (by first | assumption | omega | exact nm_lt _ _ | exact np_lt _ _ | decide) (by first | assumption | omega | exact nm_lt _ _ | exact np_lt _ _ | decide) (by first | assumption | omega | exact nm_lt _ _ | exact np_lt _ _ | decide)) (cwV 0 hts gX7_readsStep_X7_readsOperand rfl rfl rfl (by decide +kernel) ⟨Nat.le_of_ble_eq_true rfl, Nat.le_of_ble_eq_true rfl⟩) dX7_readsStep_111 [0, 1] rfl rfl 0 rfl rfl rfl rfl (Nat.le_of_ble_eq_true rfl) (Nat.zero_le _) (Nat.zero_le _) (fun _ => rfl) (fun r28 u H25 locs hw hP hD hS => ?_)
                    obtain ⟨ta9_26, yo9_27⟩ := u
                    try dsimp only at hw
                    have hq29 := hw; clear hw
                    have hP : va_P D vwCl [(mx, .inr (7, [.ref va, .ref vk, .ref vr, .int (nI rl), .ref vs, .int (nI ik), .int (nI th), .ref vt, .int (nI tl), .int (nI ta9_26), .int (nI ((p_at tx tl ta) - 65)), .int (nI (p_at tx tl ((ta + 1 + 1)))), .int yo9_27, .int yf, .int ye, .ref vc, .ref vb])), (vt, .inl (cY 0, 60, .inl (m_nf tx)))] H25 := hP
                    have hD : va_D A [(mx, .inr (7, [.ref va, .ref vk, .ref vr, .int (nI rl), .ref vs, .int (nI ik), .int (nI th), .ref vt, .int (nI tl), .int (nI ta9_26), .int (nI ((p_at tx tl ta) - 65)), .int (nI (p_at tx tl ((ta + 1 + 1)))), .int yo9_27, .int yf, .int ye, .ref vc, .ref vb])), (vt, .inl (cY 0, 60, .inl (m_nf tx)))] := hD
                    rcases hq29 with ⟨rfl, ha1, ha2⟩ | ⟨vA, rfl, ha1, hra, hva, hla⟩
                    · skip
                      rw [ha2] at hP hD
                      have hP : va_P D vwCl [(mx, .inr (7, [.ref va, .ref vk, .ref vr, .int (nI rl), .ref vs, .int (nI ik), .int (nI th), .ref vt, .int (nI tl), .int (nI ((ta + 1 + 1) + 1)), .int (nI ((p_at tx tl ta) - 65)), .int (nI (p_at tx tl ((ta + 1 + 1)))), .int yo9_27, .int yf, .int ye, .ref vc, .ref vb])), (vt, .inl (cY 0, 60, .inl (m_nf tx)))] H25 := hP
                      have hD : va_D A [(mx, .inr (7, [.ref va, .ref vk, .ref vr, .int (nI rl), .ref vs, .int (nI ik), .int (nI th), .ref vt, .int (nI tl), .int (nI ((ta + 1 + 1) + 1)), .int (nI ((p_at tx tl ta) - 65)), .int (nI (p_at tx tl ((ta + 1 + 1)))), .int yo9_27, .int yf, .int ye, .ref vc, .ref vb])), (vt, .inl (cY 0, 60, .inl (m_nf tx)))] := hD
                      refine lv_if_ne (tgt := 119) hx hb dX7_readsStep_114 (by decide) (fun c114 => ?_) (fun c114 => ?_)
                      · exact absurd c114 (by decide)
                      · refine lv_iconst (v := nI 0) hx hb dX7_readsStep_117 (by decide) ?_
                        have hrg : p_rg (p_at tx tl ta) = some (p_at tx tl ta - 65) := by rw [p_rg, if_pos ha]
                        have hone : (p_at tx tl (ta + 2) = 126 ∨ p_at tx tl (ta + 2) = 37) := by (have e2 : ta + 2 = ta + 1 + 1 := rfl); (rw [e2]); omega
                        subst hQ
                        exact m_zret C0 (by decide) hS dX7_readsStep_118 (u := (((ta + 1 + 1) + 1), nI ((p_at tx tl ta) - 65), nI (p_at tx tl ((ta + 1 + 1))), yo9_27, yf, ye)) hP (Or.inl ⟨rfl, by simp only [p_step, p_tgt, hrg, if_pos hk1, p_rhs, if_pos hone, show p_opd tx tl (ta + 2 + 1) = none from ha1], by omega⟩)
                    · skip
                      have hlta := p_opd_lt ha1
                      refine lv_if_ne (tgt := 119) hx hb dX7_readsStep_114 (by decide) (fun c114 => ?_) (fun c114 => ?_)
                      · refine lv_aload_n hx hb dX7_readsStep_119 rfl (lv_at hl 0 rfl) ?_
                        refine lv_aload_n hx hb dX7_readsStep_120 rfl (lv_at hl 0 rfl) ?_
                        refine va_get (D := D) (ci := 7) (v := .int yo9_27) (C := RX7) (T := TX7) (N := 17) hx hb hts hwd1 hown hK hP 0 rfl rfl 12 (by decide) hwd5 (fun _ h9 => h9) rfl dX7_readsStep_121 ?_
                        refine va_put (D := D) (ci := 7) (v := .int yo9_27) (ty := .int) (C := RX7) (T := TX7) (N := 17) hx hb hts hwd1 tyX7 tyX7_ok nmX7 hown hK hP hD hS 0 rfl rfl 13 (by decide) hwd6 (fun _ h9 => h9) rfl (by decide +kernel) rfl rfl (Nat.le_of_ble_eq_true rfl) dX7_readsStep_124 (fun H30 locs hP hD hS => ?_)
                        have hP : va_P D vwCl [(mx, .inr (7, [.ref va, .ref vk, .ref vr, .int (nI rl), .ref vs, .int (nI ik), .int (nI th), .ref vt, .int (nI tl), .int (nI ta9_26), .int (nI ((p_at tx tl ta) - 65)), .int (nI (p_at tx tl ((ta + 1 + 1)))), .int yo9_27, .int yo9_27, .int ye, .ref vc, .ref vb])), (vt, .inl (cY 0, 60, .inl (m_nf tx)))] H30 := hP
                        have hD : va_D A [(mx, .inr (7, [.ref va, .ref vk, .ref vr, .int (nI rl), .ref vs, .int (nI ik), .int (nI th), .ref vt, .int (nI tl), .int (nI ta9_26), .int (nI ((p_at tx tl ta) - 65)), .int (nI (p_at tx tl ((ta + 1 + 1)))), .int yo9_27, .int yo9_27, .int ye, .ref vc, .ref vb])), (vt, .inl (cY 0, 60, .inl (m_nf tx)))] := hD
                        refine lv_aload_n hx hb dX7_readsStep_127 rfl (lv_at hl 0 rfl) ?_
                        refine va_get (D := D) (ci := 7) (v := .int (nI (p_at tx tl ((ta + 1 + 1))))) (C := RX7) (T := TX7) (N := 17) hx hb hts hwd1 hown hK hP 0 rfl rfl 11 (by decide) hwd4 (fun _ h9 => h9) rfl dX7_readsStep_128 ?_
                        refine lv_if_ne (tgt := 178) hx hb dX7_readsStep_131 (by decide) (fun c131 => ?_) (fun c131 => ?_)
                        · have c131 : ¬ ((p_at tx tl ((ta + 1 + 1))) = 0) := fun qq9 => c131 ((nI_eq (a := (p_at tx tl ((ta + 1 + 1)))) (b := 0) (by first | omega | exact Nat.lt_of_le_of_lt Nat.and_le_right (by decide) | exact Nat.lt_trans (nm_lt _ _) (by decide) | exact Nat.lt_trans (np_lt _ _) (by decide) | exact Nat.lt_trans (p_at_lt htx) (by decide)) (by first | omega | exact Nat.lt_of_le_of_lt Nat.and_le_right (by decide) | exact Nat.lt_trans (nm_lt _ _) (by decide) | exact Nat.lt_trans (np_lt _ _) (by decide) | exact Nat.lt_trans (p_at_lt htx) (by decide))).mpr qq9)
                          refine lv_iconst (v := nI 1) hx hb dX7_readsStep_178 (by decide) ?_
                          have hrg : p_rg (p_at tx tl ta) = some (p_at tx tl ta - 65) := by rw [p_rg, if_pos ha]
                          have hone : (p_at tx tl (ta + 2) = 126 ∨ p_at tx tl (ta + 2) = 37) := by (have e2 : ta + 2 = ta + 1 + 1 := rfl); (rw [e2]); omega
                          subst hQ
                          exact m_zret C0 (by decide) hS dX7_readsStep_179 (u := (ta9_26, nI ((p_at tx tl ta) - 65), nI (p_at tx tl ((ta + 1 + 1))), yo9_27, yo9_27, ye)) hP (Or.inr ⟨_, p_at tx tl (ta + 2), vA, 0, rfl, by simp only [p_step, p_tgt, hrg, if_pos hk1, p_rhs, if_pos hone, show p_opd tx tl (ta + 2 + 1) = some (vA, ta9_26) from ha1], rfl, rfl, hra, ⟨by dsimp only; omega, p_at_lt htx, hva, (show (0 : Nat) < 65544 from by decide)⟩, Or.inl ⟨by omega, rfl⟩⟩)
                        · have c131 : (p_at tx tl ((ta + 1 + 1))) = 0 := (nI_eq (a := (p_at tx tl ((ta + 1 + 1)))) (b := 0) (by first | omega | exact Nat.lt_of_le_of_lt Nat.and_le_right (by decide) | exact Nat.lt_trans (nm_lt _ _) (by decide) | exact Nat.lt_trans (np_lt _ _) (by decide) | exact Nat.lt_trans (p_at_lt htx) (by decide)) (by first | omega | exact Nat.lt_of_le_of_lt Nat.and_le_right (by decide) | exact Nat.lt_trans (nm_lt _ _) (by decide) | exact Nat.lt_trans (np_lt _ _) (by decide) | exact Nat.lt_trans (p_at_lt htx) (by decide))).mp c131
                          exfalso; omega
                      · exact absurd c114 (by decide)
              · skip
                refine lv_topi (nm_r (congrArg nI (if_neg h37)) ?_)
                refine lv_if_eq (tgt := 85) hx hb dX7_readsStep_70 (by decide) (fun c70 => ?_) (fun c70 => ?_)
                · refine lv_iconst (v := nI 0) hx hb dX7_readsStep_85 (by decide) ?_
                  refine va_put (D := D) (ci := 7) (v := .int (nI 0)) (ty := .int) (C := RX7) (T := TX7) (N := 17) hx hb hts hwd1 tyX7 tyX7_ok nmX7 hown hK hP hD hS 0 rfl rfl 11 (by decide) hwd4 (fun _ h9 => h9) rfl (by decide +kernel) rfl rfl (Nat.le_of_ble_eq_true rfl) dX7_readsStep_86 (fun H31 locs hP hD hS => ?_)
                  have hP : va_P D vwCl [(mx, .inr (7, [.ref va, .ref vk, .ref vr, .int (nI rl), .ref vs, .int (nI ik), .int (nI th), .ref vt, .int (nI tl), .int (nI (ta + 1 + 1)), .int (nI ((p_at tx tl ta) - 65)), .int (nI 0), .int yo, .int yf, .int ye, .ref vc, .ref vb])), (vt, .inl (cY 0, 60, .inl (m_nf tx)))] H31 := hP
                  have hD : va_D A [(mx, .inr (7, [.ref va, .ref vk, .ref vr, .int (nI rl), .ref vs, .int (nI ik), .int (nI th), .ref vt, .int (nI tl), .int (nI (ta + 1 + 1)), .int (nI ((p_at tx tl ta) - 65)), .int (nI 0), .int yo, .int yf, .int ye, .ref vc, .ref vb])), (vt, .inl (cY 0, 60, .inl (m_nf tx)))] := hD
                  refine lv_aload_n hx hb dX7_readsStep_89 rfl (lv_at hl 0 rfl) ?_
                  refine lv_dup hx hb dX7_readsStep_90 rfl ?_
                  refine va_get (D := D) (ci := 7) (v := .int (nI (ta + 1 + 1))) (C := RX7) (T := TX7) (N := 17) hx hb hts hwd1 hown hK hP 0 rfl rfl 9 (by decide) hwd2 (fun _ h9 => h9) rfl dX7_readsStep_91 ?_
                  refine lv_aload_n hx hb dX7_readsStep_94 rfl (lv_at hl 0 rfl) ?_
                  refine va_get (D := D) (ci := 7) (v := .int (nI 0)) (C := RX7) (T := TX7) (N := 17) hx hb hts hwd1 hown hK hP 0 rfl rfl 11 (by decide) hwd4 (fun _ h9 => h9) rfl dX7_readsStep_95 ?_
                  refine lv_if_eq (tgt := 105) hx hb dX7_readsStep_98 (by decide) (fun c98 => ?_) (fun c98 => ?_)
                  · refine lv_iconst (v := nI 0) hx hb dX7_readsStep_105 (by decide) ?_
                    refine lv_iadd hx hb dX7_readsStep_106 ?_
                    refine lv_topi (nm_r (show nI (ta + 1 + 1) + nI 0 = nI (ta + 1 + 1) from nI_add _ 0) ?_)
                    refine va_put (D := D) (ci := 7) (v := .int (nI (ta + 1 + 1))) (ty := .int) (C := RX7) (T := TX7) (N := 17) hx hb hts hwd1 tyX7 tyX7_ok nmX7 hown hK hP hD hS 0 rfl rfl 9 (by decide) hwd2 (fun _ h9 => h9) rfl (by decide +kernel) rfl rfl (Nat.le_of_ble_eq_true rfl) dX7_readsStep_107 (fun H32 locs hP hD hS => ?_)
                    have hP : va_P D vwCl [(mx, .inr (7, [.ref va, .ref vk, .ref vr, .int (nI rl), .ref vs, .int (nI ik), .int (nI th), .ref vt, .int (nI tl), .int (nI (ta + 1 + 1)), .int (nI ((p_at tx tl ta) - 65)), .int (nI 0), .int yo, .int yf, .int ye, .ref vc, .ref vb])), (vt, .inl (cY 0, 60, .inl (m_nf tx)))] H32 := hP
                    have hD : va_D A [(mx, .inr (7, [.ref va, .ref vk, .ref vr, .int (nI rl), .ref vs, .int (nI ik), .int (nI th), .ref vt, .int (nI tl), .int (nI (ta + 1 + 1)), .int (nI ((p_at tx tl ta) - 65)), .int (nI 0), .int yo, .int yf, .int ye, .ref vc, .ref vb])), (vt, .inl (cY 0, 60, .inl (m_nf tx)))] := hD
                    refine lv_aload_n hx hb dX7_readsStep_110 rfl (lv_at hl 0 rfl) ?_
                    refine m_callVi (As := []) (rest := []) C0 hl hP hD hS (c_X7_readsOperand l D cY mx va vk vr vs vt vc vb rl ik th tl (ta + 1 + 1) (nI ((p_at tx tl ta) - 65)) (nI 0) yo yf ye tx (by first | assumption | omega | exact nm_lt _ _ | exact np_lt _ _ | decide) (by first | assumption | omega | exact nm_lt _ _ | exact np_lt _ _ | decide) (by first | assumption | omega | exact nm_lt _ _ | exact np_lt _ _ | decide)) (cwV 0 hts gX7_readsStep_X7_readsOperand rfl rfl rfl (by decide +kernel) ⟨Nat.le_of_ble_eq_true rfl, Nat.le_of_ble_eq_true rfl⟩) dX7_readsStep_111 [0, 1] rfl rfl 0 rfl rfl rfl rfl (Nat.le_of_ble_eq_true rfl) (Nat.zero_le _) (Nat.zero_le _) (fun _ => rfl) (fun r36 u H33 locs hw hP hD hS => ?_)
                    obtain ⟨ta9_34, yo9_35⟩ := u
                    try dsimp only at hw
                    have hq37 := hw; clear hw
                    have hP : va_P D vwCl [(mx, .inr (7, [.ref va, .ref vk, .ref vr, .int (nI rl), .ref vs, .int (nI ik), .int (nI th), .ref vt, .int (nI tl), .int (nI ta9_34), .int (nI ((p_at tx tl ta) - 65)), .int (nI 0), .int yo9_35, .int yf, .int ye, .ref vc, .ref vb])), (vt, .inl (cY 0, 60, .inl (m_nf tx)))] H33 := hP
                    have hD : va_D A [(mx, .inr (7, [.ref va, .ref vk, .ref vr, .int (nI rl), .ref vs, .int (nI ik), .int (nI th), .ref vt, .int (nI tl), .int (nI ta9_34), .int (nI ((p_at tx tl ta) - 65)), .int (nI 0), .int yo9_35, .int yf, .int ye, .ref vc, .ref vb])), (vt, .inl (cY 0, 60, .inl (m_nf tx)))] := hD
                    rcases hq37 with ⟨rfl, ha1, ha2⟩ | ⟨vA, rfl, ha1, hra, hva, hla⟩
                    · skip
                      rw [ha2] at hP hD
                      have hP : va_P D vwCl [(mx, .inr (7, [.ref va, .ref vk, .ref vr, .int (nI rl), .ref vs, .int (nI ik), .int (nI th), .ref vt, .int (nI tl), .int (nI (ta + 1 + 1)), .int (nI ((p_at tx tl ta) - 65)), .int (nI 0), .int yo9_35, .int yf, .int ye, .ref vc, .ref vb])), (vt, .inl (cY 0, 60, .inl (m_nf tx)))] H33 := hP
                      have hD : va_D A [(mx, .inr (7, [.ref va, .ref vk, .ref vr, .int (nI rl), .ref vs, .int (nI ik), .int (nI th), .ref vt, .int (nI tl), .int (nI (ta + 1 + 1)), .int (nI ((p_at tx tl ta) - 65)), .int (nI 0), .int yo9_35, .int yf, .int ye, .ref vc, .ref vb])), (vt, .inl (cY 0, 60, .inl (m_nf tx)))] := hD
                      refine lv_if_ne (tgt := 119) hx hb dX7_readsStep_114 (by decide) (fun c114 => ?_) (fun c114 => ?_)
                      · exact absurd c114 (by decide)
                      · refine lv_iconst (v := nI 0) hx hb dX7_readsStep_117 (by decide) ?_
                        have hrg : p_rg (p_at tx tl ta) = some (p_at tx tl ta - 65) := by rw [p_rg, if_pos ha]
                        have hone : ¬ (p_at tx tl (ta + 2) = 126 ∨ p_at tx tl (ta + 2) = 37) := by (have e2 : ta + 2 = ta + 1 + 1 := rfl); (rw [e2]); omega
                        subst hQ
                        exact m_zret C0 (by decide) hS dX7_readsStep_118 (u := ((ta + 1 + 1), nI ((p_at tx tl ta) - 65), nI 0, yo9_35, yf, ye)) hP (Or.inl ⟨rfl, by simp only [p_step, p_tgt, hrg, if_pos hk1, p_rhs, if_neg hone, show p_opd tx tl (ta + 2) = none from ha1], by omega⟩)
                    · skip
                      have hlta := p_opd_lt ha1
                      refine lv_if_ne (tgt := 119) hx hb dX7_readsStep_114 (by decide) (fun c114 => ?_) (fun c114 => ?_)
                      · refine lv_aload_n hx hb dX7_readsStep_119 rfl (lv_at hl 0 rfl) ?_
                        refine lv_aload_n hx hb dX7_readsStep_120 rfl (lv_at hl 0 rfl) ?_
                        refine va_get (D := D) (ci := 7) (v := .int yo9_35) (C := RX7) (T := TX7) (N := 17) hx hb hts hwd1 hown hK hP 0 rfl rfl 12 (by decide) hwd5 (fun _ h9 => h9) rfl dX7_readsStep_121 ?_
                        refine va_put (D := D) (ci := 7) (v := .int yo9_35) (ty := .int) (C := RX7) (T := TX7) (N := 17) hx hb hts hwd1 tyX7 tyX7_ok nmX7 hown hK hP hD hS 0 rfl rfl 13 (by decide) hwd6 (fun _ h9 => h9) rfl (by decide +kernel) rfl rfl (Nat.le_of_ble_eq_true rfl) dX7_readsStep_124 (fun H38 locs hP hD hS => ?_)
                        have hP : va_P D vwCl [(mx, .inr (7, [.ref va, .ref vk, .ref vr, .int (nI rl), .ref vs, .int (nI ik), .int (nI th), .ref vt, .int (nI tl), .int (nI ta9_34), .int (nI ((p_at tx tl ta) - 65)), .int (nI 0), .int yo9_35, .int yo9_35, .int ye, .ref vc, .ref vb])), (vt, .inl (cY 0, 60, .inl (m_nf tx)))] H38 := hP
                        have hD : va_D A [(mx, .inr (7, [.ref va, .ref vk, .ref vr, .int (nI rl), .ref vs, .int (nI ik), .int (nI th), .ref vt, .int (nI tl), .int (nI ta9_34), .int (nI ((p_at tx tl ta) - 65)), .int (nI 0), .int yo9_35, .int yo9_35, .int ye, .ref vc, .ref vb])), (vt, .inl (cY 0, 60, .inl (m_nf tx)))] := hD
                        refine lv_aload_n hx hb dX7_readsStep_127 rfl (lv_at hl 0 rfl) ?_
                        refine va_get (D := D) (ci := 7) (v := .int (nI 0)) (C := RX7) (T := TX7) (N := 17) hx hb hts hwd1 hown hK hP 0 rfl rfl 11 (by decide) hwd4 (fun _ h9 => h9) rfl dX7_readsStep_128 ?_
                        refine lv_if_ne (tgt := 178) hx hb dX7_readsStep_131 (by decide) (fun c131 => ?_) (fun c131 => ?_)
                        · exact absurd c131 (by decide)
                        · refine lv_aload_n hx hb dX7_readsStep_134 rfl (lv_at hl 0 rfl) ?_
                          refine lv_bipush (v := nI 43) hx hb dX7_readsStep_135 (by decide) ?_
                          refine lv_bipush (v := nI 43) hx hb dX7_readsStep_137 (by decide) ?_
                          refine m_callVi (As := [.int (nI 43), .int (nI 43)]) (rest := []) C0 hl hP hD hS (c_X7_isHere l D cY mx va vk vr vs vt vc vb rl ik th tl ta9_34 (nI ((p_at tx tl ta) - 65)) (nI 0) yo9_35 yo9_35 ye tx 43 43 (by first | assumption | omega | exact nm_lt _ _ | exact np_lt _ _ | decide) (by first | assumption | omega | exact nm_lt _ _ | exact np_lt _ _ | decide) (by first | assumption | omega | exact nm_lt _ _ | exact np_lt _ _ | decide) (by first | assumption | omega | exact nm_lt _ _ | exact np_lt _ _ | decide) (by first | assumption | omega | exact nm_lt _ _ | exact np_lt _ _ | decide) (by first | assumption | omega | exact nm_lt _ _ | exact np_lt _ _ | decide)) (cwV 2 hts gX7_readsStep_X7_isHere rfl rfl rfl (by decide +kernel) ⟨Nat.le_of_ble_eq_true rfl, Nat.le_of_ble_eq_true rfl⟩) dX7_readsStep_139 [0, 1] rfl rfl 0 rfl rfl rfl rfl (Nat.le_of_ble_eq_true rfl) (Nat.zero_le _) (Nat.zero_le _) (fun _ => rfl) (fun r40 u H39 locs hw hP hD hS => ?_)
                          try dsimp only at hw
                          obtain rfl := hw
                          have hP : va_P D vwCl [(mx, .inr (7, [.ref va, .ref vk, .ref vr, .int (nI rl), .ref vs, .int (nI ik), .int (nI th), .ref vt, .int (nI tl), .int (nI ta9_34), .int (nI ((p_at tx tl ta) - 65)), .int (nI 0), .int yo9_35, .int yo9_35, .int ye, .ref vc, .ref vb])), (vt, .inl (cY 0, 60, .inl (m_nf tx)))] H39 := hP
                          have hD : va_D A [(mx, .inr (7, [.ref va, .ref vk, .ref vr, .int (nI rl), .ref vs, .int (nI ik), .int (nI th), .ref vt, .int (nI tl), .int (nI ta9_34), .int (nI ((p_at tx tl ta) - 65)), .int (nI 0), .int yo9_35, .int yo9_35, .int ye, .ref vc, .ref vb])), (vt, .inl (cY 0, 60, .inl (m_nf tx)))] := hD
                          rcases Decidable.em (43 ≤ p_at tx tl ta9_34 ∧ p_at tx tl ta9_34 ≤ 43) with h43 | h43
                          · skip
                            refine lv_topi (nm_r (congrArg nI (if_pos h43)) ?_)
                            refine lv_if_ne (tgt := 180) hx hb dX7_readsStep_142 (by decide) (fun c142 => ?_) (fun c142 => ?_)
                            · have hinz41 := p_at_in (tx := tx) (len := tl) (k := ta9_34) (by omega)
                              refine lv_aload_n hx hb dX7_readsStep_180 rfl (lv_at hl 0 rfl) ?_
                              refine lv_aload_n hx hb dX7_readsStep_181 rfl (lv_at hl 0 rfl) ?_
                              refine va_get (D := D) (ci := 7) (v := .ref vt) (C := RX7) (T := TX7) (N := 17) hx hb hts hwd1 hown hK hP 0 rfl rfl 7 (by decide) hwd0 (fun _ h9 => h9) rfl dX7_readsStep_182 ?_
                              refine lv_aload_n hx hb dX7_readsStep_185 rfl (lv_at hl 0 rfl) ?_
                              refine va_get (D := D) (ci := 7) (v := .int (nI ta9_34)) (C := RX7) (T := TX7) (N := 17) hx hb hts hwd1 hown hK hP 0 rfl rfl 9 (by decide) hwd2 (fun _ h9 => h9) rfl dX7_readsStep_186 ?_
                              refine va_iald hx hb hK hP 1 0 rfl rfl (m_in (n := ta9_34) (by first | assumption | omega) (by decide)) dX7_readsStep_189 ?_
                              refine lv_topi (nm_r (m_ldn (g := tx) (n := ta9_34) (by omega)) ?_)
                              refine lv_topi (nm_r (congrArg nI (p_at_of (p_at_in (tx := tx) (len := tl) (k := ta9_34) (by omega))).symm) ?_)
                              refine va_put (D := D) (ci := 7) (v := .int (nI (p_at tx tl ta9_34))) (ty := .int) (C := RX7) (T := TX7) (N := 17) hx hb hts hwd1 tyX7 tyX7_ok nmX7 hown hK hP hD hS 0 rfl rfl 11 (by decide) hwd4 (fun _ h9 => h9) rfl (by decide +kernel) rfl rfl (Nat.le_of_ble_eq_true rfl) dX7_readsStep_190 (fun H42 locs hP hD hS => ?_)
                              have hP : va_P D vwCl [(mx, .inr (7, [.ref va, .ref vk, .ref vr, .int (nI rl), .ref vs, .int (nI ik), .int (nI th), .ref vt, .int (nI tl), .int (nI ta9_34), .int (nI ((p_at tx tl ta) - 65)), .int (nI (p_at tx tl ta9_34)), .int yo9_35, .int yo9_35, .int ye, .ref vc, .ref vb])), (vt, .inl (cY 0, 60, .inl (m_nf tx)))] H42 := hP
                              have hD : va_D A [(mx, .inr (7, [.ref va, .ref vk, .ref vr, .int (nI rl), .ref vs, .int (nI ik), .int (nI th), .ref vt, .int (nI tl), .int (nI ta9_34), .int (nI ((p_at tx tl ta) - 65)), .int (nI (p_at tx tl ta9_34)), .int yo9_35, .int yo9_35, .int ye, .ref vc, .ref vb])), (vt, .inl (cY 0, 60, .inl (m_nf tx)))] := hD
                              refine lv_aload_n hx hb dX7_readsStep_193 rfl (lv_at hl 0 rfl) ?_
                              refine lv_dup hx hb dX7_readsStep_194 rfl ?_
                              refine va_get (D := D) (ci := 7) (v := .int (nI ta9_34)) (C := RX7) (T := TX7) (N := 17) hx hb hts hwd1 hown hK hP 0 rfl rfl 9 (by decide) hwd2 (fun _ h9 => h9) rfl dX7_readsStep_195 ?_
                              refine lv_iconst (v := nI 1) hx hb dX7_readsStep_198 (by decide) ?_
                              refine lv_iadd hx hb dX7_readsStep_199 ?_
                              refine lv_topi (nm_r (nI_add _ _) ?_)
                              refine va_put (D := D) (ci := 7) (v := .int (nI (ta9_34 + 1))) (ty := .int) (C := RX7) (T := TX7) (N := 17) hx hb hts hwd1 tyX7 tyX7_ok nmX7 hown hK hP hD hS 0 rfl rfl 9 (by decide) hwd2 (fun _ h9 => h9) rfl (by decide +kernel) rfl rfl (Nat.le_of_ble_eq_true rfl) dX7_readsStep_200 (fun H43 locs hP hD hS => ?_)
                              have hP : va_P D vwCl [(mx, .inr (7, [.ref va, .ref vk, .ref vr, .int (nI rl), .ref vs, .int (nI ik), .int (nI th), .ref vt, .int (nI tl), .int (nI (ta9_34 + 1)), .int (nI ((p_at tx tl ta) - 65)), .int (nI (p_at tx tl ta9_34)), .int yo9_35, .int yo9_35, .int ye, .ref vc, .ref vb])), (vt, .inl (cY 0, 60, .inl (m_nf tx)))] H43 := hP
                              have hD : va_D A [(mx, .inr (7, [.ref va, .ref vk, .ref vr, .int (nI rl), .ref vs, .int (nI ik), .int (nI th), .ref vt, .int (nI tl), .int (nI (ta9_34 + 1)), .int (nI ((p_at tx tl ta) - 65)), .int (nI (p_at tx tl ta9_34)), .int yo9_35, .int yo9_35, .int ye, .ref vc, .ref vb])), (vt, .inl (cY 0, 60, .inl (m_nf tx)))] := hD
                              refine lv_aload_n hx hb dX7_readsStep_203 rfl (lv_at hl 0 rfl) ?_
                              refine m_callVi (As := []) (rest := []) C0 hl hP hD hS (c_X7_readsOperand l D cY mx va vk vr vs vt vc vb rl ik th tl (ta9_34 + 1) (nI ((p_at tx tl ta) - 65)) (nI (p_at tx tl ta9_34)) yo9_35 yo9_35 ye tx (by first | assumption | omega | exact nm_lt _ _ | exact np_lt _ _ | decide) (by first | assumption | omega | exact nm_lt _ _ | exact np_lt _ _ | decide) (by first | assumption | omega | exact nm_lt _ _ | exact np_lt _ _ | decide)) (cwV 0 hts gX7_readsStep_X7_readsOperand rfl rfl rfl (by decide +kernel) ⟨Nat.le_of_ble_eq_true rfl, Nat.le_of_ble_eq_true rfl⟩) dX7_readsStep_204 [0, 1] rfl rfl 0 rfl rfl rfl rfl (Nat.le_of_ble_eq_true rfl) (Nat.zero_le _) (Nat.zero_le _) (fun _ => rfl) (fun r47 u H44 locs hw hP hD hS => ?_)
                              obtain ⟨ta9_45, yo9_46⟩ := u
                              try dsimp only at hw
                              have hq48 := hw; clear hw
                              have hP : va_P D vwCl [(mx, .inr (7, [.ref va, .ref vk, .ref vr, .int (nI rl), .ref vs, .int (nI ik), .int (nI th), .ref vt, .int (nI tl), .int (nI ta9_45), .int (nI ((p_at tx tl ta) - 65)), .int (nI (p_at tx tl ta9_34)), .int yo9_46, .int yo9_35, .int ye, .ref vc, .ref vb])), (vt, .inl (cY 0, 60, .inl (m_nf tx)))] H44 := hP
                              have hD : va_D A [(mx, .inr (7, [.ref va, .ref vk, .ref vr, .int (nI rl), .ref vs, .int (nI ik), .int (nI th), .ref vt, .int (nI tl), .int (nI ta9_45), .int (nI ((p_at tx tl ta) - 65)), .int (nI (p_at tx tl ta9_34)), .int yo9_46, .int yo9_35, .int ye, .ref vc, .ref vb])), (vt, .inl (cY 0, 60, .inl (m_nf tx)))] := hD
                              rcases hq48 with ⟨rfl, hw1, hw2⟩ | ⟨vw, rfl, hw1, hrw, hvw, hlw⟩
                              · skip
                                rw [hw2] at hP hD
                                have hP : va_P D vwCl [(mx, .inr (7, [.ref va, .ref vk, .ref vr, .int (nI rl), .ref vs, .int (nI ik), .int (nI th), .ref vt, .int (nI tl), .int (nI (ta9_34 + 1)), .int (nI ((p_at tx tl ta) - 65)), .int (nI (p_at tx tl ta9_34)), .int yo9_46, .int yo9_35, .int ye, .ref vc, .ref vb])), (vt, .inl (cY 0, 60, .inl (m_nf tx)))] H44 := hP
                                have hD : va_D A [(mx, .inr (7, [.ref va, .ref vk, .ref vr, .int (nI rl), .ref vs, .int (nI ik), .int (nI th), .ref vt, .int (nI tl), .int (nI (ta9_34 + 1)), .int (nI ((p_at tx tl ta) - 65)), .int (nI (p_at tx tl ta9_34)), .int yo9_46, .int yo9_35, .int ye, .ref vc, .ref vb])), (vt, .inl (cY 0, 60, .inl (m_nf tx)))] := hD
                                refine lv_istore_n (lv' := [(1, .int (nI 0)), (0, .ref mx)]) hx hb dX7_readsStep_207 rfl hl (by decide) rfl (fun ls hl => ?_)
                                refine lv_aload_n hx hb dX7_readsStep_208 rfl (lv_at hl 1 rfl) ?_
                                refine lv_aload_n hx hb dX7_readsStep_209 rfl (lv_at hl 1 rfl) ?_
                                refine va_get (D := D) (ci := 7) (v := .int yo9_46) (C := RX7) (T := TX7) (N := 17) hx hb hts hwd1 hown hK hP 0 rfl rfl 12 (by decide) hwd5 (fun _ h9 => h9) rfl dX7_readsStep_210 ?_
                                refine va_put (D := D) (ci := 7) (v := .int yo9_46) (ty := .int) (C := RX7) (T := TX7) (N := 17) hx hb hts hwd1 tyX7 tyX7_ok nmX7 hown hK hP hD hS 0 rfl rfl 14 (by decide) hwd7 (fun _ h9 => h9) rfl (by decide +kernel) rfl rfl (Nat.le_of_ble_eq_true rfl) dX7_readsStep_213 (fun H49 locs hP hD hS => ?_)
                                have hP : va_P D vwCl [(mx, .inr (7, [.ref va, .ref vk, .ref vr, .int (nI rl), .ref vs, .int (nI ik), .int (nI th), .ref vt, .int (nI tl), .int (nI (ta9_34 + 1)), .int (nI ((p_at tx tl ta) - 65)), .int (nI (p_at tx tl ta9_34)), .int yo9_46, .int yo9_35, .int yo9_46, .ref vc, .ref vb])), (vt, .inl (cY 0, 60, .inl (m_nf tx)))] H49 := hP
                                have hD : va_D A [(mx, .inr (7, [.ref va, .ref vk, .ref vr, .int (nI rl), .ref vs, .int (nI ik), .int (nI th), .ref vt, .int (nI tl), .int (nI (ta9_34 + 1)), .int (nI ((p_at tx tl ta) - 65)), .int (nI (p_at tx tl ta9_34)), .int yo9_46, .int yo9_35, .int yo9_46, .ref vc, .ref vb])), (vt, .inl (cY 0, 60, .inl (m_nf tx)))] := hD
                                refine lv_iload_n hx hb dX7_readsStep_216 rfl (lv_at hl 0 rfl) ?_
                                have hrg : p_rg (p_at tx tl ta) = some (p_at tx tl ta - 65) := by rw [p_rg, if_pos ha]
                                have hone : ¬ (p_at tx tl (ta + 2) = 126 ∨ p_at tx tl (ta + 2) = 37) := by (have e2 : ta + 2 = ta + 1 + 1 := rfl); (rw [e2]); omega
                                have htwo : p_at tx tl ta9_34 = 43 ∨ p_at tx tl ta9_34 = 42 ∨ p_at tx tl ta9_34 = 47 ∨ p_at tx tl ta9_34 = 94 := by omega
                                subst hQ
                                exact m_zret C0 (by decide) hS dX7_readsStep_217 (u := ((ta9_34 + 1), nI ((p_at tx tl ta) - 65), nI (p_at tx tl ta9_34), yo9_46, yo9_35, yo9_46)) hP (Or.inl ⟨rfl, by simp only [p_step, p_tgt, hrg, if_pos hk1, p_rhs, if_neg hone, show p_opd tx tl (ta + 2) = some (vA, ta9_34) from ha1, if_pos htwo, hw1], p_at_in (tx := tx) (by omega)⟩)
                              · skip
                                have hltw := p_opd_lt hw1
                                refine lv_istore_n (lv' := [(1, .int (nI 1)), (0, .ref mx)]) hx hb dX7_readsStep_207 rfl hl (by decide) rfl (fun ls hl => ?_)
                                refine lv_aload_n hx hb dX7_readsStep_208 rfl (lv_at hl 1 rfl) ?_
                                refine lv_aload_n hx hb dX7_readsStep_209 rfl (lv_at hl 1 rfl) ?_
                                refine va_get (D := D) (ci := 7) (v := .int yo9_46) (C := RX7) (T := TX7) (N := 17) hx hb hts hwd1 hown hK hP 0 rfl rfl 12 (by decide) hwd5 (fun _ h9 => h9) rfl dX7_readsStep_210 ?_
                                refine va_put (D := D) (ci := 7) (v := .int yo9_46) (ty := .int) (C := RX7) (T := TX7) (N := 17) hx hb hts hwd1 tyX7 tyX7_ok nmX7 hown hK hP hD hS 0 rfl rfl 14 (by decide) hwd7 (fun _ h9 => h9) rfl (by decide +kernel) rfl rfl (Nat.le_of_ble_eq_true rfl) dX7_readsStep_213 (fun H50 locs hP hD hS => ?_)
                                have hP : va_P D vwCl [(mx, .inr (7, [.ref va, .ref vk, .ref vr, .int (nI rl), .ref vs, .int (nI ik), .int (nI th), .ref vt, .int (nI tl), .int (nI ta9_45), .int (nI ((p_at tx tl ta) - 65)), .int (nI (p_at tx tl ta9_34)), .int yo9_46, .int yo9_35, .int yo9_46, .ref vc, .ref vb])), (vt, .inl (cY 0, 60, .inl (m_nf tx)))] H50 := hP
                                have hD : va_D A [(mx, .inr (7, [.ref va, .ref vk, .ref vr, .int (nI rl), .ref vs, .int (nI ik), .int (nI th), .ref vt, .int (nI tl), .int (nI ta9_45), .int (nI ((p_at tx tl ta) - 65)), .int (nI (p_at tx tl ta9_34)), .int yo9_46, .int yo9_35, .int yo9_46, .ref vc, .ref vb])), (vt, .inl (cY 0, 60, .inl (m_nf tx)))] := hD
                                refine lv_iload_n hx hb dX7_readsStep_216 rfl (lv_at hl 0 rfl) ?_
                                have hrg : p_rg (p_at tx tl ta) = some (p_at tx tl ta - 65) := by rw [p_rg, if_pos ha]
                                have hone : ¬ (p_at tx tl (ta + 2) = 126 ∨ p_at tx tl (ta + 2) = 37) := by (have e2 : ta + 2 = ta + 1 + 1 := rfl); (rw [e2]); omega
                                have htwo : p_at tx tl ta9_34 = 43 ∨ p_at tx tl ta9_34 = 42 ∨ p_at tx tl ta9_34 = 47 ∨ p_at tx tl ta9_34 = 94 := by omega
                                subst hQ
                                exact m_zret C0 (by decide) hS dX7_readsStep_217 (u := (ta9_45, nI ((p_at tx tl ta) - 65), nI (p_at tx tl ta9_34), yo9_46, yo9_35, yo9_46)) hP (Or.inr ⟨_, _, vA, vw, rfl, by simp only [p_step, p_tgt, hrg, if_pos hk1, p_rhs, if_neg hone, show p_opd tx tl (ta + 2) = some (vA, ta9_34) from ha1, if_pos htwo, hw1], rfl, rfl, hra, ⟨by dsimp only; omega, p_at_lt htx, hva, hvw⟩, Or.inr ⟨htwo, hrw⟩⟩)
                            · exact absurd c142 (by decide)
                          · skip
                            refine lv_topi (nm_r (congrArg nI (if_neg h43)) ?_)
                            refine lv_if_ne (tgt := 180) hx hb dX7_readsStep_142 (by decide) (fun c142 => ?_) (fun c142 => ?_)
                            · exact absurd c142 (by decide)
                            · refine lv_aload_n hx hb dX7_readsStep_145 rfl (lv_at hl 0 rfl) ?_
                              refine lv_bipush (v := nI 42) hx hb dX7_readsStep_146 (by decide) ?_
                              refine lv_bipush (v := nI 42) hx hb dX7_readsStep_148 (by decide) ?_
                              refine m_callVi (As := [.int (nI 42), .int (nI 42)]) (rest := []) C0 hl hP hD hS (c_X7_isHere l D cY mx va vk vr vs vt vc vb rl ik th tl ta9_34 (nI ((p_at tx tl ta) - 65)) (nI 0) yo9_35 yo9_35 ye tx 42 42 (by first | assumption | omega | exact nm_lt _ _ | exact np_lt _ _ | decide) (by first | assumption | omega | exact nm_lt _ _ | exact np_lt _ _ | decide) (by first | assumption | omega | exact nm_lt _ _ | exact np_lt _ _ | decide) (by first | assumption | omega | exact nm_lt _ _ | exact np_lt _ _ | decide) (by first | assumption | omega | exact nm_lt _ _ | exact np_lt _ _ | decide) (by first | assumption | omega | exact nm_lt _ _ | exact np_lt _ _ | decide)) (cwV 2 hts gX7_readsStep_X7_isHere rfl rfl rfl (by decide +kernel) ⟨Nat.le_of_ble_eq_true rfl, Nat.le_of_ble_eq_true rfl⟩) dX7_readsStep_150 [0, 1] rfl rfl 0 rfl rfl rfl rfl (Nat.le_of_ble_eq_true rfl) (Nat.zero_le _) (Nat.zero_le _) (fun _ => rfl) (fun r52 u H51 locs hw hP hD hS => ?_)
                              try dsimp only at hw
                              obtain rfl := hw
                              have hP : va_P D vwCl [(mx, .inr (7, [.ref va, .ref vk, .ref vr, .int (nI rl), .ref vs, .int (nI ik), .int (nI th), .ref vt, .int (nI tl), .int (nI ta9_34), .int (nI ((p_at tx tl ta) - 65)), .int (nI 0), .int yo9_35, .int yo9_35, .int ye, .ref vc, .ref vb])), (vt, .inl (cY 0, 60, .inl (m_nf tx)))] H51 := hP
                              have hD : va_D A [(mx, .inr (7, [.ref va, .ref vk, .ref vr, .int (nI rl), .ref vs, .int (nI ik), .int (nI th), .ref vt, .int (nI tl), .int (nI ta9_34), .int (nI ((p_at tx tl ta) - 65)), .int (nI 0), .int yo9_35, .int yo9_35, .int ye, .ref vc, .ref vb])), (vt, .inl (cY 0, 60, .inl (m_nf tx)))] := hD
                              rcases Decidable.em (42 ≤ p_at tx tl ta9_34 ∧ p_at tx tl ta9_34 ≤ 42) with h42 | h42
                              · skip
                                refine lv_topi (nm_r (congrArg nI (if_pos h42)) ?_)
                                refine lv_if_ne (tgt := 180) hx hb dX7_readsStep_153 (by decide) (fun c153 => ?_) (fun c153 => ?_)
                                · have hinz53 := p_at_in (tx := tx) (len := tl) (k := ta9_34) (by omega)
                                  refine lv_aload_n hx hb dX7_readsStep_180 rfl (lv_at hl 0 rfl) ?_
                                  refine lv_aload_n hx hb dX7_readsStep_181 rfl (lv_at hl 0 rfl) ?_
                                  refine va_get (D := D) (ci := 7) (v := .ref vt) (C := RX7) (T := TX7) (N := 17) hx hb hts hwd1 hown hK hP 0 rfl rfl 7 (by decide) hwd0 (fun _ h9 => h9) rfl dX7_readsStep_182 ?_
                                  refine lv_aload_n hx hb dX7_readsStep_185 rfl (lv_at hl 0 rfl) ?_
                                  refine va_get (D := D) (ci := 7) (v := .int (nI ta9_34)) (C := RX7) (T := TX7) (N := 17) hx hb hts hwd1 hown hK hP 0 rfl rfl 9 (by decide) hwd2 (fun _ h9 => h9) rfl dX7_readsStep_186 ?_
                                  refine va_iald hx hb hK hP 1 0 rfl rfl (m_in (n := ta9_34) (by first | assumption | omega) (by decide)) dX7_readsStep_189 ?_
                                  refine lv_topi (nm_r (m_ldn (g := tx) (n := ta9_34) (by omega)) ?_)
                                  refine lv_topi (nm_r (congrArg nI (p_at_of (p_at_in (tx := tx) (len := tl) (k := ta9_34) (by omega))).symm) ?_)
                                  refine va_put (D := D) (ci := 7) (v := .int (nI (p_at tx tl ta9_34))) (ty := .int) (C := RX7) (T := TX7) (N := 17) hx hb hts hwd1 tyX7 tyX7_ok nmX7 hown hK hP hD hS 0 rfl rfl 11 (by decide) hwd4 (fun _ h9 => h9) rfl (by decide +kernel) rfl rfl (Nat.le_of_ble_eq_true rfl) dX7_readsStep_190 (fun H54 locs hP hD hS => ?_)
                                  have hP : va_P D vwCl [(mx, .inr (7, [.ref va, .ref vk, .ref vr, .int (nI rl), .ref vs, .int (nI ik), .int (nI th), .ref vt, .int (nI tl), .int (nI ta9_34), .int (nI ((p_at tx tl ta) - 65)), .int (nI (p_at tx tl ta9_34)), .int yo9_35, .int yo9_35, .int ye, .ref vc, .ref vb])), (vt, .inl (cY 0, 60, .inl (m_nf tx)))] H54 := hP
                                  have hD : va_D A [(mx, .inr (7, [.ref va, .ref vk, .ref vr, .int (nI rl), .ref vs, .int (nI ik), .int (nI th), .ref vt, .int (nI tl), .int (nI ta9_34), .int (nI ((p_at tx tl ta) - 65)), .int (nI (p_at tx tl ta9_34)), .int yo9_35, .int yo9_35, .int ye, .ref vc, .ref vb])), (vt, .inl (cY 0, 60, .inl (m_nf tx)))] := hD
                                  refine lv_aload_n hx hb dX7_readsStep_193 rfl (lv_at hl 0 rfl) ?_
                                  refine lv_dup hx hb dX7_readsStep_194 rfl ?_
                                  refine va_get (D := D) (ci := 7) (v := .int (nI ta9_34)) (C := RX7) (T := TX7) (N := 17) hx hb hts hwd1 hown hK hP 0 rfl rfl 9 (by decide) hwd2 (fun _ h9 => h9) rfl dX7_readsStep_195 ?_
                                  refine lv_iconst (v := nI 1) hx hb dX7_readsStep_198 (by decide) ?_
                                  refine lv_iadd hx hb dX7_readsStep_199 ?_
                                  refine lv_topi (nm_r (nI_add _ _) ?_)
                                  refine va_put (D := D) (ci := 7) (v := .int (nI (ta9_34 + 1))) (ty := .int) (C := RX7) (T := TX7) (N := 17) hx hb hts hwd1 tyX7 tyX7_ok nmX7 hown hK hP hD hS 0 rfl rfl 9 (by decide) hwd2 (fun _ h9 => h9) rfl (by decide +kernel) rfl rfl (Nat.le_of_ble_eq_true rfl) dX7_readsStep_200 (fun H55 locs hP hD hS => ?_)
                                  have hP : va_P D vwCl [(mx, .inr (7, [.ref va, .ref vk, .ref vr, .int (nI rl), .ref vs, .int (nI ik), .int (nI th), .ref vt, .int (nI tl), .int (nI (ta9_34 + 1)), .int (nI ((p_at tx tl ta) - 65)), .int (nI (p_at tx tl ta9_34)), .int yo9_35, .int yo9_35, .int ye, .ref vc, .ref vb])), (vt, .inl (cY 0, 60, .inl (m_nf tx)))] H55 := hP
                                  have hD : va_D A [(mx, .inr (7, [.ref va, .ref vk, .ref vr, .int (nI rl), .ref vs, .int (nI ik), .int (nI th), .ref vt, .int (nI tl), .int (nI (ta9_34 + 1)), .int (nI ((p_at tx tl ta) - 65)), .int (nI (p_at tx tl ta9_34)), .int yo9_35, .int yo9_35, .int ye, .ref vc, .ref vb])), (vt, .inl (cY 0, 60, .inl (m_nf tx)))] := hD
                                  refine lv_aload_n hx hb dX7_readsStep_203 rfl (lv_at hl 0 rfl) ?_
                                  refine m_callVi (As := []) (rest := []) C0 hl hP hD hS (c_X7_readsOperand l D cY mx va vk vr vs vt vc vb rl ik th tl (ta9_34 + 1) (nI ((p_at tx tl ta) - 65)) (nI (p_at tx tl ta9_34)) yo9_35 yo9_35 ye tx (by first | assumption | omega | exact nm_lt _ _ | exact np_lt _ _ | decide) (by first | assumption | omega | exact nm_lt _ _ | exact np_lt _ _ | decide) (by first | assumption | omega | exact nm_lt _ _ | exact np_lt _ _ | decide)) (cwV 0 hts gX7_readsStep_X7_readsOperand rfl rfl rfl (by decide +kernel) ⟨Nat.le_of_ble_eq_true rfl, Nat.le_of_ble_eq_true rfl⟩) dX7_readsStep_204 [0, 1] rfl rfl 0 rfl rfl rfl rfl (Nat.le_of_ble_eq_true rfl) (Nat.zero_le _) (Nat.zero_le _) (fun _ => rfl) (fun r59 u H56 locs hw hP hD hS => ?_)
                                  obtain ⟨ta9_57, yo9_58⟩ := u
                                  try dsimp only at hw
                                  have hq60 := hw; clear hw
                                  have hP : va_P D vwCl [(mx, .inr (7, [.ref va, .ref vk, .ref vr, .int (nI rl), .ref vs, .int (nI ik), .int (nI th), .ref vt, .int (nI tl), .int (nI ta9_57), .int (nI ((p_at tx tl ta) - 65)), .int (nI (p_at tx tl ta9_34)), .int yo9_58, .int yo9_35, .int ye, .ref vc, .ref vb])), (vt, .inl (cY 0, 60, .inl (m_nf tx)))] H56 := hP
                                  have hD : va_D A [(mx, .inr (7, [.ref va, .ref vk, .ref vr, .int (nI rl), .ref vs, .int (nI ik), .int (nI th), .ref vt, .int (nI tl), .int (nI ta9_57), .int (nI ((p_at tx tl ta) - 65)), .int (nI (p_at tx tl ta9_34)), .int yo9_58, .int yo9_35, .int ye, .ref vc, .ref vb])), (vt, .inl (cY 0, 60, .inl (m_nf tx)))] := hD
                                  rcases hq60 with ⟨rfl, hw1, hw2⟩ | ⟨vw, rfl, hw1, hrw, hvw, hlw⟩
                                  · skip
                                    rw [hw2] at hP hD
                                    have hP : va_P D vwCl [(mx, .inr (7, [.ref va, .ref vk, .ref vr, .int (nI rl), .ref vs, .int (nI ik), .int (nI th), .ref vt, .int (nI tl), .int (nI (ta9_34 + 1)), .int (nI ((p_at tx tl ta) - 65)), .int (nI (p_at tx tl ta9_34)), .int yo9_58, .int yo9_35, .int ye, .ref vc, .ref vb])), (vt, .inl (cY 0, 60, .inl (m_nf tx)))] H56 := hP
                                    have hD : va_D A [(mx, .inr (7, [.ref va, .ref vk, .ref vr, .int (nI rl), .ref vs, .int (nI ik), .int (nI th), .ref vt, .int (nI tl), .int (nI (ta9_34 + 1)), .int (nI ((p_at tx tl ta) - 65)), .int (nI (p_at tx tl ta9_34)), .int yo9_58, .int yo9_35, .int ye, .ref vc, .ref vb])), (vt, .inl (cY 0, 60, .inl (m_nf tx)))] := hD
                                    refine lv_istore_n (lv' := [(1, .int (nI 0)), (0, .ref mx)]) hx hb dX7_readsStep_207 rfl hl (by decide) rfl (fun ls hl => ?_)
                                    refine lv_aload_n hx hb dX7_readsStep_208 rfl (lv_at hl 1 rfl) ?_
                                    refine lv_aload_n hx hb dX7_readsStep_209 rfl (lv_at hl 1 rfl) ?_
                                    refine va_get (D := D) (ci := 7) (v := .int yo9_58) (C := RX7) (T := TX7) (N := 17) hx hb hts hwd1 hown hK hP 0 rfl rfl 12 (by decide) hwd5 (fun _ h9 => h9) rfl dX7_readsStep_210 ?_
                                    refine va_put (D := D) (ci := 7) (v := .int yo9_58) (ty := .int) (C := RX7) (T := TX7) (N := 17) hx hb hts hwd1 tyX7 tyX7_ok nmX7 hown hK hP hD hS 0 rfl rfl 14 (by decide) hwd7 (fun _ h9 => h9) rfl (by decide +kernel) rfl rfl (Nat.le_of_ble_eq_true rfl) dX7_readsStep_213 (fun H61 locs hP hD hS => ?_)
                                    have hP : va_P D vwCl [(mx, .inr (7, [.ref va, .ref vk, .ref vr, .int (nI rl), .ref vs, .int (nI ik), .int (nI th), .ref vt, .int (nI tl), .int (nI (ta9_34 + 1)), .int (nI ((p_at tx tl ta) - 65)), .int (nI (p_at tx tl ta9_34)), .int yo9_58, .int yo9_35, .int yo9_58, .ref vc, .ref vb])), (vt, .inl (cY 0, 60, .inl (m_nf tx)))] H61 := hP
                                    have hD : va_D A [(mx, .inr (7, [.ref va, .ref vk, .ref vr, .int (nI rl), .ref vs, .int (nI ik), .int (nI th), .ref vt, .int (nI tl), .int (nI (ta9_34 + 1)), .int (nI ((p_at tx tl ta) - 65)), .int (nI (p_at tx tl ta9_34)), .int yo9_58, .int yo9_35, .int yo9_58, .ref vc, .ref vb])), (vt, .inl (cY 0, 60, .inl (m_nf tx)))] := hD
                                    refine lv_iload_n hx hb dX7_readsStep_216 rfl (lv_at hl 0 rfl) ?_
                                    have hrg : p_rg (p_at tx tl ta) = some (p_at tx tl ta - 65) := by rw [p_rg, if_pos ha]
                                    have hone : ¬ (p_at tx tl (ta + 2) = 126 ∨ p_at tx tl (ta + 2) = 37) := by (have e2 : ta + 2 = ta + 1 + 1 := rfl); (rw [e2]); omega
                                    have htwo : p_at tx tl ta9_34 = 43 ∨ p_at tx tl ta9_34 = 42 ∨ p_at tx tl ta9_34 = 47 ∨ p_at tx tl ta9_34 = 94 := by omega
                                    subst hQ
                                    exact m_zret C0 (by decide) hS dX7_readsStep_217 (u := ((ta9_34 + 1), nI ((p_at tx tl ta) - 65), nI (p_at tx tl ta9_34), yo9_58, yo9_35, yo9_58)) hP (Or.inl ⟨rfl, by simp only [p_step, p_tgt, hrg, if_pos hk1, p_rhs, if_neg hone, show p_opd tx tl (ta + 2) = some (vA, ta9_34) from ha1, if_pos htwo, hw1], p_at_in (tx := tx) (by omega)⟩)
                                  · skip
                                    have hltw := p_opd_lt hw1
                                    refine lv_istore_n (lv' := [(1, .int (nI 1)), (0, .ref mx)]) hx hb dX7_readsStep_207 rfl hl (by decide) rfl (fun ls hl => ?_)
                                    refine lv_aload_n hx hb dX7_readsStep_208 rfl (lv_at hl 1 rfl) ?_
                                    refine lv_aload_n hx hb dX7_readsStep_209 rfl (lv_at hl 1 rfl) ?_
                                    refine va_get (D := D) (ci := 7) (v := .int yo9_58) (C := RX7) (T := TX7) (N := 17) hx hb hts hwd1 hown hK hP 0 rfl rfl 12 (by decide) hwd5 (fun _ h9 => h9) rfl dX7_readsStep_210 ?_
                                    refine va_put (D := D) (ci := 7) (v := .int yo9_58) (ty := .int) (C := RX7) (T := TX7) (N := 17) hx hb hts hwd1 tyX7 tyX7_ok nmX7 hown hK hP hD hS 0 rfl rfl 14 (by decide) hwd7 (fun _ h9 => h9) rfl (by decide +kernel) rfl rfl (Nat.le_of_ble_eq_true rfl) dX7_readsStep_213 (fun H62 locs hP hD hS => ?_)
                                    have hP : va_P D vwCl [(mx, .inr (7, [.ref va, .ref vk, .ref vr, .int (nI rl), .ref vs, .int (nI ik), .int (nI th), .ref vt, .int (nI tl), .int (nI ta9_57), .int (nI ((p_at tx tl ta) - 65)), .int (nI (p_at tx tl ta9_34)), .int yo9_58, .int yo9_35, .int yo9_58, .ref vc, .ref vb])), (vt, .inl (cY 0, 60, .inl (m_nf tx)))] H62 := hP
                                    have hD : va_D A [(mx, .inr (7, [.ref va, .ref vk, .ref vr, .int (nI rl), .ref vs, .int (nI ik), .int (nI th), .ref vt, .int (nI tl), .int (nI ta9_57), .int (nI ((p_at tx tl ta) - 65)), .int (nI (p_at tx tl ta9_34)), .int yo9_58, .int yo9_35, .int yo9_58, .ref vc, .ref vb])), (vt, .inl (cY 0, 60, .inl (m_nf tx)))] := hD
                                    refine lv_iload_n hx hb dX7_readsStep_216 rfl (lv_at hl 0 rfl) ?_
                                    have hrg : p_rg (p_at tx tl ta) = some (p_at tx tl ta - 65) := by rw [p_rg, if_pos ha]
                                    have hone : ¬ (p_at tx tl (ta + 2) = 126 ∨ p_at tx tl (ta + 2) = 37) := by (have e2 : ta + 2 = ta + 1 + 1 := rfl); (rw [e2]); omega
                                    have htwo : p_at tx tl ta9_34 = 43 ∨ p_at tx tl ta9_34 = 42 ∨ p_at tx tl ta9_34 = 47 ∨ p_at tx tl ta9_34 = 94 := by omega
                                    subst hQ
                                    exact m_zret C0 (by decide) hS dX7_readsStep_217 (u := (ta9_57, nI ((p_at tx tl ta) - 65), nI (p_at tx tl ta9_34), yo9_58, yo9_35, yo9_58)) hP (Or.inr ⟨_, _, vA, vw, rfl, by simp only [p_step, p_tgt, hrg, if_pos hk1, p_rhs, if_neg hone, show p_opd tx tl (ta + 2) = some (vA, ta9_34) from ha1, if_pos htwo, hw1], rfl, rfl, hra, ⟨by dsimp only; omega, p_at_lt htx, hva, hvw⟩, Or.inr ⟨htwo, hrw⟩⟩)
                                · exact absurd c153 (by decide)
                              · skip
                                refine lv_topi (nm_r (congrArg nI (if_neg h42)) ?_)
                                refine lv_if_ne (tgt := 180) hx hb dX7_readsStep_153 (by decide) (fun c153 => ?_) (fun c153 => ?_)
                                · exact absurd c153 (by decide)
                                · refine lv_aload_n hx hb dX7_readsStep_156 rfl (lv_at hl 0 rfl) ?_
                                  refine lv_bipush (v := nI 47) hx hb dX7_readsStep_157 (by decide) ?_
                                  refine lv_bipush (v := nI 47) hx hb dX7_readsStep_159 (by decide) ?_
                                  refine m_callVi (As := [.int (nI 47), .int (nI 47)]) (rest := []) C0 hl hP hD hS (c_X7_isHere l D cY mx va vk vr vs vt vc vb rl ik th tl ta9_34 (nI ((p_at tx tl ta) - 65)) (nI 0) yo9_35 yo9_35 ye tx 47 47 (by first | assumption | omega | exact nm_lt _ _ | exact np_lt _ _ | decide) (by first | assumption | omega | exact nm_lt _ _ | exact np_lt _ _ | decide) (by first | assumption | omega | exact nm_lt _ _ | exact np_lt _ _ | decide) (by first | assumption | omega | exact nm_lt _ _ | exact np_lt _ _ | decide) (by first | assumption | omega | exact nm_lt _ _ | exact np_lt _ _ | decide) (by first | assumption | omega | exact nm_lt _ _ | exact np_lt _ _ | decide)) (cwV 2 hts gX7_readsStep_X7_isHere rfl rfl rfl (by decide +kernel) ⟨Nat.le_of_ble_eq_true rfl, Nat.le_of_ble_eq_true rfl⟩) dX7_readsStep_161 [0, 1] rfl rfl 0 rfl rfl rfl rfl (Nat.le_of_ble_eq_true rfl) (Nat.zero_le _) (Nat.zero_le _) (fun _ => rfl) (fun r64 u H63 locs hw hP hD hS => ?_)
                                  try dsimp only at hw
                                  obtain rfl := hw
                                  have hP : va_P D vwCl [(mx, .inr (7, [.ref va, .ref vk, .ref vr, .int (nI rl), .ref vs, .int (nI ik), .int (nI th), .ref vt, .int (nI tl), .int (nI ta9_34), .int (nI ((p_at tx tl ta) - 65)), .int (nI 0), .int yo9_35, .int yo9_35, .int ye, .ref vc, .ref vb])), (vt, .inl (cY 0, 60, .inl (m_nf tx)))] H63 := hP
                                  have hD : va_D A [(mx, .inr (7, [.ref va, .ref vk, .ref vr, .int (nI rl), .ref vs, .int (nI ik), .int (nI th), .ref vt, .int (nI tl), .int (nI ta9_34), .int (nI ((p_at tx tl ta) - 65)), .int (nI 0), .int yo9_35, .int yo9_35, .int ye, .ref vc, .ref vb])), (vt, .inl (cY 0, 60, .inl (m_nf tx)))] := hD
                                  rcases Decidable.em (47 ≤ p_at tx tl ta9_34 ∧ p_at tx tl ta9_34 ≤ 47) with h47 | h47
                                  · skip
                                    refine lv_topi (nm_r (congrArg nI (if_pos h47)) ?_)
                                    refine lv_if_ne (tgt := 180) hx hb dX7_readsStep_164 (by decide) (fun c164 => ?_) (fun c164 => ?_)
                                    · have hinz65 := p_at_in (tx := tx) (len := tl) (k := ta9_34) (by omega)
                                      refine lv_aload_n hx hb dX7_readsStep_180 rfl (lv_at hl 0 rfl) ?_
                                      refine lv_aload_n hx hb dX7_readsStep_181 rfl (lv_at hl 0 rfl) ?_
                                      refine va_get (D := D) (ci := 7) (v := .ref vt) (C := RX7) (T := TX7) (N := 17) hx hb hts hwd1 hown hK hP 0 rfl rfl 7 (by decide) hwd0 (fun _ h9 => h9) rfl dX7_readsStep_182 ?_
                                      refine lv_aload_n hx hb dX7_readsStep_185 rfl (lv_at hl 0 rfl) ?_
                                      refine va_get (D := D) (ci := 7) (v := .int (nI ta9_34)) (C := RX7) (T := TX7) (N := 17) hx hb hts hwd1 hown hK hP 0 rfl rfl 9 (by decide) hwd2 (fun _ h9 => h9) rfl dX7_readsStep_186 ?_
                                      refine va_iald hx hb hK hP 1 0 rfl rfl (m_in (n := ta9_34) (by first | assumption | omega) (by decide)) dX7_readsStep_189 ?_
                                      refine lv_topi (nm_r (m_ldn (g := tx) (n := ta9_34) (by omega)) ?_)
                                      refine lv_topi (nm_r (congrArg nI (p_at_of (p_at_in (tx := tx) (len := tl) (k := ta9_34) (by omega))).symm) ?_)
                                      refine va_put (D := D) (ci := 7) (v := .int (nI (p_at tx tl ta9_34))) (ty := .int) (C := RX7) (T := TX7) (N := 17) hx hb hts hwd1 tyX7 tyX7_ok nmX7 hown hK hP hD hS 0 rfl rfl 11 (by decide) hwd4 (fun _ h9 => h9) rfl (by decide +kernel) rfl rfl (Nat.le_of_ble_eq_true rfl) dX7_readsStep_190 (fun H66 locs hP hD hS => ?_)
                                      have hP : va_P D vwCl [(mx, .inr (7, [.ref va, .ref vk, .ref vr, .int (nI rl), .ref vs, .int (nI ik), .int (nI th), .ref vt, .int (nI tl), .int (nI ta9_34), .int (nI ((p_at tx tl ta) - 65)), .int (nI (p_at tx tl ta9_34)), .int yo9_35, .int yo9_35, .int ye, .ref vc, .ref vb])), (vt, .inl (cY 0, 60, .inl (m_nf tx)))] H66 := hP
                                      have hD : va_D A [(mx, .inr (7, [.ref va, .ref vk, .ref vr, .int (nI rl), .ref vs, .int (nI ik), .int (nI th), .ref vt, .int (nI tl), .int (nI ta9_34), .int (nI ((p_at tx tl ta) - 65)), .int (nI (p_at tx tl ta9_34)), .int yo9_35, .int yo9_35, .int ye, .ref vc, .ref vb])), (vt, .inl (cY 0, 60, .inl (m_nf tx)))] := hD
                                      refine lv_aload_n hx hb dX7_readsStep_193 rfl (lv_at hl 0 rfl) ?_
                                      refine lv_dup hx hb dX7_readsStep_194 rfl ?_
                                      refine va_get (D := D) (ci := 7) (v := .int (nI ta9_34)) (C := RX7) (T := TX7) (N := 17) hx hb hts hwd1 hown hK hP 0 rfl rfl 9 (by decide) hwd2 (fun _ h9 => h9) rfl dX7_readsStep_195 ?_
                                      refine lv_iconst (v := nI 1) hx hb dX7_readsStep_198 (by decide) ?_
                                      refine lv_iadd hx hb dX7_readsStep_199 ?_
                                      refine lv_topi (nm_r (nI_add _ _) ?_)
                                      refine va_put (D := D) (ci := 7) (v := .int (nI (ta9_34 + 1))) (ty := .int) (C := RX7) (T := TX7) (N := 17) hx hb hts hwd1 tyX7 tyX7_ok nmX7 hown hK hP hD hS 0 rfl rfl 9 (by decide) hwd2 (fun _ h9 => h9) rfl (by decide +kernel) rfl rfl (Nat.le_of_ble_eq_true rfl) dX7_readsStep_200 (fun H67 locs hP hD hS => ?_)
                                      have hP : va_P D vwCl [(mx, .inr (7, [.ref va, .ref vk, .ref vr, .int (nI rl), .ref vs, .int (nI ik), .int (nI th), .ref vt, .int (nI tl), .int (nI (ta9_34 + 1)), .int (nI ((p_at tx tl ta) - 65)), .int (nI (p_at tx tl ta9_34)), .int yo9_35, .int yo9_35, .int ye, .ref vc, .ref vb])), (vt, .inl (cY 0, 60, .inl (m_nf tx)))] H67 := hP
                                      have hD : va_D A [(mx, .inr (7, [.ref va, .ref vk, .ref vr, .int (nI rl), .ref vs, .int (nI ik), .int (nI th), .ref vt, .int (nI tl), .int (nI (ta9_34 + 1)), .int (nI ((p_at tx tl ta) - 65)), .int (nI (p_at tx tl ta9_34)), .int yo9_35, .int yo9_35, .int ye, .ref vc, .ref vb])), (vt, .inl (cY 0, 60, .inl (m_nf tx)))] := hD
                                      refine lv_aload_n hx hb dX7_readsStep_203 rfl (lv_at hl 0 rfl) ?_
                                      refine m_callVi (As := []) (rest := []) C0 hl hP hD hS (c_X7_readsOperand l D cY mx va vk vr vs vt vc vb rl ik th tl (ta9_34 + 1) (nI ((p_at tx tl ta) - 65)) (nI (p_at tx tl ta9_34)) yo9_35 yo9_35 ye tx (by first | assumption | omega | exact nm_lt _ _ | exact np_lt _ _ | decide) (by first | assumption | omega | exact nm_lt _ _ | exact np_lt _ _ | decide) (by first | assumption | omega | exact nm_lt _ _ | exact np_lt _ _ | decide)) (cwV 0 hts gX7_readsStep_X7_readsOperand rfl rfl rfl (by decide +kernel) ⟨Nat.le_of_ble_eq_true rfl, Nat.le_of_ble_eq_true rfl⟩) dX7_readsStep_204 [0, 1] rfl rfl 0 rfl rfl rfl rfl (Nat.le_of_ble_eq_true rfl) (Nat.zero_le _) (Nat.zero_le _) (fun _ => rfl) (fun r71 u H68 locs hw hP hD hS => ?_)
                                      obtain ⟨ta9_69, yo9_70⟩ := u
                                      try dsimp only at hw
                                      have hq72 := hw; clear hw
                                      have hP : va_P D vwCl [(mx, .inr (7, [.ref va, .ref vk, .ref vr, .int (nI rl), .ref vs, .int (nI ik), .int (nI th), .ref vt, .int (nI tl), .int (nI ta9_69), .int (nI ((p_at tx tl ta) - 65)), .int (nI (p_at tx tl ta9_34)), .int yo9_70, .int yo9_35, .int ye, .ref vc, .ref vb])), (vt, .inl (cY 0, 60, .inl (m_nf tx)))] H68 := hP
                                      have hD : va_D A [(mx, .inr (7, [.ref va, .ref vk, .ref vr, .int (nI rl), .ref vs, .int (nI ik), .int (nI th), .ref vt, .int (nI tl), .int (nI ta9_69), .int (nI ((p_at tx tl ta) - 65)), .int (nI (p_at tx tl ta9_34)), .int yo9_70, .int yo9_35, .int ye, .ref vc, .ref vb])), (vt, .inl (cY 0, 60, .inl (m_nf tx)))] := hD
                                      rcases hq72 with ⟨rfl, hw1, hw2⟩ | ⟨vw, rfl, hw1, hrw, hvw, hlw⟩
                                      · skip
                                        rw [hw2] at hP hD
                                        have hP : va_P D vwCl [(mx, .inr (7, [.ref va, .ref vk, .ref vr, .int (nI rl), .ref vs, .int (nI ik), .int (nI th), .ref vt, .int (nI tl), .int (nI (ta9_34 + 1)), .int (nI ((p_at tx tl ta) - 65)), .int (nI (p_at tx tl ta9_34)), .int yo9_70, .int yo9_35, .int ye, .ref vc, .ref vb])), (vt, .inl (cY 0, 60, .inl (m_nf tx)))] H68 := hP
                                        have hD : va_D A [(mx, .inr (7, [.ref va, .ref vk, .ref vr, .int (nI rl), .ref vs, .int (nI ik), .int (nI th), .ref vt, .int (nI tl), .int (nI (ta9_34 + 1)), .int (nI ((p_at tx tl ta) - 65)), .int (nI (p_at tx tl ta9_34)), .int yo9_70, .int yo9_35, .int ye, .ref vc, .ref vb])), (vt, .inl (cY 0, 60, .inl (m_nf tx)))] := hD
                                        refine lv_istore_n (lv' := [(1, .int (nI 0)), (0, .ref mx)]) hx hb dX7_readsStep_207 rfl hl (by decide) rfl (fun ls hl => ?_)
                                        refine lv_aload_n hx hb dX7_readsStep_208 rfl (lv_at hl 1 rfl) ?_
                                        refine lv_aload_n hx hb dX7_readsStep_209 rfl (lv_at hl 1 rfl) ?_
                                        refine va_get (D := D) (ci := 7) (v := .int yo9_70) (C := RX7) (T := TX7) (N := 17) hx hb hts hwd1 hown hK hP 0 rfl rfl 12 (by decide) hwd5 (fun _ h9 => h9) rfl dX7_readsStep_210 ?_
                                        refine va_put (D := D) (ci := 7) (v := .int yo9_70) (ty := .int) (C := RX7) (T := TX7) (N := 17) hx hb hts hwd1 tyX7 tyX7_ok nmX7 hown hK hP hD hS 0 rfl rfl 14 (by decide) hwd7 (fun _ h9 => h9) rfl (by decide +kernel) rfl rfl (Nat.le_of_ble_eq_true rfl) dX7_readsStep_213 (fun H73 locs hP hD hS => ?_)
                                        have hP : va_P D vwCl [(mx, .inr (7, [.ref va, .ref vk, .ref vr, .int (nI rl), .ref vs, .int (nI ik), .int (nI th), .ref vt, .int (nI tl), .int (nI (ta9_34 + 1)), .int (nI ((p_at tx tl ta) - 65)), .int (nI (p_at tx tl ta9_34)), .int yo9_70, .int yo9_35, .int yo9_70, .ref vc, .ref vb])), (vt, .inl (cY 0, 60, .inl (m_nf tx)))] H73 := hP
                                        have hD : va_D A [(mx, .inr (7, [.ref va, .ref vk, .ref vr, .int (nI rl), .ref vs, .int (nI ik), .int (nI th), .ref vt, .int (nI tl), .int (nI (ta9_34 + 1)), .int (nI ((p_at tx tl ta) - 65)), .int (nI (p_at tx tl ta9_34)), .int yo9_70, .int yo9_35, .int yo9_70, .ref vc, .ref vb])), (vt, .inl (cY 0, 60, .inl (m_nf tx)))] := hD
                                        refine lv_iload_n hx hb dX7_readsStep_216 rfl (lv_at hl 0 rfl) ?_
                                        have hrg : p_rg (p_at tx tl ta) = some (p_at tx tl ta - 65) := by rw [p_rg, if_pos ha]
                                        have hone : ¬ (p_at tx tl (ta + 2) = 126 ∨ p_at tx tl (ta + 2) = 37) := by (have e2 : ta + 2 = ta + 1 + 1 := rfl); (rw [e2]); omega
                                        have htwo : p_at tx tl ta9_34 = 43 ∨ p_at tx tl ta9_34 = 42 ∨ p_at tx tl ta9_34 = 47 ∨ p_at tx tl ta9_34 = 94 := by omega
                                        subst hQ
                                        exact m_zret C0 (by decide) hS dX7_readsStep_217 (u := ((ta9_34 + 1), nI ((p_at tx tl ta) - 65), nI (p_at tx tl ta9_34), yo9_70, yo9_35, yo9_70)) hP (Or.inl ⟨rfl, by simp only [p_step, p_tgt, hrg, if_pos hk1, p_rhs, if_neg hone, show p_opd tx tl (ta + 2) = some (vA, ta9_34) from ha1, if_pos htwo, hw1], p_at_in (tx := tx) (by omega)⟩)
                                      · skip
                                        have hltw := p_opd_lt hw1
                                        refine lv_istore_n (lv' := [(1, .int (nI 1)), (0, .ref mx)]) hx hb dX7_readsStep_207 rfl hl (by decide) rfl (fun ls hl => ?_)
                                        refine lv_aload_n hx hb dX7_readsStep_208 rfl (lv_at hl 1 rfl) ?_
                                        refine lv_aload_n hx hb dX7_readsStep_209 rfl (lv_at hl 1 rfl) ?_
                                        refine va_get (D := D) (ci := 7) (v := .int yo9_70) (C := RX7) (T := TX7) (N := 17) hx hb hts hwd1 hown hK hP 0 rfl rfl 12 (by decide) hwd5 (fun _ h9 => h9) rfl dX7_readsStep_210 ?_
                                        refine va_put (D := D) (ci := 7) (v := .int yo9_70) (ty := .int) (C := RX7) (T := TX7) (N := 17) hx hb hts hwd1 tyX7 tyX7_ok nmX7 hown hK hP hD hS 0 rfl rfl 14 (by decide) hwd7 (fun _ h9 => h9) rfl (by decide +kernel) rfl rfl (Nat.le_of_ble_eq_true rfl) dX7_readsStep_213 (fun H74 locs hP hD hS => ?_)
                                        have hP : va_P D vwCl [(mx, .inr (7, [.ref va, .ref vk, .ref vr, .int (nI rl), .ref vs, .int (nI ik), .int (nI th), .ref vt, .int (nI tl), .int (nI ta9_69), .int (nI ((p_at tx tl ta) - 65)), .int (nI (p_at tx tl ta9_34)), .int yo9_70, .int yo9_35, .int yo9_70, .ref vc, .ref vb])), (vt, .inl (cY 0, 60, .inl (m_nf tx)))] H74 := hP
                                        have hD : va_D A [(mx, .inr (7, [.ref va, .ref vk, .ref vr, .int (nI rl), .ref vs, .int (nI ik), .int (nI th), .ref vt, .int (nI tl), .int (nI ta9_69), .int (nI ((p_at tx tl ta) - 65)), .int (nI (p_at tx tl ta9_34)), .int yo9_70, .int yo9_35, .int yo9_70, .ref vc, .ref vb])), (vt, .inl (cY 0, 60, .inl (m_nf tx)))] := hD
                                        refine lv_iload_n hx hb dX7_readsStep_216 rfl (lv_at hl 0 rfl) ?_
                                        have hrg : p_rg (p_at tx tl ta) = some (p_at tx tl ta - 65) := by rw [p_rg, if_pos ha]
                                        have hone : ¬ (p_at tx tl (ta + 2) = 126 ∨ p_at tx tl (ta + 2) = 37) := by (have e2 : ta + 2 = ta + 1 + 1 := rfl); (rw [e2]); omega
                                        have htwo : p_at tx tl ta9_34 = 43 ∨ p_at tx tl ta9_34 = 42 ∨ p_at tx tl ta9_34 = 47 ∨ p_at tx tl ta9_34 = 94 := by omega
                                        subst hQ
                                        exact m_zret C0 (by decide) hS dX7_readsStep_217 (u := (ta9_69, nI ((p_at tx tl ta) - 65), nI (p_at tx tl ta9_34), yo9_70, yo9_35, yo9_70)) hP (Or.inr ⟨_, _, vA, vw, rfl, by simp only [p_step, p_tgt, hrg, if_pos hk1, p_rhs, if_neg hone, show p_opd tx tl (ta + 2) = some (vA, ta9_34) from ha1, if_pos htwo, hw1], rfl, rfl, hra, ⟨by dsimp only; omega, p_at_lt htx, hva, hvw⟩, Or.inr ⟨htwo, hrw⟩⟩)
                                    · exact absurd c164 (by decide)
                                  · skip
                                    refine lv_topi (nm_r (congrArg nI (if_neg h47)) ?_)
                                    refine lv_if_ne (tgt := 180) hx hb dX7_readsStep_164 (by decide) (fun c164 => ?_) (fun c164 => ?_)
                                    · exact absurd c164 (by decide)
                                    · refine lv_aload_n hx hb dX7_readsStep_167 rfl (lv_at hl 0 rfl) ?_
                                      refine lv_bipush (v := nI 94) hx hb dX7_readsStep_168 (by decide) ?_
                                      refine lv_bipush (v := nI 94) hx hb dX7_readsStep_170 (by decide) ?_
                                      refine m_callVi (As := [.int (nI 94), .int (nI 94)]) (rest := []) C0 hl hP hD hS (c_X7_isHere l D cY mx va vk vr vs vt vc vb rl ik th tl ta9_34 (nI ((p_at tx tl ta) - 65)) (nI 0) yo9_35 yo9_35 ye tx 94 94 (by first | assumption | omega | exact nm_lt _ _ | exact np_lt _ _ | decide) (by first | assumption | omega | exact nm_lt _ _ | exact np_lt _ _ | decide) (by first | assumption | omega | exact nm_lt _ _ | exact np_lt _ _ | decide) (by first | assumption | omega | exact nm_lt _ _ | exact np_lt _ _ | decide) (by first | assumption | omega | exact nm_lt _ _ | exact np_lt _ _ | decide) (by first | assumption | omega | exact nm_lt _ _ | exact np_lt _ _ | decide)) (cwV 2 hts gX7_readsStep_X7_isHere rfl rfl rfl (by decide +kernel) ⟨Nat.le_of_ble_eq_true rfl, Nat.le_of_ble_eq_true rfl⟩) dX7_readsStep_172 [0, 1] rfl rfl 0 rfl rfl rfl rfl (Nat.le_of_ble_eq_true rfl) (Nat.zero_le _) (Nat.zero_le _) (fun _ => rfl) (fun r76 u H75 locs hw hP hD hS => ?_)
                                      try dsimp only at hw
                                      obtain rfl := hw
                                      have hP : va_P D vwCl [(mx, .inr (7, [.ref va, .ref vk, .ref vr, .int (nI rl), .ref vs, .int (nI ik), .int (nI th), .ref vt, .int (nI tl), .int (nI ta9_34), .int (nI ((p_at tx tl ta) - 65)), .int (nI 0), .int yo9_35, .int yo9_35, .int ye, .ref vc, .ref vb])), (vt, .inl (cY 0, 60, .inl (m_nf tx)))] H75 := hP
                                      have hD : va_D A [(mx, .inr (7, [.ref va, .ref vk, .ref vr, .int (nI rl), .ref vs, .int (nI ik), .int (nI th), .ref vt, .int (nI tl), .int (nI ta9_34), .int (nI ((p_at tx tl ta) - 65)), .int (nI 0), .int yo9_35, .int yo9_35, .int ye, .ref vc, .ref vb])), (vt, .inl (cY 0, 60, .inl (m_nf tx)))] := hD
                                      rcases Decidable.em (94 ≤ p_at tx tl ta9_34 ∧ p_at tx tl ta9_34 ≤ 94) with h94 | h94
                                      · skip
                                        refine lv_topi (nm_r (congrArg nI (if_pos h94)) ?_)
                                        refine lv_if_ne (tgt := 180) hx hb dX7_readsStep_175 (by decide) (fun c175 => ?_) (fun c175 => ?_)
                                        · have hinz77 := p_at_in (tx := tx) (len := tl) (k := ta9_34) (by omega)
                                          refine lv_aload_n hx hb dX7_readsStep_180 rfl (lv_at hl 0 rfl) ?_
                                          refine lv_aload_n hx hb dX7_readsStep_181 rfl (lv_at hl 0 rfl) ?_
                                          refine va_get (D := D) (ci := 7) (v := .ref vt) (C := RX7) (T := TX7) (N := 17) hx hb hts hwd1 hown hK hP 0 rfl rfl 7 (by decide) hwd0 (fun _ h9 => h9) rfl dX7_readsStep_182 ?_
                                          refine lv_aload_n hx hb dX7_readsStep_185 rfl (lv_at hl 0 rfl) ?_
                                          refine va_get (D := D) (ci := 7) (v := .int (nI ta9_34)) (C := RX7) (T := TX7) (N := 17) hx hb hts hwd1 hown hK hP 0 rfl rfl 9 (by decide) hwd2 (fun _ h9 => h9) rfl dX7_readsStep_186 ?_
                                          refine va_iald hx hb hK hP 1 0 rfl rfl (m_in (n := ta9_34) (by first | assumption | omega) (by decide)) dX7_readsStep_189 ?_
                                          refine lv_topi (nm_r (m_ldn (g := tx) (n := ta9_34) (by omega)) ?_)
                                          refine lv_topi (nm_r (congrArg nI (p_at_of (p_at_in (tx := tx) (len := tl) (k := ta9_34) (by omega))).symm) ?_)
                                          refine va_put (D := D) (ci := 7) (v := .int (nI (p_at tx tl ta9_34))) (ty := .int) (C := RX7) (T := TX7) (N := 17) hx hb hts hwd1 tyX7 tyX7_ok nmX7 hown hK hP hD hS 0 rfl rfl 11 (by decide) hwd4 (fun _ h9 => h9) rfl (by decide +kernel) rfl rfl (Nat.le_of_ble_eq_true rfl) dX7_readsStep_190 (fun H78 locs hP hD hS => ?_)
                                          have hP : va_P D vwCl [(mx, .inr (7, [.ref va, .ref vk, .ref vr, .int (nI rl), .ref vs, .int (nI ik), .int (nI th), .ref vt, .int (nI tl), .int (nI ta9_34), .int (nI ((p_at tx tl ta) - 65)), .int (nI (p_at tx tl ta9_34)), .int yo9_35, .int yo9_35, .int ye, .ref vc, .ref vb])), (vt, .inl (cY 0, 60, .inl (m_nf tx)))] H78 := hP
                                          have hD : va_D A [(mx, .inr (7, [.ref va, .ref vk, .ref vr, .int (nI rl), .ref vs, .int (nI ik), .int (nI th), .ref vt, .int (nI tl), .int (nI ta9_34), .int (nI ((p_at tx tl ta) - 65)), .int (nI (p_at tx tl ta9_34)), .int yo9_35, .int yo9_35, .int ye, .ref vc, .ref vb])), (vt, .inl (cY 0, 60, .inl (m_nf tx)))] := hD
                                          refine lv_aload_n hx hb dX7_readsStep_193 rfl (lv_at hl 0 rfl) ?_
                                          refine lv_dup hx hb dX7_readsStep_194 rfl ?_
                                          refine va_get (D := D) (ci := 7) (v := .int (nI ta9_34)) (C := RX7) (T := TX7) (N := 17) hx hb hts hwd1 hown hK hP 0 rfl rfl 9 (by decide) hwd2 (fun _ h9 => h9) rfl dX7_readsStep_195 ?_
                                          refine lv_iconst (v := nI 1) hx hb dX7_readsStep_198 (by decide) ?_
                                          refine lv_iadd hx hb dX7_readsStep_199 ?_
                                          refine lv_topi (nm_r (nI_add _ _) ?_)
                                          refine va_put (D := D) (ci := 7) (v := .int (nI (ta9_34 + 1))) (ty := .int) (C := RX7) (T := TX7) (N := 17) hx hb hts hwd1 tyX7 tyX7_ok nmX7 hown hK hP hD hS 0 rfl rfl 9 (by decide) hwd2 (fun _ h9 => h9) rfl (by decide +kernel) rfl rfl (Nat.le_of_ble_eq_true rfl) dX7_readsStep_200 (fun H79 locs hP hD hS => ?_)
                                          have hP : va_P D vwCl [(mx, .inr (7, [.ref va, .ref vk, .ref vr, .int (nI rl), .ref vs, .int (nI ik), .int (nI th), .ref vt, .int (nI tl), .int (nI (ta9_34 + 1)), .int (nI ((p_at tx tl ta) - 65)), .int (nI (p_at tx tl ta9_34)), .int yo9_35, .int yo9_35, .int ye, .ref vc, .ref vb])), (vt, .inl (cY 0, 60, .inl (m_nf tx)))] H79 := hP
                                          have hD : va_D A [(mx, .inr (7, [.ref va, .ref vk, .ref vr, .int (nI rl), .ref vs, .int (nI ik), .int (nI th), .ref vt, .int (nI tl), .int (nI (ta9_34 + 1)), .int (nI ((p_at tx tl ta) - 65)), .int (nI (p_at tx tl ta9_34)), .int yo9_35, .int yo9_35, .int ye, .ref vc, .ref vb])), (vt, .inl (cY 0, 60, .inl (m_nf tx)))] := hD
                                          refine lv_aload_n hx hb dX7_readsStep_203 rfl (lv_at hl 0 rfl) ?_
                                          refine m_callVi (As := []) (rest := []) C0 hl hP hD hS (c_X7_readsOperand l D cY mx va vk vr vs vt vc vb rl ik th tl (ta9_34 + 1) (nI ((p_at tx tl ta) - 65)) (nI (p_at tx tl ta9_34)) yo9_35 yo9_35 ye tx (by first | assumption | omega | exact nm_lt _ _ | exact np_lt _ _ | decide) (by first | assumption | omega | exact nm_lt _ _ | exact np_lt _ _ | decide) (by first | assumption | omega | exact nm_lt _ _ | exact np_lt _ _ | decide)) (cwV 0 hts gX7_readsStep_X7_readsOperand rfl rfl rfl (by decide +kernel) ⟨Nat.le_of_ble_eq_true rfl, Nat.le_of_ble_eq_true rfl⟩) dX7_readsStep_204 [0, 1] rfl rfl 0 rfl rfl rfl rfl (Nat.le_of_ble_eq_true rfl) (Nat.zero_le _) (Nat.zero_le _) (fun _ => rfl) (fun r83 u H80 locs hw hP hD hS => ?_)
                                          obtain ⟨ta9_81, yo9_82⟩ := u
                                          try dsimp only at hw
                                          have hq84 := hw; clear hw
                                          have hP : va_P D vwCl [(mx, .inr (7, [.ref va, .ref vk, .ref vr, .int (nI rl), .ref vs, .int (nI ik), .int (nI th), .ref vt, .int (nI tl), .int (nI ta9_81), .int (nI ((p_at tx tl ta) - 65)), .int (nI (p_at tx tl ta9_34)), .int yo9_82, .int yo9_35, .int ye, .ref vc, .ref vb])), (vt, .inl (cY 0, 60, .inl (m_nf tx)))] H80 := hP
                                          have hD : va_D A [(mx, .inr (7, [.ref va, .ref vk, .ref vr, .int (nI rl), .ref vs, .int (nI ik), .int (nI th), .ref vt, .int (nI tl), .int (nI ta9_81), .int (nI ((p_at tx tl ta) - 65)), .int (nI (p_at tx tl ta9_34)), .int yo9_82, .int yo9_35, .int ye, .ref vc, .ref vb])), (vt, .inl (cY 0, 60, .inl (m_nf tx)))] := hD
                                          rcases hq84 with ⟨rfl, hw1, hw2⟩ | ⟨vw, rfl, hw1, hrw, hvw, hlw⟩
                                          · skip
                                            rw [hw2] at hP hD
                                            have hP : va_P D vwCl [(mx, .inr (7, [.ref va, .ref vk, .ref vr, .int (nI rl), .ref vs, .int (nI ik), .int (nI th), .ref vt, .int (nI tl), .int (nI (ta9_34 + 1)), .int (nI ((p_at tx tl ta) - 65)), .int (nI (p_at tx tl ta9_34)), .int yo9_82, .int yo9_35, .int ye, .ref vc, .ref vb])), (vt, .inl (cY 0, 60, .inl (m_nf tx)))] H80 := hP
                                            have hD : va_D A [(mx, .inr (7, [.ref va, .ref vk, .ref vr, .int (nI rl), .ref vs, .int (nI ik), .int (nI th), .ref vt, .int (nI tl), .int (nI (ta9_34 + 1)), .int (nI ((p_at tx tl ta) - 65)), .int (nI (p_at tx tl ta9_34)), .int yo9_82, .int yo9_35, .int ye, .ref vc, .ref vb])), (vt, .inl (cY 0, 60, .inl (m_nf tx)))] := hD
                                            refine lv_istore_n (lv' := [(1, .int (nI 0)), (0, .ref mx)]) hx hb dX7_readsStep_207 rfl hl (by decide) rfl (fun ls hl => ?_)
                                            refine lv_aload_n hx hb dX7_readsStep_208 rfl (lv_at hl 1 rfl) ?_
                                            refine lv_aload_n hx hb dX7_readsStep_209 rfl (lv_at hl 1 rfl) ?_
                                            refine va_get (D := D) (ci := 7) (v := .int yo9_82) (C := RX7) (T := TX7) (N := 17) hx hb hts hwd1 hown hK hP 0 rfl rfl 12 (by decide) hwd5 (fun _ h9 => h9) rfl dX7_readsStep_210 ?_
                                            refine va_put (D := D) (ci := 7) (v := .int yo9_82) (ty := .int) (C := RX7) (T := TX7) (N := 17) hx hb hts hwd1 tyX7 tyX7_ok nmX7 hown hK hP hD hS 0 rfl rfl 14 (by decide) hwd7 (fun _ h9 => h9) rfl (by decide +kernel) rfl rfl (Nat.le_of_ble_eq_true rfl) dX7_readsStep_213 (fun H85 locs hP hD hS => ?_)
                                            have hP : va_P D vwCl [(mx, .inr (7, [.ref va, .ref vk, .ref vr, .int (nI rl), .ref vs, .int (nI ik), .int (nI th), .ref vt, .int (nI tl), .int (nI (ta9_34 + 1)), .int (nI ((p_at tx tl ta) - 65)), .int (nI (p_at tx tl ta9_34)), .int yo9_82, .int yo9_35, .int yo9_82, .ref vc, .ref vb])), (vt, .inl (cY 0, 60, .inl (m_nf tx)))] H85 := hP
                                            have hD : va_D A [(mx, .inr (7, [.ref va, .ref vk, .ref vr, .int (nI rl), .ref vs, .int (nI ik), .int (nI th), .ref vt, .int (nI tl), .int (nI (ta9_34 + 1)), .int (nI ((p_at tx tl ta) - 65)), .int (nI (p_at tx tl ta9_34)), .int yo9_82, .int yo9_35, .int yo9_82, .ref vc, .ref vb])), (vt, .inl (cY 0, 60, .inl (m_nf tx)))] := hD
                                            refine lv_iload_n hx hb dX7_readsStep_216 rfl (lv_at hl 0 rfl) ?_
                                            have hrg : p_rg (p_at tx tl ta) = some (p_at tx tl ta - 65) := by rw [p_rg, if_pos ha]
                                            have hone : ¬ (p_at tx tl (ta + 2) = 126 ∨ p_at tx tl (ta + 2) = 37) := by (have e2 : ta + 2 = ta + 1 + 1 := rfl); (rw [e2]); omega
                                            have htwo : p_at tx tl ta9_34 = 43 ∨ p_at tx tl ta9_34 = 42 ∨ p_at tx tl ta9_34 = 47 ∨ p_at tx tl ta9_34 = 94 := by omega
                                            subst hQ
                                            exact m_zret C0 (by decide) hS dX7_readsStep_217 (u := ((ta9_34 + 1), nI ((p_at tx tl ta) - 65), nI (p_at tx tl ta9_34), yo9_82, yo9_35, yo9_82)) hP (Or.inl ⟨rfl, by simp only [p_step, p_tgt, hrg, if_pos hk1, p_rhs, if_neg hone, show p_opd tx tl (ta + 2) = some (vA, ta9_34) from ha1, if_pos htwo, hw1], p_at_in (tx := tx) (by omega)⟩)
                                          · skip
                                            have hltw := p_opd_lt hw1
                                            refine lv_istore_n (lv' := [(1, .int (nI 1)), (0, .ref mx)]) hx hb dX7_readsStep_207 rfl hl (by decide) rfl (fun ls hl => ?_)
                                            refine lv_aload_n hx hb dX7_readsStep_208 rfl (lv_at hl 1 rfl) ?_
                                            refine lv_aload_n hx hb dX7_readsStep_209 rfl (lv_at hl 1 rfl) ?_
                                            refine va_get (D := D) (ci := 7) (v := .int yo9_82) (C := RX7) (T := TX7) (N := 17) hx hb hts hwd1 hown hK hP 0 rfl rfl 12 (by decide) hwd5 (fun _ h9 => h9) rfl dX7_readsStep_210 ?_
                                            refine va_put (D := D) (ci := 7) (v := .int yo9_82) (ty := .int) (C := RX7) (T := TX7) (N := 17) hx hb hts hwd1 tyX7 tyX7_ok nmX7 hown hK hP hD hS 0 rfl rfl 14 (by decide) hwd7 (fun _ h9 => h9) rfl (by decide +kernel) rfl rfl (Nat.le_of_ble_eq_true rfl) dX7_readsStep_213 (fun H86 locs hP hD hS => ?_)
                                            have hP : va_P D vwCl [(mx, .inr (7, [.ref va, .ref vk, .ref vr, .int (nI rl), .ref vs, .int (nI ik), .int (nI th), .ref vt, .int (nI tl), .int (nI ta9_81), .int (nI ((p_at tx tl ta) - 65)), .int (nI (p_at tx tl ta9_34)), .int yo9_82, .int yo9_35, .int yo9_82, .ref vc, .ref vb])), (vt, .inl (cY 0, 60, .inl (m_nf tx)))] H86 := hP
                                            have hD : va_D A [(mx, .inr (7, [.ref va, .ref vk, .ref vr, .int (nI rl), .ref vs, .int (nI ik), .int (nI th), .ref vt, .int (nI tl), .int (nI ta9_81), .int (nI ((p_at tx tl ta) - 65)), .int (nI (p_at tx tl ta9_34)), .int yo9_82, .int yo9_35, .int yo9_82, .ref vc, .ref vb])), (vt, .inl (cY 0, 60, .inl (m_nf tx)))] := hD
                                            refine lv_iload_n hx hb dX7_readsStep_216 rfl (lv_at hl 0 rfl) ?_
                                            have hrg : p_rg (p_at tx tl ta) = some (p_at tx tl ta - 65) := by rw [p_rg, if_pos ha]
                                            have hone : ¬ (p_at tx tl (ta + 2) = 126 ∨ p_at tx tl (ta + 2) = 37) := by (have e2 : ta + 2 = ta + 1 + 1 := rfl); (rw [e2]); omega
                                            have htwo : p_at tx tl ta9_34 = 43 ∨ p_at tx tl ta9_34 = 42 ∨ p_at tx tl ta9_34 = 47 ∨ p_at tx tl ta9_34 = 94 := by omega
                                            subst hQ
                                            exact m_zret C0 (by decide) hS dX7_readsStep_217 (u := (ta9_81, nI ((p_at tx tl ta) - 65), nI (p_at tx tl ta9_34), yo9_82, yo9_35, yo9_82)) hP (Or.inr ⟨_, _, vA, vw, rfl, by simp only [p_step, p_tgt, hrg, if_pos hk1, p_rhs, if_neg hone, show p_opd tx tl (ta + 2) = some (vA, ta9_34) from ha1, if_pos htwo, hw1], rfl, rfl, hra, ⟨by dsimp only; omega, p_at_lt htx, hva, hvw⟩, Or.inr ⟨htwo, hrw⟩⟩)
                                        · exact absurd c175 (by decide)
                                      · skip
                                        refine lv_topi (nm_r (congrArg nI (if_neg h94)) ?_)
                                        refine lv_if_ne (tgt := 180) hx hb dX7_readsStep_175 (by decide) (fun c175 => ?_) (fun c175 => ?_)
                                        · exact absurd c175 (by decide)
                                        · refine lv_iconst (v := nI 1) hx hb dX7_readsStep_178 (by decide) ?_
                                          have hrg : p_rg (p_at tx tl ta) = some (p_at tx tl ta - 65) := by rw [p_rg, if_pos ha]
                                          have hone : ¬ (p_at tx tl (ta + 2) = 126 ∨ p_at tx tl (ta + 2) = 37) := by (have e2 : ta + 2 = ta + 1 + 1 := rfl); (rw [e2]); omega
                                          have htwo : ¬ (p_at tx tl ta9_34 = 43 ∨ p_at tx tl ta9_34 = 42 ∨ p_at tx tl ta9_34 = 47 ∨ p_at tx tl ta9_34 = 94) := by omega
                                          subst hQ
                                          exact m_zret C0 (by decide) hS dX7_readsStep_179 (u := (ta9_34, nI ((p_at tx tl ta) - 65), nI 0, yo9_35, yo9_35, ye)) hP (Or.inr ⟨_, 0, vA, 0, rfl, by simp only [p_step, p_tgt, hrg, if_pos hk1, p_rhs, if_neg hone, show p_opd tx tl (ta + 2) = some (vA, ta9_34) from ha1, if_neg htwo], rfl, rfl, hra, ⟨by dsimp only; omega, (show (0 : Nat) < 65536 from by decide), hva, (show (0 : Nat) < 65544 from by decide)⟩, Or.inl ⟨Or.inl rfl, rfl⟩⟩)
                      · exact absurd c114 (by decide)
                  · exact absurd c98 (by decide)
                · exact absurd c70 (by decide)
        · exact absurd c45 (by decide)
      · skip
        rw [hk3] at hP hD
        have hP : va_P D vwCl [(mx, .inr (7, [.ref va, .ref vk, .ref vr, .int (nI rl), .ref vs, .int (nI ik), .int (nI th), .ref vt, .int (nI tl), .int (nI (ta + 1)), .int (nI ((p_at tx tl ta) - 65)), .int ys, .int yo, .int yf, .int ye, .ref vc, .ref vb])), (vt, .inl (cY 0, 60, .inl (m_nf tx)))] H5 := hP
        have hD : va_D A [(mx, .inr (7, [.ref va, .ref vk, .ref vr, .int (nI rl), .ref vs, .int (nI ik), .int (nI th), .ref vt, .int (nI tl), .int (nI (ta + 1)), .int (nI ((p_at tx tl ta) - 65)), .int ys, .int yo, .int yf, .int ye, .ref vc, .ref vb])), (vt, .inl (cY 0, 60, .inl (m_nf tx)))] := hD
        refine lv_if_ne (tgt := 50) hx hb dX7_readsStep_45 (by decide) (fun c45 => ?_) (fun c45 => ?_)
        · exact absurd c45 (by decide)
        · refine lv_iconst (v := nI 0) hx hb dX7_readsStep_48 (by decide) ?_
          have hrg : p_rg (p_at tx tl ta) = some (p_at tx tl ta - 65) := by rw [p_rg, if_pos ha]
          subst hQ
          exact m_zret C0 (by decide) hS dX7_readsStep_49 (u := ((ta + 1), nI ((p_at tx tl ta) - 65), ys, yo, yf, ye)) hP (Or.inl ⟨rfl, by simp only [p_step, p_tgt, hrg, if_neg hk1], by omega⟩)
    · exact absurd c8 (by decide)
  · skip
    refine lv_topi (nm_r (congrArg nI (if_neg ha)) ?_)
    refine lv_if_ne (tgt := 13) hx hb dX7_readsStep_8 (by decide) (fun c8 => ?_) (fun c8 => ?_)
    · exact absurd c8 (by decide)
    · refine lv_iconst (v := nI 0) hx hb dX7_readsStep_11 (by decide) ?_
      subst hQ
      exact m_zret C0 (by decide) hS dX7_readsStep_12 (u := (ta, yr, ys, yo, yf, ye)) hP (Or.inl ⟨rfl, by simp only [p_step, p_tgt, p_rg, if_neg ha], hta⟩)
