set_option maxHeartbeats 4000000 in
set_option maxRecDepth 100000 in
theorem c_X7_errorOfProgram (l : Launch) (D : va_G) (cY : Nat → ClassId) (mx va vk vr vs vt vc vb : Nat) (rl ik th tl ta : Nat) (yr ys yo yf ye : Int32) (tx : Nat → Nat) (htl : tl ≤ 60) (htx : ∀ j, tx j < 65536) : m_Mi l yX7_errorOfProgram wsX7_errorOfProgram 4 90 D cY [.ref mx] [(mx, .inr (7, [.ref va, .ref vk, .ref vr, .int (nI rl), .ref vs, .int (nI ik), .int (nI th), .ref vt, .int (nI tl), .int (nI ta), .int yr, .int ys, .int yo, .int yf, .int ye, .ref vc, .ref vb])), (vt, .inl (cY 0, 60, .inl (m_nf tx)))] (fun (res : Int32) (u : Nat × Int32 × Int32 × Int32 × Int32 × Int32) => (∃ w, res = nI w ∧ w ≤ 60 ∧ p_prog tx tl 15 0 = .inl w) ∨ (∃ ps, res = -1 ∧ p_prog tx tl 15 0 = .inr ps)) (fun (u : Nat × Int32 × Int32 × Int32 × Int32 × Int32) => [(mx, .inr (7, [.ref va, .ref vk, .ref vr, .int (nI rl), .ref vs, .int (nI ik), .int (nI th), .ref vt, .int (nI tl), .int (nI u.1), .int u.2.1, .int u.2.2.1, .int u.2.2.2.1, .int u.2.2.2.2.1, .int u.2.2.2.2.2, .ref vc, .ref vb])), (vt, .inl (cY 0, 60, .inl (m_nf tx)))]) := by
  refine m_enterI (cc := cX7_errorOfProgram) (maxL := 2) (ret := (some .int)) (by decide +kernel) rfl (Nat.le_of_ble_eq_true rfl) ?_
  intro p e s m below meth c A ls C0 hP hD hl
  obtain ⟨hx, hb, hr, hml, hts, hown, hlocks, hK, hA⟩ := id C0
  generalize hQ : MQ below _ _ s 0 0 A = Q
  have hS : va_S A s.heap s.heap [] := va_S.rf
  have hl : lv_has ls 2 [(0, .ref mx)] := hl
  have hwd0 := hts (.fieldLink RX7 90 "NimberFieldModel" "at" "I") (by decide +kernel)
  have hwd1 := (show ∀ w ∈ u_ws RX7 TX7 17, w ∈ wsX7_errorOfProgram from by decide +kernel)
  have hwd2 := hts (.fieldLink RX7 87 "NimberFieldModel" "textLong" "I") (by decide +kernel)
  refine lv_aload_n hx hb dX7_errorOfProgram_0 rfl (lv_at hl 0 rfl) ?_
  refine lv_iconst (v := nI 0) hx hb dX7_errorOfProgram_1 (by decide) ?_
  refine va_put (D := D) (ci := 7) (v := .int (nI 0)) (ty := .int) (C := RX7) (T := TX7) (N := 17) hx hb hts hwd1 tyX7 tyX7_ok nmX7 hown hK hP hD hS 0 rfl rfl 9 (by decide) hwd0 (fun _ h9 => h9) rfl (by decide +kernel) rfl rfl (Nat.le_of_ble_eq_true rfl) dX7_errorOfProgram_2 (fun H1 locs hP hD hS => ?_)
  have hP : va_P D vwCl [(mx, .inr (7, [.ref va, .ref vk, .ref vr, .int (nI rl), .ref vs, .int (nI ik), .int (nI th), .ref vt, .int (nI tl), .int (nI 0), .int yr, .int ys, .int yo, .int yf, .int ye, .ref vc, .ref vb])), (vt, .inl (cY 0, 60, .inl (m_nf tx)))] H1 := hP
  have hD : va_D A [(mx, .inr (7, [.ref va, .ref vk, .ref vr, .int (nI rl), .ref vs, .int (nI ik), .int (nI th), .ref vt, .int (nI tl), .int (nI 0), .int yr, .int ys, .int yo, .int yf, .int ye, .ref vc, .ref vb])), (vt, .inl (cY 0, 60, .inl (m_nf tx)))] := hD
  refine lv_iconst (v := nI 1) hx hb dX7_errorOfProgram_5 (by decide) ?_
  refine lv_istore_n (lv' := [(1, .int (nI 1)), (0, .ref mx)]) hx hb dX7_errorOfProgram_6 rfl hl (by decide) rfl (fun ls hl => ?_)
  have lp7_2 : ∀ (nn : Nat) (cu : Nat) (y1r : Int32) (y1s : Int32) (y1o : Int32) (y1f : Int32) (y1e : Int32) (nf : Nat) (done : List p_St) (H : Heap) (locs : List Loc) (ls : Array Slot), (cu ≤ tl) → (60 ≤ 4 * nf + cu) → (p_cont done (p_prog tx tl nf cu) = p_prog tx tl 15 0) → tl - cu < nn → va_P D vwCl [(mx, .inr (7, [.ref va, .ref vk, .ref vr, .int (nI rl), .ref vs, .int (nI ik), .int (nI th), .ref vt, .int (nI tl), .int (nI cu), .int y1r, .int y1s, .int y1o, .int y1f, .int y1e, .ref vc, .ref vb])), (vt, .inl (cY 0, 60, .inl (m_nf tx)))] H → va_D A [(mx, .inr (7, [.ref va, .ref vk, .ref vr, .int (nI rl), .ref vs, .int (nI ik), .int (nI th), .ref vt, .int (nI tl), .int (nI cu), .int y1r, .int y1s, .int y1o, .int y1f, .int y1e, .ref vc, .ref vb])), (vt, .inl (cY 0, 60, .inl (m_nf tx)))] → va_S A s.heap H locs → lv_has ls 2 [(0, .ref mx), (1, .int (nI 1))] → W p l e { frames := 4, cells := 0, slots := 0, locals := 90 } s m ([.ref mx] : List Value).toArray below meth c H locs 0 0 Q (F0 m 7 ls []) := by
    intro nn
    induction nn with
    | zero => intros; omega
    | succ nn ih7 =>
      intro cu y1r y1s y1o y1f y1e nf done H locs ls hcu hnf hpr hmz hP hD hS hl
      refine lv_iload_n hx hb dX7_errorOfProgram_7 rfl (lv_at hl 1 rfl) ?_
      refine lv_if_eq (tgt := 33) hx hb dX7_errorOfProgram_8 (by decide) (fun c8 => ?_) (fun c8 => ?_)
      · exact absurd c8 (by decide)
      · refine lv_aload_n hx hb dX7_errorOfProgram_11 rfl (lv_at hl 0 rfl) ?_
        refine m_callVi (As := []) (rest := []) C0 hl hP hD hS (c_X7_readsStep l D cY mx va vk vr vs vt vc vb rl ik th tl cu y1r y1s y1o y1f y1e tx (by first | assumption | omega | exact nm_lt _ _ | exact np_lt _ _ | decide) (by first | assumption | omega | exact nm_lt _ _ | exact np_lt _ _ | decide) (by first | assumption | omega | exact nm_lt _ _ | exact np_lt _ _ | decide)) (cwV 0 hts gX7_errorOfProgram_X7_readsStep rfl rfl rfl (by decide +kernel) ⟨Nat.le_of_ble_eq_true rfl, Nat.le_of_ble_eq_true rfl⟩) dX7_errorOfProgram_12 [0, 1] rfl rfl 0 rfl rfl rfl rfl (Nat.le_of_ble_eq_true rfl) (Nat.zero_le _) (Nat.zero_le _) (fun _ => rfl) (fun r10 u H3 locs hw hP hD hS => ?_)
        obtain ⟨ta9_4, yr9_5, ys9_6, yo9_7, yf9_8, ye9_9⟩ := u
        try dsimp only at hw
        have hq11 := hw; clear hw
        have hP : va_P D vwCl [(mx, .inr (7, [.ref va, .ref vk, .ref vr, .int (nI rl), .ref vs, .int (nI ik), .int (nI th), .ref vt, .int (nI tl), .int (nI ta9_4), .int yr9_5, .int ys9_6, .int yo9_7, .int yf9_8, .int ye9_9, .ref vc, .ref vb])), (vt, .inl (cY 0, 60, .inl (m_nf tx)))] H3 := hP
        have hD : va_D A [(mx, .inr (7, [.ref va, .ref vk, .ref vr, .int (nI rl), .ref vs, .int (nI ik), .int (nI th), .ref vt, .int (nI tl), .int (nI ta9_4), .int yr9_5, .int ys9_6, .int yo9_7, .int yf9_8, .int ye9_9, .ref vc, .ref vb])), (vt, .inl (cY 0, 60, .inl (m_nf tx)))] := hD
        rcases hq11 with ⟨rfl, hz1, hz2⟩ | ⟨xx, ya, yb, yd, rfl, hz1, rfl, rfl, rfl, hok, hcs⟩
        · skip
          refine lv_if_ne (tgt := 23) hx hb dX7_errorOfProgram_15 (by decide) (fun c15 => ?_) (fun c15 => ?_)
          · exact absurd c15 (by decide)
          · refine lv_aload_n hx hb dX7_errorOfProgram_18 rfl (lv_at hl 0 rfl) ?_
            refine va_get (D := D) (ci := 7) (v := .int (nI ta9_4)) (C := RX7) (T := TX7) (N := 17) hx hb hts hwd1 hown hK hP 0 rfl rfl 9 (by decide) hwd0 (fun _ h9 => h9) rfl dX7_errorOfProgram_19 ?_
            subst hQ
            exact m_iret C0 hS dX7_errorOfProgram_22 (u := (ta9_4, yr9_5, ys9_6, yo9_7, yf9_8, ye9_9)) hP (Or.inl ⟨_, rfl, by omega, by rw [← hpr, p_prog_e' hz1 hnf htl]; rfl⟩)
        · skip
          have hP : va_P D vwCl [(mx, .inr (7, [.ref va, .ref vk, .ref vr, .int (nI rl), .ref vs, .int (nI ik), .int (nI th), .ref vt, .int (nI tl), .int (nI ta9_4), .int (nI xx), .int (nI ya), .int yo9_7, .int (p_ref yb), .int ye9_9, .ref vc, .ref vb])), (vt, .inl (cY 0, 60, .inl (m_nf tx)))] H3 := hP
          have hD : va_D A [(mx, .inr (7, [.ref va, .ref vk, .ref vr, .int (nI rl), .ref vs, .int (nI ik), .int (nI th), .ref vt, .int (nI tl), .int (nI ta9_4), .int (nI xx), .int (nI ya), .int yo9_7, .int (p_ref yb), .int ye9_9, .ref vc, .ref vb])), (vt, .inl (cY 0, 60, .inl (m_nf tx)))] := hD
          have hadv := p_step_adv hz1
          dsimp only at hadv
          have hnp := p_pos hz1 hnf htl
          refine lv_if_ne (tgt := 23) hx hb dX7_errorOfProgram_15 (by decide) (fun c15 => ?_) (fun c15 => ?_)
          · refine lv_aload_n hx hb dX7_errorOfProgram_23 rfl (lv_at hl 0 rfl) ?_
            refine lv_bipush (v := nI 59) hx hb dX7_errorOfProgram_24 (by decide) ?_
            refine m_callVi (As := [.int (nI 59)]) (rest := []) C0 hl hP hD hS (c_X7_takesOne l D cY mx va vk vr vs vt vc vb rl ik th tl ta9_4 (nI xx) (nI ya) yo9_7 (p_ref yb) ye9_9 tx 59 (by first | assumption | omega | exact nm_lt _ _ | exact np_lt _ _ | decide) (by first | assumption | omega | exact nm_lt _ _ | exact np_lt _ _ | decide) (by first | assumption | omega | exact nm_lt _ _ | exact np_lt _ _ | decide) (by first | assumption | omega | exact nm_lt _ _ | exact np_lt _ _ | decide) (by first | assumption | omega | exact nm_lt _ _ | exact np_lt _ _ | decide)) (cwV 1 hts gX7_errorOfProgram_X7_takesOne rfl rfl rfl (by decide +kernel) ⟨Nat.le_of_ble_eq_true rfl, Nat.le_of_ble_eq_true rfl⟩) dX7_errorOfProgram_26 [0, 1] rfl rfl 0 rfl rfl rfl rfl (Nat.le_of_ble_eq_true rfl) (Nat.zero_le _) (Nat.zero_le _) (fun _ => rfl) (fun r14 u H12 locs hw hP hD hS => ?_)
            obtain ⟨ta9_13, rfl⟩ : ∃ z, z = u := ⟨_, rfl⟩
            try dsimp only at hw
            have hq15 := hw; clear hw
            have hP : va_P D vwCl [(mx, .inr (7, [.ref va, .ref vk, .ref vr, .int (nI rl), .ref vs, .int (nI ik), .int (nI th), .ref vt, .int (nI tl), .int (nI ta9_13), .int (nI xx), .int (nI ya), .int yo9_7, .int (p_ref yb), .int ye9_9, .ref vc, .ref vb])), (vt, .inl (cY 0, 60, .inl (m_nf tx)))] H12 := hP
            have hD : va_D A [(mx, .inr (7, [.ref va, .ref vk, .ref vr, .int (nI rl), .ref vs, .int (nI ik), .int (nI th), .ref vt, .int (nI tl), .int (nI ta9_13), .int (nI xx), .int (nI ya), .int yo9_7, .int (p_ref yb), .int ye9_9, .ref vc, .ref vb])), (vt, .inl (cY 0, 60, .inl (m_nf tx)))] := hD
            rcases hq15 with ⟨rfl, hk1, hk3, hk4⟩ | ⟨rfl, hk1, hk3⟩
            · skip
              rw [hk3] at hP hD
              have hP : va_P D vwCl [(mx, .inr (7, [.ref va, .ref vk, .ref vr, .int (nI rl), .ref vs, .int (nI ik), .int (nI th), .ref vt, .int (nI tl), .int (nI (ta9_4 + 1)), .int (nI xx), .int (nI ya), .int yo9_7, .int (p_ref yb), .int ye9_9, .ref vc, .ref vb])), (vt, .inl (cY 0, 60, .inl (m_nf tx)))] H12 := hP
              have hD : va_D A [(mx, .inr (7, [.ref va, .ref vk, .ref vr, .int (nI rl), .ref vs, .int (nI ik), .int (nI th), .ref vt, .int (nI tl), .int (nI (ta9_4 + 1)), .int (nI xx), .int (nI ya), .int yo9_7, .int (p_ref yb), .int ye9_9, .ref vc, .ref vb])), (vt, .inl (cY 0, 60, .inl (m_nf tx)))] := hD
              refine lv_istore_n (lv' := [(1, .int (nI 1)), (0, .ref mx)]) hx hb dX7_errorOfProgram_29 rfl hl (by decide) rfl (fun ls hl => ?_)
              refine lv_goto (tgt := 7) hx hb dX7_errorOfProgram_30 (by decide) ?_
              exact ih7 (ta9_4 + 1) (nI xx) (nI ya) yo9_7 (p_ref yb) ye9_9 (nf - 1) (done ++ [(xx, ya, yb, yd)]) _ _ ls (by first | assumption | omega) (by first | assumption | omega) ((p_prog_on hnp hz1 (by omega) hk1 done).symm.trans hpr) (by omega) hP hD hS (lv_sub hl [1, 0] rfl)
            · skip
              rw [hk3] at hP hD
              have hP : va_P D vwCl [(mx, .inr (7, [.ref va, .ref vk, .ref vr, .int (nI rl), .ref vs, .int (nI ik), .int (nI th), .ref vt, .int (nI tl), .int (nI ta9_4), .int (nI xx), .int (nI ya), .int yo9_7, .int (p_ref yb), .int ye9_9, .ref vc, .ref vb])), (vt, .inl (cY 0, 60, .inl (m_nf tx)))] H12 := hP
              have hD : va_D A [(mx, .inr (7, [.ref va, .ref vk, .ref vr, .int (nI rl), .ref vs, .int (nI ik), .int (nI th), .ref vt, .int (nI tl), .int (nI ta9_4), .int (nI xx), .int (nI ya), .int yo9_7, .int (p_ref yb), .int ye9_9, .ref vc, .ref vb])), (vt, .inl (cY 0, 60, .inl (m_nf tx)))] := hD
              refine lv_istore_n (lv' := [(1, .int (nI 0)), (0, .ref mx)]) hx hb dX7_errorOfProgram_29 rfl hl (by decide) rfl (fun ls hl => ?_)
              refine lv_goto (tgt := 7) hx hb dX7_errorOfProgram_30 (by decide) ?_
              refine lv_iload_n hx hb dX7_errorOfProgram_7 rfl (lv_at hl 0 rfl) ?_
              refine lv_if_eq (tgt := 33) hx hb dX7_errorOfProgram_8 (by decide) (fun c8 => ?_) (fun c8 => ?_)
              · refine lv_aload_n hx hb dX7_errorOfProgram_33 rfl (lv_at hl 1 rfl) ?_
                refine va_get (D := D) (ci := 7) (v := .int (nI ta9_4)) (C := RX7) (T := TX7) (N := 17) hx hb hts hwd1 hown hK hP 0 rfl rfl 9 (by decide) hwd0 (fun _ h9 => h9) rfl dX7_errorOfProgram_34 ?_
                refine lv_aload_n hx hb dX7_errorOfProgram_37 rfl (lv_at hl 1 rfl) ?_
                refine va_get (D := D) (ci := 7) (v := .int (nI tl)) (C := RX7) (T := TX7) (N := 17) hx hb hts hwd1 hown hK hP 0 rfl rfl 8 (by decide) hwd2 (fun _ h9 => h9) rfl dX7_errorOfProgram_38 ?_
                refine lv_icmp_ne (tgt := 48) hx hb dX7_errorOfProgram_41 (by decide) (fun c41 => ?_) (fun c41 => ?_)
                · have c41 : ¬ (ta9_4 = tl) := fun qq9 => c41 ((nI_eq (a := ta9_4) (b := tl) (by first | omega | exact Nat.lt_of_le_of_lt Nat.and_le_right (by decide) | exact Nat.lt_trans (nm_lt _ _) (by decide) | exact Nat.lt_trans (np_lt _ _) (by decide) | exact Nat.lt_trans (p_at_lt htx) (by decide)) (by first | omega | exact Nat.lt_of_le_of_lt Nat.and_le_right (by decide) | exact Nat.lt_trans (nm_lt _ _) (by decide) | exact Nat.lt_trans (np_lt _ _) (by decide) | exact Nat.lt_trans (p_at_lt htx) (by decide))).mpr qq9)
                  refine lv_aload_n hx hb dX7_errorOfProgram_48 rfl (lv_at hl 1 rfl) ?_
                  refine va_get (D := D) (ci := 7) (v := .int (nI ta9_4)) (C := RX7) (T := TX7) (N := 17) hx hb hts hwd1 hown hK hP 0 rfl rfl 9 (by decide) hwd0 (fun _ h9 => h9) rfl dX7_errorOfProgram_49 ?_
                  subst hQ
                  exact m_iret C0 hS dX7_errorOfProgram_52 (u := (ta9_4, nI xx, nI ya, yo9_7, (p_ref yb), ye9_9)) hP (Or.inl ⟨_, rfl, by omega, by rw [← hpr, p_prog_bad hnp hz1 c41 hk1]; rfl⟩)
                · have c41 : ta9_4 = tl := (nI_eq (a := ta9_4) (b := tl) (by first | omega | exact Nat.lt_of_le_of_lt Nat.and_le_right (by decide) | exact Nat.lt_trans (nm_lt _ _) (by decide) | exact Nat.lt_trans (np_lt _ _) (by decide) | exact Nat.lt_trans (p_at_lt htx) (by decide)) (by first | omega | exact Nat.lt_of_le_of_lt Nat.and_le_right (by decide) | exact Nat.lt_trans (nm_lt _ _) (by decide) | exact Nat.lt_trans (np_lt _ _) (by decide) | exact Nat.lt_trans (p_at_lt htx) (by decide))).mp c41
                  refine lv_iconst (v := (-1)) hx hb dX7_errorOfProgram_44 (by decide) ?_
                  refine lv_goto (tgt := 52) hx hb dX7_errorOfProgram_45 (by decide) ?_
                  rw [c41] at hz1
                  subst hQ
                  exact m_iret C0 hS dX7_errorOfProgram_52 (u := (ta9_4, nI xx, nI ya, yo9_7, (p_ref yb), ye9_9)) hP (Or.inr ⟨done ++ [(xx, ya, yb, yd)], rfl, by rw [← hpr, p_prog_end hnp hz1]; rfl⟩)
              · exact absurd c8 (by decide)
          · exact absurd c15 (by decide)
  exact lp7_2 _ 0 yr ys yo yf ye 15 ([]) _ _ ls (by first | assumption | omega) (by first | assumption | omega) (p_cont_nil _) (Nat.lt_succ_self _) hP hD hS (lv_sub hl [1, 0] rfl)
set_option maxHeartbeats 4000000 in
set_option maxRecDepth 100000 in
theorem c_X7_does (l : Launch) (D : va_G) (cY : Nat → ClassId) (mx va vk vr vs vt vc vb : Nat) (rl ik th tl ta : Nat) (yr ys yo yf ye : Int32) (f : Nat → Nat) (cnt : Nat) (x a b d : Nat) (hok : p_ok (x, a, b, d)) (hcs : ((a = 0 ∨ a = 126 ∨ a = 37) ∧ d = 0) ∨ ((a = 43 ∨ a = 42 ∨ a = 47 ∨ a = 94) ∧ ye = p_ref d)) (hf8 : m_z 8 f) (hf16 : ∀ j, f j < 65536) : m_Mi l yX7_does wsX7_does 6 140 D cY [.ref mx] [(mx, .inr (7, [.ref va, .ref vk, .ref vr, .int (nI rl), .ref vs, .int (nI ik), .int (nI th), .ref vt, .int (nI tl), .int (nI ta), .int (nI x), .int (nI a), .int yo, .int (p_ref b), .int ye, .ref vc, .ref vb])), (va, .inl (cY 0, 9, .inl (m_nf (m_all f cnt))))] (fun (res : Int32) (u : (Nat → Nat) × Nat) => (res = nI 0 ∧ p_do (x, a, b, d) f cnt = none ∧ u.1 = f ∧ u.2 = cnt) ∨ (res = nI 1 ∧ p_do (x, a, b, d) f cnt = some (u.1, u.2) ∧ m_z 8 u.1 ∧ ∀ j, u.1 j < 65536)) (fun (u : (Nat → Nat) × Nat) => [(mx, .inr (7, [.ref va, .ref vk, .ref vr, .int (nI rl), .ref vs, .int (nI ik), .int (nI th), .ref vt, .int (nI tl), .int (nI ta), .int (nI x), .int (nI a), .int yo, .int (p_ref b), .int ye, .ref vc, .ref vb])), (va, .inl (cY 0, 9, .inl (m_nf (m_all u.1 u.2))))]) := by
  refine m_enterI (cc := cX7_does) (maxL := 3) (ret := (some .boolean)) (by decide +kernel) rfl (Nat.le_of_ble_eq_true rfl) ?_
  intro p e s m below meth c A ls C0 hP hD hl
  obtain ⟨hx, hb, hr, hml, hts, hown, hlocks, hK, hA⟩ := id C0
  generalize hQ : MQ below _ _ s 0 0 A = Q
  have hS : va_S A s.heap s.heap [] := va_S.rf
  have hl : lv_has ls 3 [(0, .ref mx)] := hl
  have hwd0 := hts (.fieldLink RX7 114 "NimberFieldModel" "first" "I") (by decide +kernel)
  have hwd1 := (show ∀ w ∈ u_ws RX7 TX7 17, w ∈ wsX7_does from by decide +kernel)
  have hwd2 := hts (.fieldLink RX7 107 "NimberFieldModel" "sign" "I") (by decide +kernel)
  have hwd3 := hts (.fieldLink RX7 7 "NimberFieldModel" "all" "[I") (by decide +kernel)
  have hwd4 := hts (.fieldLink RX7 101 "NimberFieldModel" "register" "I") (by decide +kernel)
  have hwd5 := hts (.fieldLink RX7 117 "NimberFieldModel" "second" "I") (by decide +kernel)
  obtain ⟨ho1, ho2, ho3, ho4⟩ := hok
  dsimp only at ho1 ho2 ho3 ho4
  have hb16 : p_val b f < 65536 := p_val_lt hf16
  have hd16 : p_val d f < 65536 := p_val_lt hf16
  rcases (show (a = 0 ∧ d = 0) ∨ (a = 126 ∧ d = 0) ∨ (a = 37 ∧ d = 0) ∨ (a = 43 ∧ ye = p_ref d) ∨ (a = 42 ∧ ye = p_ref d) ∨ (a = 47 ∧ ye = p_ref d) ∨ (a = 94 ∧ ye = p_ref d) from by (rcases hcs with ⟨h1 | h1 | h1, h2⟩ | ⟨h1 | h1 | h1 | h1, h2⟩ <;> simp [h1, h2])) with ⟨rfl, rfl⟩ | ⟨rfl, rfl⟩ | ⟨rfl, rfl⟩ | ⟨rfl, rfl⟩ | ⟨rfl, rfl⟩ | ⟨rfl, rfl⟩ | ⟨rfl, rfl⟩
  · skip
    have hP : va_P D vwCl [(mx, .inr (7, [.ref va, .ref vk, .ref vr, .int (nI rl), .ref vs, .int (nI ik), .int (nI th), .ref vt, .int (nI tl), .int (nI ta), .int (nI x), .int (nI 0), .int yo, .int (p_ref b), .int ye, .ref vc, .ref vb])), (va, .inl (cY 0, 9, .inl (m_nf (m_all f cnt))))] s.heap := hP
    have hD : va_D A [(mx, .inr (7, [.ref va, .ref vk, .ref vr, .int (nI rl), .ref vs, .int (nI ik), .int (nI th), .ref vt, .int (nI tl), .int (nI ta), .int (nI x), .int (nI 0), .int yo, .int (p_ref b), .int ye, .ref vc, .ref vb])), (va, .inl (cY 0, 9, .inl (m_nf (m_all f cnt))))] := hD
    refine lv_aload_n hx hb dX7_does_0 rfl (lv_at hl 0 rfl) ?_
    refine lv_aload_n hx hb dX7_does_1 rfl (lv_at hl 0 rfl) ?_
    refine va_get (D := D) (ci := 7) (v := .int (p_ref b)) (C := RX7) (T := TX7) (N := 17) hx hb hts hwd1 hown hK hP 0 rfl rfl 13 (by decide) hwd0 (fun _ h9 => h9) rfl dX7_does_2 ?_
    refine m_callVi (As := [.int (p_ref b)]) (rest := []) C0 hl hP hD hS (c_X7_valueOf l D cY mx va vk vr vs vt vc vb rl ik th tl ta (nI x) (nI 0) yo (p_ref b) ye f cnt b (by first | assumption | omega | exact nm_lt _ _ | exact np_lt _ _ | decide)) (cwV 1 hts gX7_does_X7_valueOf rfl rfl rfl (by decide +kernel) ⟨Nat.le_of_ble_eq_true rfl, Nat.le_of_ble_eq_true rfl⟩) dX7_does_5 [0, 1] rfl rfl 0 rfl rfl rfl rfl (Nat.le_of_ble_eq_true rfl) (Nat.zero_le _) (Nat.zero_le _) (fun _ => rfl) (fun r2 u H1 locs hw hP hD hS => ?_)
    try dsimp only at hw
    obtain rfl := hw
    have hP : va_P D vwCl [(mx, .inr (7, [.ref va, .ref vk, .ref vr, .int (nI rl), .ref vs, .int (nI ik), .int (nI th), .ref vt, .int (nI tl), .int (nI ta), .int (nI x), .int (nI 0), .int yo, .int (p_ref b), .int ye, .ref vc, .ref vb])), (va, .inl (cY 0, 9, .inl (m_nf (m_all f cnt))))] H1 := hP
    have hD : va_D A [(mx, .inr (7, [.ref va, .ref vk, .ref vr, .int (nI rl), .ref vs, .int (nI ik), .int (nI th), .ref vt, .int (nI tl), .int (nI ta), .int (nI x), .int (nI 0), .int yo, .int (p_ref b), .int ye, .ref vc, .ref vb])), (va, .inl (cY 0, 9, .inl (m_nf (m_all f cnt))))] := hD
    refine lv_istore_n (lv' := [(1, .int (nI (p_val b f))), (0, .ref mx)]) hx hb dX7_does_8 rfl hl (by decide) rfl (fun ls hl => ?_)
    refine lv_aload_n hx hb dX7_does_9 rfl (lv_at hl 1 rfl) ?_
    refine va_get (D := D) (ci := 7) (v := .int (nI 0)) (C := RX7) (T := TX7) (N := 17) hx hb hts hwd1 hown hK hP 0 rfl rfl 11 (by decide) hwd2 (fun _ h9 => h9) rfl dX7_does_10 ?_
    refine lv_if_eq (tgt := 34) hx hb dX7_does_13 (by decide) (fun c13 => ?_) (fun c13 => ?_)
    · refine lv_iconst (v := nI 0) hx hb dX7_does_34 (by decide) ?_
      refine lv_goto (tgt := 46) hx hb dX7_does_35 (by decide) ?_
      refine lv_istore_n (lv' := [(2, .int (nI 0)), (1, .int (nI (p_val b f))), (0, .ref mx)]) hx hb dX7_does_46 rfl hl (by decide) rfl (fun ls hl => ?_)
      refine lv_aload_n hx hb dX7_does_47 rfl (lv_at hl 2 rfl) ?_
      refine va_get (D := D) (ci := 7) (v := .int (nI 0)) (C := RX7) (T := TX7) (N := 17) hx hb hts hwd1 hown hK hP 0 rfl rfl 11 (by decide) hwd2 (fun _ h9 => h9) rfl dX7_does_48 ?_
      refine lv_bipush (v := nI 126) hx hb dX7_does_51 (by decide) ?_
      refine lv_icmp_ne (tgt := 60) hx hb dX7_does_53 (by decide) (fun c53 => ?_) (fun c53 => ?_)
      · refine lv_aload_n hx hb dX7_does_60 rfl (lv_at hl 2 rfl) ?_
        refine va_get (D := D) (ci := 7) (v := .int (nI 0)) (C := RX7) (T := TX7) (N := 17) hx hb hts hwd1 hown hK hP 0 rfl rfl 11 (by decide) hwd2 (fun _ h9 => h9) rfl dX7_does_61 ?_
        refine lv_bipush (v := nI 47) hx hb dX7_does_64 (by decide) ?_
        refine lv_icmp_ne (tgt := 75) hx hb dX7_does_66 (by decide) (fun c66 => ?_) (fun c66 => ?_)
        · refine lv_aload_n hx hb dX7_does_75 rfl (lv_at hl 2 rfl) ?_
          refine va_get (D := D) (ci := 7) (v := .int (nI 0)) (C := RX7) (T := TX7) (N := 17) hx hb hts hwd1 hown hK hP 0 rfl rfl 11 (by decide) hwd2 (fun _ h9 => h9) rfl dX7_does_76 ?_
          refine lv_lookup (tgt := 248) hx hb dX7_does_79 (by decide +kernel) (off := 169) (by decide +kernel) (by decide) ?_
          refine lv_aload_n hx hb dX7_does_248 rfl (lv_at hl 2 rfl) ?_
          refine va_get (D := D) (ci := 7) (v := .ref va) (C := RX7) (T := TX7) (N := 17) hx hb hts hwd1 hown hK hP 0 rfl rfl 0 (by decide) hwd3 (fun _ h9 => h9) rfl dX7_does_249 ?_
          refine lv_aload_n hx hb dX7_does_252 rfl (lv_at hl 2 rfl) ?_
          refine va_get (D := D) (ci := 7) (v := .int (nI x)) (C := RX7) (T := TX7) (N := 17) hx hb hts hwd1 hown hK hP 0 rfl rfl 10 (by decide) hwd4 (fun _ h9 => h9) rfl dX7_does_253 ?_
          refine lv_iload_n hx hb dX7_does_256 rfl (lv_at hl 1 rfl) ?_
          refine va_iast hx hb hK hP hD hS 1 0 rfl rfl (m_in (n := x) (by first | assumption | omega) (by decide)) dX7_does_257 (fun H3 locs hP hD hS => ?_)
          have hP : va_P D vwCl [(mx, .inr (7, [.ref va, .ref vk, .ref vr, .int (nI rl), .ref vs, .int (nI ik), .int (nI th), .ref vt, .int (nI tl), .int (nI ta), .int (nI x), .int (nI 0), .int yo, .int (p_ref b), .int ye, .ref vc, .ref vb])), (va, .inl (cY 0, 9, .inl (upd (m_nf (m_all f cnt)) (nI x).toNatClampNeg (nI (p_val b f)))))] H3 := hP
          have hD : va_D A [(mx, .inr (7, [.ref va, .ref vk, .ref vr, .int (nI rl), .ref vs, .int (nI ik), .int (nI th), .ref vt, .int (nI tl), .int (nI ta), .int (nI x), .int (nI 0), .int yo, .int (p_ref b), .int ye, .ref vc, .ref vb])), (va, .inl (cY 0, 9, .inl (upd (m_nf (m_all f cnt)) (nI x).toNatClampNeg (nI (p_val b f)))))] := hD
          rw [m_upd (g := m_all f cnt) (n := x) (v := p_val b f) (by omega)] at hP hD
          have hP : va_P D vwCl [(mx, .inr (7, [.ref va, .ref vk, .ref vr, .int (nI rl), .ref vs, .int (nI ik), .int (nI th), .ref vt, .int (nI tl), .int (nI ta), .int (nI x), .int (nI 0), .int yo, .int (p_ref b), .int ye, .ref vc, .ref vb])), (va, .inl (cY 0, 9, .inl (m_nf (m_up (m_all f cnt) x (p_val b f)))))] H3 := hP
          have hD : va_D A [(mx, .inr (7, [.ref va, .ref vk, .ref vr, .int (nI rl), .ref vs, .int (nI ik), .int (nI th), .ref vt, .int (nI tl), .int (nI ta), .int (nI x), .int (nI 0), .int yo, .int (p_ref b), .int ye, .ref vc, .ref vb])), (va, .inl (cY 0, 9, .inl (m_nf (m_up (m_all f cnt) x (p_val b f)))))] := hD
          rw [show m_nf (m_up (m_all f cnt) x (p_val b f)) = m_nf (m_all (m_up f x (p_val b f)) cnt) from congrArg m_nf (m_all_up ho1)] at hP hD
          have hP : va_P D vwCl [(mx, .inr (7, [.ref va, .ref vk, .ref vr, .int (nI rl), .ref vs, .int (nI ik), .int (nI th), .ref vt, .int (nI tl), .int (nI ta), .int (nI x), .int (nI 0), .int yo, .int (p_ref b), .int ye, .ref vc, .ref vb])), (va, .inl (cY 0, 9, .inl (m_nf (m_all (m_up f x (p_val b f)) cnt))))] H3 := hP
          have hD : va_D A [(mx, .inr (7, [.ref va, .ref vk, .ref vr, .int (nI rl), .ref vs, .int (nI ik), .int (nI th), .ref vt, .int (nI tl), .int (nI ta), .int (nI x), .int (nI 0), .int yo, .int (p_ref b), .int ye, .ref vc, .ref vb])), (va, .inl (cY 0, 9, .inl (m_nf (m_all (m_up f x (p_val b f)) cnt))))] := hD
          refine lv_iconst (v := nI 1) hx hb dX7_does_258 (by decide) ?_
          subst hQ
          exact m_zret C0 (by decide) hS dX7_does_259 (u := (m_up f x (p_val b f), cnt)) hP (Or.inr ⟨rfl, by simp (config := { decide := true }) only [p_do, p_res, if_true, if_false], m_zup hf8 ho1, m_up_lt hf16 (hb16)⟩)
        · exact absurd c66 (by decide)
      · exact absurd c53 (by decide)
    · exact absurd c13 (by decide)
  · skip
    have hP : va_P D vwCl [(mx, .inr (7, [.ref va, .ref vk, .ref vr, .int (nI rl), .ref vs, .int (nI ik), .int (nI th), .ref vt, .int (nI tl), .int (nI ta), .int (nI x), .int (nI 126), .int yo, .int (p_ref b), .int ye, .ref vc, .ref vb])), (va, .inl (cY 0, 9, .inl (m_nf (m_all f cnt))))] s.heap := hP
    have hD : va_D A [(mx, .inr (7, [.ref va, .ref vk, .ref vr, .int (nI rl), .ref vs, .int (nI ik), .int (nI th), .ref vt, .int (nI tl), .int (nI ta), .int (nI x), .int (nI 126), .int yo, .int (p_ref b), .int ye, .ref vc, .ref vb])), (va, .inl (cY 0, 9, .inl (m_nf (m_all f cnt))))] := hD
    refine lv_aload_n hx hb dX7_does_0 rfl (lv_at hl 0 rfl) ?_
    refine lv_aload_n hx hb dX7_does_1 rfl (lv_at hl 0 rfl) ?_
    refine va_get (D := D) (ci := 7) (v := .int (p_ref b)) (C := RX7) (T := TX7) (N := 17) hx hb hts hwd1 hown hK hP 0 rfl rfl 13 (by decide) hwd0 (fun _ h9 => h9) rfl dX7_does_2 ?_
    refine m_callVi (As := [.int (p_ref b)]) (rest := []) C0 hl hP hD hS (c_X7_valueOf l D cY mx va vk vr vs vt vc vb rl ik th tl ta (nI x) (nI 126) yo (p_ref b) ye f cnt b (by first | assumption | omega | exact nm_lt _ _ | exact np_lt _ _ | decide)) (cwV 1 hts gX7_does_X7_valueOf rfl rfl rfl (by decide +kernel) ⟨Nat.le_of_ble_eq_true rfl, Nat.le_of_ble_eq_true rfl⟩) dX7_does_5 [0, 1] rfl rfl 0 rfl rfl rfl rfl (Nat.le_of_ble_eq_true rfl) (Nat.zero_le _) (Nat.zero_le _) (fun _ => rfl) (fun r5 u H4 locs hw hP hD hS => ?_)
    try dsimp only at hw
    obtain rfl := hw
    have hP : va_P D vwCl [(mx, .inr (7, [.ref va, .ref vk, .ref vr, .int (nI rl), .ref vs, .int (nI ik), .int (nI th), .ref vt, .int (nI tl), .int (nI ta), .int (nI x), .int (nI 126), .int yo, .int (p_ref b), .int ye, .ref vc, .ref vb])), (va, .inl (cY 0, 9, .inl (m_nf (m_all f cnt))))] H4 := hP
    have hD : va_D A [(mx, .inr (7, [.ref va, .ref vk, .ref vr, .int (nI rl), .ref vs, .int (nI ik), .int (nI th), .ref vt, .int (nI tl), .int (nI ta), .int (nI x), .int (nI 126), .int yo, .int (p_ref b), .int ye, .ref vc, .ref vb])), (va, .inl (cY 0, 9, .inl (m_nf (m_all f cnt))))] := hD
    refine lv_istore_n (lv' := [(1, .int (nI (p_val b f))), (0, .ref mx)]) hx hb dX7_does_8 rfl hl (by decide) rfl (fun ls hl => ?_)
    refine lv_aload_n hx hb dX7_does_9 rfl (lv_at hl 1 rfl) ?_
    refine va_get (D := D) (ci := 7) (v := .int (nI 126)) (C := RX7) (T := TX7) (N := 17) hx hb hts hwd1 hown hK hP 0 rfl rfl 11 (by decide) hwd2 (fun _ h9 => h9) rfl dX7_does_10 ?_
    refine lv_if_eq (tgt := 34) hx hb dX7_does_13 (by decide) (fun c13 => ?_) (fun c13 => ?_)
    · exact absurd c13 (by decide)
    · refine lv_aload_n hx hb dX7_does_16 rfl (lv_at hl 1 rfl) ?_
      refine va_get (D := D) (ci := 7) (v := .int (nI 126)) (C := RX7) (T := TX7) (N := 17) hx hb hts hwd1 hown hK hP 0 rfl rfl 11 (by decide) hwd2 (fun _ h9 => h9) rfl dX7_does_17 ?_
      refine lv_bipush (v := nI 126) hx hb dX7_does_20 (by decide) ?_
      refine lv_icmp_eq (tgt := 34) hx hb dX7_does_22 (by decide) (fun c22 => ?_) (fun c22 => ?_)
      · refine lv_iconst (v := nI 0) hx hb dX7_does_34 (by decide) ?_
        refine lv_goto (tgt := 46) hx hb dX7_does_35 (by decide) ?_
        refine lv_istore_n (lv' := [(2, .int (nI 0)), (1, .int (nI (p_val b f))), (0, .ref mx)]) hx hb dX7_does_46 rfl hl (by decide) rfl (fun ls hl => ?_)
        refine lv_aload_n hx hb dX7_does_47 rfl (lv_at hl 2 rfl) ?_
        refine va_get (D := D) (ci := 7) (v := .int (nI 126)) (C := RX7) (T := TX7) (N := 17) hx hb hts hwd1 hown hK hP 0 rfl rfl 11 (by decide) hwd2 (fun _ h9 => h9) rfl dX7_does_48 ?_
        refine lv_bipush (v := nI 126) hx hb dX7_does_51 (by decide) ?_
        refine lv_icmp_ne (tgt := 60) hx hb dX7_does_53 (by decide) (fun c53 => ?_) (fun c53 => ?_)
        · exact absurd c53 (by decide)
        · refine lv_iload_n hx hb dX7_does_56 rfl (lv_at hl 1 rfl) ?_
          refine lv_if_eq (tgt := 73) hx hb dX7_does_57 (by decide) (fun c57 => ?_) (fun c57 => ?_)
          · have c57 : (p_val b f) = 0 := (nI_eq (a := (p_val b f)) (b := 0) (by first | omega | exact Nat.lt_of_le_of_lt Nat.and_le_right (by decide) | exact Nat.lt_trans (nm_lt _ _) (by decide) | exact Nat.lt_trans (np_lt _ _) (by decide) | exact Nat.lt_trans (p_at_lt htx) (by decide)) (by first | omega | exact Nat.lt_of_le_of_lt Nat.and_le_right (by decide) | exact Nat.lt_trans (nm_lt _ _) (by decide) | exact Nat.lt_trans (np_lt _ _) (by decide) | exact Nat.lt_trans (p_at_lt htx) (by decide))).mp c57
            refine lv_iconst (v := nI 0) hx hb dX7_does_73 (by decide) ?_
            subst hQ
            exact m_zret C0 (by decide) hS dX7_does_74 (u := (f, cnt)) hP (Or.inl ⟨rfl, by simp (config := { decide := true }) only [p_do, p_res, if_true, if_false, c57, if_true], rfl, rfl⟩)
          · have c57 : ¬ ((p_val b f) = 0) := fun qq9 => c57 ((nI_eq (a := (p_val b f)) (b := 0) (by first | omega | exact Nat.lt_of_le_of_lt Nat.and_le_right (by decide) | exact Nat.lt_trans (nm_lt _ _) (by decide) | exact Nat.lt_trans (np_lt _ _) (by decide) | exact Nat.lt_trans (p_at_lt htx) (by decide)) (by first | omega | exact Nat.lt_of_le_of_lt Nat.and_le_right (by decide) | exact Nat.lt_trans (nm_lt _ _) (by decide) | exact Nat.lt_trans (np_lt _ _) (by decide) | exact Nat.lt_trans (p_at_lt htx) (by decide))).mpr qq9)
            refine lv_aload_n hx hb dX7_does_60 rfl (lv_at hl 2 rfl) ?_
            refine va_get (D := D) (ci := 7) (v := .int (nI 126)) (C := RX7) (T := TX7) (N := 17) hx hb hts hwd1 hown hK hP 0 rfl rfl 11 (by decide) hwd2 (fun _ h9 => h9) rfl dX7_does_61 ?_
            refine lv_bipush (v := nI 47) hx hb dX7_does_64 (by decide) ?_
            refine lv_icmp_ne (tgt := 75) hx hb dX7_does_66 (by decide) (fun c66 => ?_) (fun c66 => ?_)
            · refine lv_aload_n hx hb dX7_does_75 rfl (lv_at hl 2 rfl) ?_
              refine va_get (D := D) (ci := 7) (v := .int (nI 126)) (C := RX7) (T := TX7) (N := 17) hx hb hts hwd1 hown hK hP 0 rfl rfl 11 (by decide) hwd2 (fun _ h9 => h9) rfl dX7_does_76 ?_
              refine lv_lookup (tgt := 136) hx hb dX7_does_79 (by decide +kernel) (off := 57) (by decide +kernel) (by decide) ?_
              refine lv_aload_n hx hb dX7_does_136 rfl (lv_at hl 2 rfl) ?_
              refine va_get (D := D) (ci := 7) (v := .ref va) (C := RX7) (T := TX7) (N := 17) hx hb hts hwd1 hown hK hP 0 rfl rfl 0 (by decide) hwd3 (fun _ h9 => h9) rfl dX7_does_137 ?_
              refine lv_aload_n hx hb dX7_does_140 rfl (lv_at hl 2 rfl) ?_
              refine va_get (D := D) (ci := 7) (v := .int (nI x)) (C := RX7) (T := TX7) (N := 17) hx hb hts hwd1 hown hK hP 0 rfl rfl 10 (by decide) hwd4 (fun _ h9 => h9) rfl dX7_does_141 ?_
              refine lv_iload_n hx hb dX7_does_144 rfl (lv_at hl 1 rfl) ?_
              refine m_callSi (As := [.int (nI (p_val b f))]) (rest := [.int (nI x), .ref va]) C0 hl hP hD hS (c_X7_inverted l D cY (p_val b f) (by first | assumption | omega | exact nm_lt _ _ | exact np_lt _ _ | decide)) (va_cwS 1 hts gX7_does_X7_inverted rfl rfl rfl (by decide +kernel) ⟨Nat.le_of_ble_eq_true rfl, Nat.le_of_ble_eq_true rfl⟩) dX7_does_145 [] rfl rfl rfl (Nat.le_of_ble_eq_true rfl) (Nat.zero_le _) (Nat.zero_le _) (fun _ => rfl) (fun r7 u H6 locs hw hP hD hS => ?_)
              try dsimp only at hw
              obtain rfl := hw
              have hP : va_P D vwCl [(mx, .inr (7, [.ref va, .ref vk, .ref vr, .int (nI rl), .ref vs, .int (nI ik), .int (nI th), .ref vt, .int (nI tl), .int (nI ta), .int (nI x), .int (nI 126), .int yo, .int (p_ref b), .int ye, .ref vc, .ref vb])), (va, .inl (cY 0, 9, .inl (m_nf (m_all f cnt))))] H6 := hP
              have hD : va_D A [(mx, .inr (7, [.ref va, .ref vk, .ref vr, .int (nI rl), .ref vs, .int (nI ik), .int (nI th), .ref vt, .int (nI tl), .int (nI ta), .int (nI x), .int (nI 126), .int yo, .int (p_ref b), .int ye, .ref vc, .ref vb])), (va, .inl (cY 0, 9, .inl (m_nf (m_all f cnt))))] := hD
              refine va_iast hx hb hK hP hD hS 1 0 rfl rfl (m_in (n := x) (by first | assumption | omega) (by decide)) dX7_does_148 (fun H8 locs hP hD hS => ?_)
              have hP : va_P D vwCl [(mx, .inr (7, [.ref va, .ref vk, .ref vr, .int (nI rl), .ref vs, .int (nI ik), .int (nI th), .ref vt, .int (nI tl), .int (nI ta), .int (nI x), .int (nI 126), .int yo, .int (p_ref b), .int ye, .ref vc, .ref vb])), (va, .inl (cY 0, 9, .inl (upd (m_nf (m_all f cnt)) (nI x).toNatClampNeg (nI (np (p_val b f) 65534)))))] H8 := hP
              have hD : va_D A [(mx, .inr (7, [.ref va, .ref vk, .ref vr, .int (nI rl), .ref vs, .int (nI ik), .int (nI th), .ref vt, .int (nI tl), .int (nI ta), .int (nI x), .int (nI 126), .int yo, .int (p_ref b), .int ye, .ref vc, .ref vb])), (va, .inl (cY 0, 9, .inl (upd (m_nf (m_all f cnt)) (nI x).toNatClampNeg (nI (np (p_val b f) 65534)))))] := hD
              rw [m_upd (g := m_all f cnt) (n := x) (v := np (p_val b f) 65534) (by omega)] at hP hD
              have hP : va_P D vwCl [(mx, .inr (7, [.ref va, .ref vk, .ref vr, .int (nI rl), .ref vs, .int (nI ik), .int (nI th), .ref vt, .int (nI tl), .int (nI ta), .int (nI x), .int (nI 126), .int yo, .int (p_ref b), .int ye, .ref vc, .ref vb])), (va, .inl (cY 0, 9, .inl (m_nf (m_up (m_all f cnt) x (np (p_val b f) 65534)))))] H8 := hP
              have hD : va_D A [(mx, .inr (7, [.ref va, .ref vk, .ref vr, .int (nI rl), .ref vs, .int (nI ik), .int (nI th), .ref vt, .int (nI tl), .int (nI ta), .int (nI x), .int (nI 126), .int yo, .int (p_ref b), .int ye, .ref vc, .ref vb])), (va, .inl (cY 0, 9, .inl (m_nf (m_up (m_all f cnt) x (np (p_val b f) 65534)))))] := hD
              rw [show m_nf (m_up (m_all f cnt) x (np (p_val b f) 65534)) = m_nf (m_all (m_up f x (np (p_val b f) 65534)) cnt) from congrArg m_nf (m_all_up ho1)] at hP hD
              have hP : va_P D vwCl [(mx, .inr (7, [.ref va, .ref vk, .ref vr, .int (nI rl), .ref vs, .int (nI ik), .int (nI th), .ref vt, .int (nI tl), .int (nI ta), .int (nI x), .int (nI 126), .int yo, .int (p_ref b), .int ye, .ref vc, .ref vb])), (va, .inl (cY 0, 9, .inl (m_nf (m_all (m_up f x (np (p_val b f) 65534)) cnt))))] H8 := hP
              have hD : va_D A [(mx, .inr (7, [.ref va, .ref vk, .ref vr, .int (nI rl), .ref vs, .int (nI ik), .int (nI th), .ref vt, .int (nI tl), .int (nI ta), .int (nI x), .int (nI 126), .int yo, .int (p_ref b), .int ye, .ref vc, .ref vb])), (va, .inl (cY 0, 9, .inl (m_nf (m_all (m_up f x (np (p_val b f) 65534)) cnt))))] := hD
              refine lv_goto (tgt := 258) hx hb dX7_does_149 (by decide) ?_
              refine lv_iconst (v := nI 1) hx hb dX7_does_258 (by decide) ?_
              subst hQ
              exact m_zret C0 (by decide) hS dX7_does_259 (u := (m_up f x (np (p_val b f) 65534), cnt)) hP (Or.inr ⟨rfl, by simp (config := { decide := true }) only [p_do, p_res, if_true, if_false, if_neg c57, nm_one (np_lt _ _)], m_zup hf8 ho1, m_up_lt hf16 (np_lt _ _)⟩)
            · exact absurd c66 (by decide)
      · exact absurd c22 (by decide)
  · skip
    have hP : va_P D vwCl [(mx, .inr (7, [.ref va, .ref vk, .ref vr, .int (nI rl), .ref vs, .int (nI ik), .int (nI th), .ref vt, .int (nI tl), .int (nI ta), .int (nI x), .int (nI 37), .int yo, .int (p_ref b), .int ye, .ref vc, .ref vb])), (va, .inl (cY 0, 9, .inl (m_nf (m_all f cnt))))] s.heap := hP
    have hD : va_D A [(mx, .inr (7, [.ref va, .ref vk, .ref vr, .int (nI rl), .ref vs, .int (nI ik), .int (nI th), .ref vt, .int (nI tl), .int (nI ta), .int (nI x), .int (nI 37), .int yo, .int (p_ref b), .int ye, .ref vc, .ref vb])), (va, .inl (cY 0, 9, .inl (m_nf (m_all f cnt))))] := hD
    refine lv_aload_n hx hb dX7_does_0 rfl (lv_at hl 0 rfl) ?_
    refine lv_aload_n hx hb dX7_does_1 rfl (lv_at hl 0 rfl) ?_
    refine va_get (D := D) (ci := 7) (v := .int (p_ref b)) (C := RX7) (T := TX7) (N := 17) hx hb hts hwd1 hown hK hP 0 rfl rfl 13 (by decide) hwd0 (fun _ h9 => h9) rfl dX7_does_2 ?_
    refine m_callVi (As := [.int (p_ref b)]) (rest := []) C0 hl hP hD hS (c_X7_valueOf l D cY mx va vk vr vs vt vc vb rl ik th tl ta (nI x) (nI 37) yo (p_ref b) ye f cnt b (by first | assumption | omega | exact nm_lt _ _ | exact np_lt _ _ | decide)) (cwV 1 hts gX7_does_X7_valueOf rfl rfl rfl (by decide +kernel) ⟨Nat.le_of_ble_eq_true rfl, Nat.le_of_ble_eq_true rfl⟩) dX7_does_5 [0, 1] rfl rfl 0 rfl rfl rfl rfl (Nat.le_of_ble_eq_true rfl) (Nat.zero_le _) (Nat.zero_le _) (fun _ => rfl) (fun r10 u H9 locs hw hP hD hS => ?_)
    try dsimp only at hw
    obtain rfl := hw
    have hP : va_P D vwCl [(mx, .inr (7, [.ref va, .ref vk, .ref vr, .int (nI rl), .ref vs, .int (nI ik), .int (nI th), .ref vt, .int (nI tl), .int (nI ta), .int (nI x), .int (nI 37), .int yo, .int (p_ref b), .int ye, .ref vc, .ref vb])), (va, .inl (cY 0, 9, .inl (m_nf (m_all f cnt))))] H9 := hP
    have hD : va_D A [(mx, .inr (7, [.ref va, .ref vk, .ref vr, .int (nI rl), .ref vs, .int (nI ik), .int (nI th), .ref vt, .int (nI tl), .int (nI ta), .int (nI x), .int (nI 37), .int yo, .int (p_ref b), .int ye, .ref vc, .ref vb])), (va, .inl (cY 0, 9, .inl (m_nf (m_all f cnt))))] := hD
    refine lv_istore_n (lv' := [(1, .int (nI (p_val b f))), (0, .ref mx)]) hx hb dX7_does_8 rfl hl (by decide) rfl (fun ls hl => ?_)
    refine lv_aload_n hx hb dX7_does_9 rfl (lv_at hl 1 rfl) ?_
    refine va_get (D := D) (ci := 7) (v := .int (nI 37)) (C := RX7) (T := TX7) (N := 17) hx hb hts hwd1 hown hK hP 0 rfl rfl 11 (by decide) hwd2 (fun _ h9 => h9) rfl dX7_does_10 ?_
    refine lv_if_eq (tgt := 34) hx hb dX7_does_13 (by decide) (fun c13 => ?_) (fun c13 => ?_)
    · exact absurd c13 (by decide)
    · refine lv_aload_n hx hb dX7_does_16 rfl (lv_at hl 1 rfl) ?_
      refine va_get (D := D) (ci := 7) (v := .int (nI 37)) (C := RX7) (T := TX7) (N := 17) hx hb hts hwd1 hown hK hP 0 rfl rfl 11 (by decide) hwd2 (fun _ h9 => h9) rfl dX7_does_17 ?_
      refine lv_bipush (v := nI 126) hx hb dX7_does_20 (by decide) ?_
      refine lv_icmp_eq (tgt := 34) hx hb dX7_does_22 (by decide) (fun c22 => ?_) (fun c22 => ?_)
      · exact absurd c22 (by decide)
      · refine lv_aload_n hx hb dX7_does_25 rfl (lv_at hl 1 rfl) ?_
        refine va_get (D := D) (ci := 7) (v := .int (nI 37)) (C := RX7) (T := TX7) (N := 17) hx hb hts hwd1 hown hK hP 0 rfl rfl 11 (by decide) hwd2 (fun _ h9 => h9) rfl dX7_does_26 ?_
        refine lv_bipush (v := nI 37) hx hb dX7_does_29 (by decide) ?_
        refine lv_icmp_ne (tgt := 38) hx hb dX7_does_31 (by decide) (fun c31 => ?_) (fun c31 => ?_)
        · exact absurd c31 (by decide)
        · refine lv_iconst (v := nI 0) hx hb dX7_does_34 (by decide) ?_
          refine lv_goto (tgt := 46) hx hb dX7_does_35 (by decide) ?_
          refine lv_istore_n (lv' := [(2, .int (nI 0)), (1, .int (nI (p_val b f))), (0, .ref mx)]) hx hb dX7_does_46 rfl hl (by decide) rfl (fun ls hl => ?_)
          refine lv_aload_n hx hb dX7_does_47 rfl (lv_at hl 2 rfl) ?_
          refine va_get (D := D) (ci := 7) (v := .int (nI 37)) (C := RX7) (T := TX7) (N := 17) hx hb hts hwd1 hown hK hP 0 rfl rfl 11 (by decide) hwd2 (fun _ h9 => h9) rfl dX7_does_48 ?_
          refine lv_bipush (v := nI 126) hx hb dX7_does_51 (by decide) ?_
          refine lv_icmp_ne (tgt := 60) hx hb dX7_does_53 (by decide) (fun c53 => ?_) (fun c53 => ?_)
          · refine lv_aload_n hx hb dX7_does_60 rfl (lv_at hl 2 rfl) ?_
            refine va_get (D := D) (ci := 7) (v := .int (nI 37)) (C := RX7) (T := TX7) (N := 17) hx hb hts hwd1 hown hK hP 0 rfl rfl 11 (by decide) hwd2 (fun _ h9 => h9) rfl dX7_does_61 ?_
            refine lv_bipush (v := nI 47) hx hb dX7_does_64 (by decide) ?_
            refine lv_icmp_ne (tgt := 75) hx hb dX7_does_66 (by decide) (fun c66 => ?_) (fun c66 => ?_)
            · refine lv_aload_n hx hb dX7_does_75 rfl (lv_at hl 2 rfl) ?_
              refine va_get (D := D) (ci := 7) (v := .int (nI 37)) (C := RX7) (T := TX7) (N := 17) hx hb hts hwd1 hown hK hP 0 rfl rfl 11 (by decide) hwd2 (fun _ h9 => h9) rfl dX7_does_76 ?_
              refine lv_lookup (tgt := 152) hx hb dX7_does_79 (by decide +kernel) (off := 73) (by decide +kernel) (by decide) ?_
              refine lv_aload_n hx hb dX7_does_152 rfl (lv_at hl 2 rfl) ?_
              refine va_get (D := D) (ci := 7) (v := .ref va) (C := RX7) (T := TX7) (N := 17) hx hb hts hwd1 hown hK hP 0 rfl rfl 0 (by decide) hwd3 (fun _ h9 => h9) rfl dX7_does_153 ?_
              refine lv_aload_n hx hb dX7_does_156 rfl (lv_at hl 2 rfl) ?_
              refine va_get (D := D) (ci := 7) (v := .int (nI x)) (C := RX7) (T := TX7) (N := 17) hx hb hts hwd1 hown hK hP 0 rfl rfl 10 (by decide) hwd4 (fun _ h9 => h9) rfl dX7_does_157 ?_
              refine lv_iload_n hx hb dX7_does_160 rfl (lv_at hl 1 rfl) ?_
              refine m_callSi (As := [.int (nI (p_val b f))]) (rest := [.int (nI x), .ref va]) C0 hl hP hD hS (c_X7_root l D cY (p_val b f) (by first | assumption | omega | exact nm_lt _ _ | exact np_lt _ _ | decide)) (va_cwS 1 hts gX7_does_X7_root rfl rfl rfl (by decide +kernel) ⟨Nat.le_of_ble_eq_true rfl, Nat.le_of_ble_eq_true rfl⟩) dX7_does_161 [] rfl rfl rfl (Nat.le_of_ble_eq_true rfl) (Nat.zero_le _) (Nat.zero_le _) (fun _ => rfl) (fun r12 u H11 locs hw hP hD hS => ?_)
              try dsimp only at hw
              obtain rfl := hw
              have hP : va_P D vwCl [(mx, .inr (7, [.ref va, .ref vk, .ref vr, .int (nI rl), .ref vs, .int (nI ik), .int (nI th), .ref vt, .int (nI tl), .int (nI ta), .int (nI x), .int (nI 37), .int yo, .int (p_ref b), .int ye, .ref vc, .ref vb])), (va, .inl (cY 0, 9, .inl (m_nf (m_all f cnt))))] H11 := hP
              have hD : va_D A [(mx, .inr (7, [.ref va, .ref vk, .ref vr, .int (nI rl), .ref vs, .int (nI ik), .int (nI th), .ref vt, .int (nI tl), .int (nI ta), .int (nI x), .int (nI 37), .int yo, .int (p_ref b), .int ye, .ref vc, .ref vb])), (va, .inl (cY 0, 9, .inl (m_nf (m_all f cnt))))] := hD
              refine va_iast hx hb hK hP hD hS 1 0 rfl rfl (m_in (n := x) (by first | assumption | omega) (by decide)) dX7_does_164 (fun H13 locs hP hD hS => ?_)
              have hP : va_P D vwCl [(mx, .inr (7, [.ref va, .ref vk, .ref vr, .int (nI rl), .ref vs, .int (nI ik), .int (nI th), .ref vt, .int (nI tl), .int (nI ta), .int (nI x), .int (nI 37), .int yo, .int (p_ref b), .int ye, .ref vc, .ref vb])), (va, .inl (cY 0, 9, .inl (upd (m_nf (m_all f cnt)) (nI x).toNatClampNeg (nI (np (p_val b f) 32768)))))] H13 := hP
              have hD : va_D A [(mx, .inr (7, [.ref va, .ref vk, .ref vr, .int (nI rl), .ref vs, .int (nI ik), .int (nI th), .ref vt, .int (nI tl), .int (nI ta), .int (nI x), .int (nI 37), .int yo, .int (p_ref b), .int ye, .ref vc, .ref vb])), (va, .inl (cY 0, 9, .inl (upd (m_nf (m_all f cnt)) (nI x).toNatClampNeg (nI (np (p_val b f) 32768)))))] := hD
              rw [m_upd (g := m_all f cnt) (n := x) (v := np (p_val b f) 32768) (by omega)] at hP hD
              have hP : va_P D vwCl [(mx, .inr (7, [.ref va, .ref vk, .ref vr, .int (nI rl), .ref vs, .int (nI ik), .int (nI th), .ref vt, .int (nI tl), .int (nI ta), .int (nI x), .int (nI 37), .int yo, .int (p_ref b), .int ye, .ref vc, .ref vb])), (va, .inl (cY 0, 9, .inl (m_nf (m_up (m_all f cnt) x (np (p_val b f) 32768)))))] H13 := hP
              have hD : va_D A [(mx, .inr (7, [.ref va, .ref vk, .ref vr, .int (nI rl), .ref vs, .int (nI ik), .int (nI th), .ref vt, .int (nI tl), .int (nI ta), .int (nI x), .int (nI 37), .int yo, .int (p_ref b), .int ye, .ref vc, .ref vb])), (va, .inl (cY 0, 9, .inl (m_nf (m_up (m_all f cnt) x (np (p_val b f) 32768)))))] := hD
              rw [show m_nf (m_up (m_all f cnt) x (np (p_val b f) 32768)) = m_nf (m_all (m_up f x (np (p_val b f) 32768)) cnt) from congrArg m_nf (m_all_up ho1)] at hP hD
              have hP : va_P D vwCl [(mx, .inr (7, [.ref va, .ref vk, .ref vr, .int (nI rl), .ref vs, .int (nI ik), .int (nI th), .ref vt, .int (nI tl), .int (nI ta), .int (nI x), .int (nI 37), .int yo, .int (p_ref b), .int ye, .ref vc, .ref vb])), (va, .inl (cY 0, 9, .inl (m_nf (m_all (m_up f x (np (p_val b f) 32768)) cnt))))] H13 := hP
              have hD : va_D A [(mx, .inr (7, [.ref va, .ref vk, .ref vr, .int (nI rl), .ref vs, .int (nI ik), .int (nI th), .ref vt, .int (nI tl), .int (nI ta), .int (nI x), .int (nI 37), .int yo, .int (p_ref b), .int ye, .ref vc, .ref vb])), (va, .inl (cY 0, 9, .inl (m_nf (m_all (m_up f x (np (p_val b f) 32768)) cnt))))] := hD
              refine lv_goto (tgt := 258) hx hb dX7_does_165 (by decide) ?_
              refine lv_iconst (v := nI 1) hx hb dX7_does_258 (by decide) ?_
              subst hQ
              exact m_zret C0 (by decide) hS dX7_does_259 (u := (m_up f x (np (p_val b f) 32768), cnt)) hP (Or.inr ⟨rfl, by simp (config := { decide := true }) only [p_do, p_res, if_true, if_false], m_zup hf8 ho1, m_up_lt hf16 (np_lt _ _)⟩)
            · exact absurd c66 (by decide)
          · exact absurd c53 (by decide)
  · skip
    have hP : va_P D vwCl [(mx, .inr (7, [.ref va, .ref vk, .ref vr, .int (nI rl), .ref vs, .int (nI ik), .int (nI th), .ref vt, .int (nI tl), .int (nI ta), .int (nI x), .int (nI 43), .int yo, .int (p_ref b), .int (p_ref d), .ref vc, .ref vb])), (va, .inl (cY 0, 9, .inl (m_nf (m_all f cnt))))] s.heap := hP
    have hD : va_D A [(mx, .inr (7, [.ref va, .ref vk, .ref vr, .int (nI rl), .ref vs, .int (nI ik), .int (nI th), .ref vt, .int (nI tl), .int (nI ta), .int (nI x), .int (nI 43), .int yo, .int (p_ref b), .int (p_ref d), .ref vc, .ref vb])), (va, .inl (cY 0, 9, .inl (m_nf (m_all f cnt))))] := hD
    refine lv_aload_n hx hb dX7_does_0 rfl (lv_at hl 0 rfl) ?_
    refine lv_aload_n hx hb dX7_does_1 rfl (lv_at hl 0 rfl) ?_
    refine va_get (D := D) (ci := 7) (v := .int (p_ref b)) (C := RX7) (T := TX7) (N := 17) hx hb hts hwd1 hown hK hP 0 rfl rfl 13 (by decide) hwd0 (fun _ h9 => h9) rfl dX7_does_2 ?_
    refine m_callVi (As := [.int (p_ref b)]) (rest := []) C0 hl hP hD hS (c_X7_valueOf l D cY mx va vk vr vs vt vc vb rl ik th tl ta (nI x) (nI 43) yo (p_ref b) (p_ref d) f cnt b (by first | assumption | omega | exact nm_lt _ _ | exact np_lt _ _ | decide)) (cwV 1 hts gX7_does_X7_valueOf rfl rfl rfl (by decide +kernel) ⟨Nat.le_of_ble_eq_true rfl, Nat.le_of_ble_eq_true rfl⟩) dX7_does_5 [0, 1] rfl rfl 0 rfl rfl rfl rfl (Nat.le_of_ble_eq_true rfl) (Nat.zero_le _) (Nat.zero_le _) (fun _ => rfl) (fun r15 u H14 locs hw hP hD hS => ?_)
    try dsimp only at hw
    obtain rfl := hw
    have hP : va_P D vwCl [(mx, .inr (7, [.ref va, .ref vk, .ref vr, .int (nI rl), .ref vs, .int (nI ik), .int (nI th), .ref vt, .int (nI tl), .int (nI ta), .int (nI x), .int (nI 43), .int yo, .int (p_ref b), .int (p_ref d), .ref vc, .ref vb])), (va, .inl (cY 0, 9, .inl (m_nf (m_all f cnt))))] H14 := hP
    have hD : va_D A [(mx, .inr (7, [.ref va, .ref vk, .ref vr, .int (nI rl), .ref vs, .int (nI ik), .int (nI th), .ref vt, .int (nI tl), .int (nI ta), .int (nI x), .int (nI 43), .int yo, .int (p_ref b), .int (p_ref d), .ref vc, .ref vb])), (va, .inl (cY 0, 9, .inl (m_nf (m_all f cnt))))] := hD
    refine lv_istore_n (lv' := [(1, .int (nI (p_val b f))), (0, .ref mx)]) hx hb dX7_does_8 rfl hl (by decide) rfl (fun ls hl => ?_)
    refine lv_aload_n hx hb dX7_does_9 rfl (lv_at hl 1 rfl) ?_
    refine va_get (D := D) (ci := 7) (v := .int (nI 43)) (C := RX7) (T := TX7) (N := 17) hx hb hts hwd1 hown hK hP 0 rfl rfl 11 (by decide) hwd2 (fun _ h9 => h9) rfl dX7_does_10 ?_
    refine lv_if_eq (tgt := 34) hx hb dX7_does_13 (by decide) (fun c13 => ?_) (fun c13 => ?_)
    · exact absurd c13 (by decide)
    · refine lv_aload_n hx hb dX7_does_16 rfl (lv_at hl 1 rfl) ?_
      refine va_get (D := D) (ci := 7) (v := .int (nI 43)) (C := RX7) (T := TX7) (N := 17) hx hb hts hwd1 hown hK hP 0 rfl rfl 11 (by decide) hwd2 (fun _ h9 => h9) rfl dX7_does_17 ?_
      refine lv_bipush (v := nI 126) hx hb dX7_does_20 (by decide) ?_
      refine lv_icmp_eq (tgt := 34) hx hb dX7_does_22 (by decide) (fun c22 => ?_) (fun c22 => ?_)
      · exact absurd c22 (by decide)
      · refine lv_aload_n hx hb dX7_does_25 rfl (lv_at hl 1 rfl) ?_
        refine va_get (D := D) (ci := 7) (v := .int (nI 43)) (C := RX7) (T := TX7) (N := 17) hx hb hts hwd1 hown hK hP 0 rfl rfl 11 (by decide) hwd2 (fun _ h9 => h9) rfl dX7_does_26 ?_
        refine lv_bipush (v := nI 37) hx hb dX7_does_29 (by decide) ?_
        refine lv_icmp_ne (tgt := 38) hx hb dX7_does_31 (by decide) (fun c31 => ?_) (fun c31 => ?_)
        · refine lv_aload_n hx hb dX7_does_38 rfl (lv_at hl 1 rfl) ?_
          refine lv_aload_n hx hb dX7_does_39 rfl (lv_at hl 1 rfl) ?_
          refine va_get (D := D) (ci := 7) (v := .int (p_ref d)) (C := RX7) (T := TX7) (N := 17) hx hb hts hwd1 hown hK hP 0 rfl rfl 14 (by decide) hwd5 (fun _ h9 => h9) rfl dX7_does_40 ?_
          refine m_callVi (As := [.int (p_ref d)]) (rest := []) C0 hl hP hD hS (c_X7_valueOf l D cY mx va vk vr vs vt vc vb rl ik th tl ta (nI x) (nI 43) yo (p_ref b) (p_ref d) f cnt d (by first | assumption | omega | exact nm_lt _ _ | exact np_lt _ _ | decide)) (cwV 1 hts gX7_does_X7_valueOf rfl rfl rfl (by decide +kernel) ⟨Nat.le_of_ble_eq_true rfl, Nat.le_of_ble_eq_true rfl⟩) dX7_does_43 [0, 1] rfl rfl 0 rfl rfl rfl rfl (Nat.le_of_ble_eq_true rfl) (Nat.zero_le _) (Nat.zero_le _) (fun _ => rfl) (fun r17 u H16 locs hw hP hD hS => ?_)
          try dsimp only at hw
          obtain rfl := hw
          have hP : va_P D vwCl [(mx, .inr (7, [.ref va, .ref vk, .ref vr, .int (nI rl), .ref vs, .int (nI ik), .int (nI th), .ref vt, .int (nI tl), .int (nI ta), .int (nI x), .int (nI 43), .int yo, .int (p_ref b), .int (p_ref d), .ref vc, .ref vb])), (va, .inl (cY 0, 9, .inl (m_nf (m_all f cnt))))] H16 := hP
          have hD : va_D A [(mx, .inr (7, [.ref va, .ref vk, .ref vr, .int (nI rl), .ref vs, .int (nI ik), .int (nI th), .ref vt, .int (nI tl), .int (nI ta), .int (nI x), .int (nI 43), .int yo, .int (p_ref b), .int (p_ref d), .ref vc, .ref vb])), (va, .inl (cY 0, 9, .inl (m_nf (m_all f cnt))))] := hD
          refine lv_istore_n (lv' := [(2, .int (nI (p_val d f))), (1, .int (nI (p_val b f))), (0, .ref mx)]) hx hb dX7_does_46 rfl hl (by decide) rfl (fun ls hl => ?_)
          refine lv_aload_n hx hb dX7_does_47 rfl (lv_at hl 2 rfl) ?_
          refine va_get (D := D) (ci := 7) (v := .int (nI 43)) (C := RX7) (T := TX7) (N := 17) hx hb hts hwd1 hown hK hP 0 rfl rfl 11 (by decide) hwd2 (fun _ h9 => h9) rfl dX7_does_48 ?_
          refine lv_bipush (v := nI 126) hx hb dX7_does_51 (by decide) ?_
          refine lv_icmp_ne (tgt := 60) hx hb dX7_does_53 (by decide) (fun c53 => ?_) (fun c53 => ?_)
          · refine lv_aload_n hx hb dX7_does_60 rfl (lv_at hl 2 rfl) ?_
            refine va_get (D := D) (ci := 7) (v := .int (nI 43)) (C := RX7) (T := TX7) (N := 17) hx hb hts hwd1 hown hK hP 0 rfl rfl 11 (by decide) hwd2 (fun _ h9 => h9) rfl dX7_does_61 ?_
            refine lv_bipush (v := nI 47) hx hb dX7_does_64 (by decide) ?_
            refine lv_icmp_ne (tgt := 75) hx hb dX7_does_66 (by decide) (fun c66 => ?_) (fun c66 => ?_)
            · refine lv_aload_n hx hb dX7_does_75 rfl (lv_at hl 2 rfl) ?_
              refine va_get (D := D) (ci := 7) (v := .int (nI 43)) (C := RX7) (T := TX7) (N := 17) hx hb hts hwd1 hown hK hP 0 rfl rfl 11 (by decide) hwd2 (fun _ h9 => h9) rfl dX7_does_76 ?_
              refine lv_lookup (tgt := 168) hx hb dX7_does_79 (by decide +kernel) (off := 89) (by decide +kernel) (by decide) ?_
              refine lv_aload_n hx hb dX7_does_168 rfl (lv_at hl 2 rfl) ?_
              refine va_get (D := D) (ci := 7) (v := .ref va) (C := RX7) (T := TX7) (N := 17) hx hb hts hwd1 hown hK hP 0 rfl rfl 0 (by decide) hwd3 (fun _ h9 => h9) rfl dX7_does_169 ?_
              refine lv_aload_n hx hb dX7_does_172 rfl (lv_at hl 2 rfl) ?_
              refine va_get (D := D) (ci := 7) (v := .int (nI x)) (C := RX7) (T := TX7) (N := 17) hx hb hts hwd1 hown hK hP 0 rfl rfl 10 (by decide) hwd4 (fun _ h9 => h9) rfl dX7_does_173 ?_
              refine lv_iload_n hx hb dX7_does_176 rfl (lv_at hl 1 rfl) ?_
              refine lv_iload_n hx hb dX7_does_177 rfl (lv_at hl 0 rfl) ?_
              refine lv_ixor hx hb dX7_does_178 ?_
              refine lv_topi (nm_r (nx_xor _ _) ?_)
              refine va_iast hx hb hK hP hD hS 1 0 rfl rfl (m_in (n := x) (by first | assumption | omega) (by decide)) dX7_does_179 (fun H18 locs hP hD hS => ?_)
              have hP : va_P D vwCl [(mx, .inr (7, [.ref va, .ref vk, .ref vr, .int (nI rl), .ref vs, .int (nI ik), .int (nI th), .ref vt, .int (nI tl), .int (nI ta), .int (nI x), .int (nI 43), .int yo, .int (p_ref b), .int (p_ref d), .ref vc, .ref vb])), (va, .inl (cY 0, 9, .inl (upd (m_nf (m_all f cnt)) (nI x).toNatClampNeg (nI ((p_val b f) ^^^ (p_val d f))))))] H18 := hP
              have hD : va_D A [(mx, .inr (7, [.ref va, .ref vk, .ref vr, .int (nI rl), .ref vs, .int (nI ik), .int (nI th), .ref vt, .int (nI tl), .int (nI ta), .int (nI x), .int (nI 43), .int yo, .int (p_ref b), .int (p_ref d), .ref vc, .ref vb])), (va, .inl (cY 0, 9, .inl (upd (m_nf (m_all f cnt)) (nI x).toNatClampNeg (nI ((p_val b f) ^^^ (p_val d f))))))] := hD
              rw [m_upd (g := m_all f cnt) (n := x) (v := (p_val b f) ^^^ (p_val d f)) (by omega)] at hP hD
              have hP : va_P D vwCl [(mx, .inr (7, [.ref va, .ref vk, .ref vr, .int (nI rl), .ref vs, .int (nI ik), .int (nI th), .ref vt, .int (nI tl), .int (nI ta), .int (nI x), .int (nI 43), .int yo, .int (p_ref b), .int (p_ref d), .ref vc, .ref vb])), (va, .inl (cY 0, 9, .inl (m_nf (m_up (m_all f cnt) x ((p_val b f) ^^^ (p_val d f))))))] H18 := hP
              have hD : va_D A [(mx, .inr (7, [.ref va, .ref vk, .ref vr, .int (nI rl), .ref vs, .int (nI ik), .int (nI th), .ref vt, .int (nI tl), .int (nI ta), .int (nI x), .int (nI 43), .int yo, .int (p_ref b), .int (p_ref d), .ref vc, .ref vb])), (va, .inl (cY 0, 9, .inl (m_nf (m_up (m_all f cnt) x ((p_val b f) ^^^ (p_val d f))))))] := hD
              rw [show m_nf (m_up (m_all f cnt) x ((p_val b f) ^^^ (p_val d f))) = m_nf (m_all (m_up f x ((p_val b f) ^^^ (p_val d f))) cnt) from congrArg m_nf (m_all_up ho1)] at hP hD
              have hP : va_P D vwCl [(mx, .inr (7, [.ref va, .ref vk, .ref vr, .int (nI rl), .ref vs, .int (nI ik), .int (nI th), .ref vt, .int (nI tl), .int (nI ta), .int (nI x), .int (nI 43), .int yo, .int (p_ref b), .int (p_ref d), .ref vc, .ref vb])), (va, .inl (cY 0, 9, .inl (m_nf (m_all (m_up f x ((p_val b f) ^^^ (p_val d f))) cnt))))] H18 := hP
              have hD : va_D A [(mx, .inr (7, [.ref va, .ref vk, .ref vr, .int (nI rl), .ref vs, .int (nI ik), .int (nI th), .ref vt, .int (nI tl), .int (nI ta), .int (nI x), .int (nI 43), .int yo, .int (p_ref b), .int (p_ref d), .ref vc, .ref vb])), (va, .inl (cY 0, 9, .inl (m_nf (m_all (m_up f x ((p_val b f) ^^^ (p_val d f))) cnt))))] := hD
              refine lv_goto (tgt := 258) hx hb dX7_does_180 (by decide) ?_
              refine lv_iconst (v := nI 1) hx hb dX7_does_258 (by decide) ?_
              subst hQ
              exact m_zret C0 (by decide) hS dX7_does_259 (u := (m_up f x ((p_val b f) ^^^ (p_val d f)), cnt)) hP (Or.inr ⟨rfl, by simp (config := { decide := true }) only [p_do, p_res, if_true, if_false], m_zup hf8 ho1, m_up_lt hf16 (n_x16 hb16 hd16)⟩)
            · exact absurd c66 (by decide)
          · exact absurd c53 (by decide)
        · exact absurd c31 (by decide)
  · skip
    have hP : va_P D vwCl [(mx, .inr (7, [.ref va, .ref vk, .ref vr, .int (nI rl), .ref vs, .int (nI ik), .int (nI th), .ref vt, .int (nI tl), .int (nI ta), .int (nI x), .int (nI 42), .int yo, .int (p_ref b), .int (p_ref d), .ref vc, .ref vb])), (va, .inl (cY 0, 9, .inl (m_nf (m_all f cnt))))] s.heap := hP
    have hD : va_D A [(mx, .inr (7, [.ref va, .ref vk, .ref vr, .int (nI rl), .ref vs, .int (nI ik), .int (nI th), .ref vt, .int (nI tl), .int (nI ta), .int (nI x), .int (nI 42), .int yo, .int (p_ref b), .int (p_ref d), .ref vc, .ref vb])), (va, .inl (cY 0, 9, .inl (m_nf (m_all f cnt))))] := hD
    refine lv_aload_n hx hb dX7_does_0 rfl (lv_at hl 0 rfl) ?_
    refine lv_aload_n hx hb dX7_does_1 rfl (lv_at hl 0 rfl) ?_
    refine va_get (D := D) (ci := 7) (v := .int (p_ref b)) (C := RX7) (T := TX7) (N := 17) hx hb hts hwd1 hown hK hP 0 rfl rfl 13 (by decide) hwd0 (fun _ h9 => h9) rfl dX7_does_2 ?_
    refine m_callVi (As := [.int (p_ref b)]) (rest := []) C0 hl hP hD hS (c_X7_valueOf l D cY mx va vk vr vs vt vc vb rl ik th tl ta (nI x) (nI 42) yo (p_ref b) (p_ref d) f cnt b (by first | assumption | omega | exact nm_lt _ _ | exact np_lt _ _ | decide)) (cwV 1 hts gX7_does_X7_valueOf rfl rfl rfl (by decide +kernel) ⟨Nat.le_of_ble_eq_true rfl, Nat.le_of_ble_eq_true rfl⟩) dX7_does_5 [0, 1] rfl rfl 0 rfl rfl rfl rfl (Nat.le_of_ble_eq_true rfl) (Nat.zero_le _) (Nat.zero_le _) (fun _ => rfl) (fun r20 u H19 locs hw hP hD hS => ?_)
    try dsimp only at hw
    obtain rfl := hw
    have hP : va_P D vwCl [(mx, .inr (7, [.ref va, .ref vk, .ref vr, .int (nI rl), .ref vs, .int (nI ik), .int (nI th), .ref vt, .int (nI tl), .int (nI ta), .int (nI x), .int (nI 42), .int yo, .int (p_ref b), .int (p_ref d), .ref vc, .ref vb])), (va, .inl (cY 0, 9, .inl (m_nf (m_all f cnt))))] H19 := hP
    have hD : va_D A [(mx, .inr (7, [.ref va, .ref vk, .ref vr, .int (nI rl), .ref vs, .int (nI ik), .int (nI th), .ref vt, .int (nI tl), .int (nI ta), .int (nI x), .int (nI 42), .int yo, .int (p_ref b), .int (p_ref d), .ref vc, .ref vb])), (va, .inl (cY 0, 9, .inl (m_nf (m_all f cnt))))] := hD
    refine lv_istore_n (lv' := [(1, .int (nI (p_val b f))), (0, .ref mx)]) hx hb dX7_does_8 rfl hl (by decide) rfl (fun ls hl => ?_)
    refine lv_aload_n hx hb dX7_does_9 rfl (lv_at hl 1 rfl) ?_
    refine va_get (D := D) (ci := 7) (v := .int (nI 42)) (C := RX7) (T := TX7) (N := 17) hx hb hts hwd1 hown hK hP 0 rfl rfl 11 (by decide) hwd2 (fun _ h9 => h9) rfl dX7_does_10 ?_
    refine lv_if_eq (tgt := 34) hx hb dX7_does_13 (by decide) (fun c13 => ?_) (fun c13 => ?_)
    · exact absurd c13 (by decide)
    · refine lv_aload_n hx hb dX7_does_16 rfl (lv_at hl 1 rfl) ?_
      refine va_get (D := D) (ci := 7) (v := .int (nI 42)) (C := RX7) (T := TX7) (N := 17) hx hb hts hwd1 hown hK hP 0 rfl rfl 11 (by decide) hwd2 (fun _ h9 => h9) rfl dX7_does_17 ?_
      refine lv_bipush (v := nI 126) hx hb dX7_does_20 (by decide) ?_
      refine lv_icmp_eq (tgt := 34) hx hb dX7_does_22 (by decide) (fun c22 => ?_) (fun c22 => ?_)
      · exact absurd c22 (by decide)
      · refine lv_aload_n hx hb dX7_does_25 rfl (lv_at hl 1 rfl) ?_
        refine va_get (D := D) (ci := 7) (v := .int (nI 42)) (C := RX7) (T := TX7) (N := 17) hx hb hts hwd1 hown hK hP 0 rfl rfl 11 (by decide) hwd2 (fun _ h9 => h9) rfl dX7_does_26 ?_
        refine lv_bipush (v := nI 37) hx hb dX7_does_29 (by decide) ?_
        refine lv_icmp_ne (tgt := 38) hx hb dX7_does_31 (by decide) (fun c31 => ?_) (fun c31 => ?_)
        · refine lv_aload_n hx hb dX7_does_38 rfl (lv_at hl 1 rfl) ?_
          refine lv_aload_n hx hb dX7_does_39 rfl (lv_at hl 1 rfl) ?_
          refine va_get (D := D) (ci := 7) (v := .int (p_ref d)) (C := RX7) (T := TX7) (N := 17) hx hb hts hwd1 hown hK hP 0 rfl rfl 14 (by decide) hwd5 (fun _ h9 => h9) rfl dX7_does_40 ?_
          refine m_callVi (As := [.int (p_ref d)]) (rest := []) C0 hl hP hD hS (c_X7_valueOf l D cY mx va vk vr vs vt vc vb rl ik th tl ta (nI x) (nI 42) yo (p_ref b) (p_ref d) f cnt d (by first | assumption | omega | exact nm_lt _ _ | exact np_lt _ _ | decide)) (cwV 1 hts gX7_does_X7_valueOf rfl rfl rfl (by decide +kernel) ⟨Nat.le_of_ble_eq_true rfl, Nat.le_of_ble_eq_true rfl⟩) dX7_does_43 [0, 1] rfl rfl 0 rfl rfl rfl rfl (Nat.le_of_ble_eq_true rfl) (Nat.zero_le _) (Nat.zero_le _) (fun _ => rfl) (fun r22 u H21 locs hw hP hD hS => ?_)
          try dsimp only at hw
          obtain rfl := hw
          have hP : va_P D vwCl [(mx, .inr (7, [.ref va, .ref vk, .ref vr, .int (nI rl), .ref vs, .int (nI ik), .int (nI th), .ref vt, .int (nI tl), .int (nI ta), .int (nI x), .int (nI 42), .int yo, .int (p_ref b), .int (p_ref d), .ref vc, .ref vb])), (va, .inl (cY 0, 9, .inl (m_nf (m_all f cnt))))] H21 := hP
          have hD : va_D A [(mx, .inr (7, [.ref va, .ref vk, .ref vr, .int (nI rl), .ref vs, .int (nI ik), .int (nI th), .ref vt, .int (nI tl), .int (nI ta), .int (nI x), .int (nI 42), .int yo, .int (p_ref b), .int (p_ref d), .ref vc, .ref vb])), (va, .inl (cY 0, 9, .inl (m_nf (m_all f cnt))))] := hD
          refine lv_istore_n (lv' := [(2, .int (nI (p_val d f))), (1, .int (nI (p_val b f))), (0, .ref mx)]) hx hb dX7_does_46 rfl hl (by decide) rfl (fun ls hl => ?_)
          refine lv_aload_n hx hb dX7_does_47 rfl (lv_at hl 2 rfl) ?_
          refine va_get (D := D) (ci := 7) (v := .int (nI 42)) (C := RX7) (T := TX7) (N := 17) hx hb hts hwd1 hown hK hP 0 rfl rfl 11 (by decide) hwd2 (fun _ h9 => h9) rfl dX7_does_48 ?_
          refine lv_bipush (v := nI 126) hx hb dX7_does_51 (by decide) ?_
          refine lv_icmp_ne (tgt := 60) hx hb dX7_does_53 (by decide) (fun c53 => ?_) (fun c53 => ?_)
          · refine lv_aload_n hx hb dX7_does_60 rfl (lv_at hl 2 rfl) ?_
            refine va_get (D := D) (ci := 7) (v := .int (nI 42)) (C := RX7) (T := TX7) (N := 17) hx hb hts hwd1 hown hK hP 0 rfl rfl 11 (by decide) hwd2 (fun _ h9 => h9) rfl dX7_does_61 ?_
            refine lv_bipush (v := nI 47) hx hb dX7_does_64 (by decide) ?_
            refine lv_icmp_ne (tgt := 75) hx hb dX7_does_66 (by decide) (fun c66 => ?_) (fun c66 => ?_)
            · refine lv_aload_n hx hb dX7_does_75 rfl (lv_at hl 2 rfl) ?_
              refine va_get (D := D) (ci := 7) (v := .int (nI 42)) (C := RX7) (T := TX7) (N := 17) hx hb hts hwd1 hown hK hP 0 rfl rfl 11 (by decide) hwd2 (fun _ h9 => h9) rfl dX7_does_76 ?_
              refine lv_lookup (tgt := 183) hx hb dX7_does_79 (by decide +kernel) (off := 104) (by decide +kernel) (by decide) ?_
              refine lv_aload_n hx hb dX7_does_183 rfl (lv_at hl 2 rfl) ?_
              refine va_get (D := D) (ci := 7) (v := .ref va) (C := RX7) (T := TX7) (N := 17) hx hb hts hwd1 hown hK hP 0 rfl rfl 0 (by decide) hwd3 (fun _ h9 => h9) rfl dX7_does_184 ?_
              refine lv_aload_n hx hb dX7_does_187 rfl (lv_at hl 2 rfl) ?_
              refine va_get (D := D) (ci := 7) (v := .int (nI x)) (C := RX7) (T := TX7) (N := 17) hx hb hts hwd1 hown hK hP 0 rfl rfl 10 (by decide) hwd4 (fun _ h9 => h9) rfl dX7_does_188 ?_
              refine lv_iload_n hx hb dX7_does_191 rfl (lv_at hl 1 rfl) ?_
              refine lv_iload_n hx hb dX7_does_192 rfl (lv_at hl 0 rfl) ?_
              refine m_callSi (As := [.int (nI (p_val b f)), .int (nI (p_val d f))]) (rest := [.int (nI x), .ref va]) C0 hl hP hD hS (c_X7_times l D cY (p_val b f) (p_val d f) (by first | assumption | omega | exact nm_lt _ _ | exact np_lt _ _ | decide) (by first | assumption | omega | exact nm_lt _ _ | exact np_lt _ _ | decide)) (va_cwS 2 hts gX7_does_X7_times rfl rfl rfl (by decide +kernel) ⟨Nat.le_of_ble_eq_true rfl, Nat.le_of_ble_eq_true rfl⟩) dX7_does_193 [] rfl rfl rfl (Nat.le_of_ble_eq_true rfl) (Nat.zero_le _) (Nat.zero_le _) (fun _ => rfl) (fun r24 u H23 locs hw hP hD hS => ?_)
              try dsimp only at hw
              obtain rfl := hw
              have hP : va_P D vwCl [(mx, .inr (7, [.ref va, .ref vk, .ref vr, .int (nI rl), .ref vs, .int (nI ik), .int (nI th), .ref vt, .int (nI tl), .int (nI ta), .int (nI x), .int (nI 42), .int yo, .int (p_ref b), .int (p_ref d), .ref vc, .ref vb])), (va, .inl (cY 0, 9, .inl (m_nf (m_all f cnt))))] H23 := hP
              have hD : va_D A [(mx, .inr (7, [.ref va, .ref vk, .ref vr, .int (nI rl), .ref vs, .int (nI ik), .int (nI th), .ref vt, .int (nI tl), .int (nI ta), .int (nI x), .int (nI 42), .int yo, .int (p_ref b), .int (p_ref d), .ref vc, .ref vb])), (va, .inl (cY 0, 9, .inl (m_nf (m_all f cnt))))] := hD
              refine va_iast hx hb hK hP hD hS 1 0 rfl rfl (m_in (n := x) (by first | assumption | omega) (by decide)) dX7_does_196 (fun H25 locs hP hD hS => ?_)
              have hP : va_P D vwCl [(mx, .inr (7, [.ref va, .ref vk, .ref vr, .int (nI rl), .ref vs, .int (nI ik), .int (nI th), .ref vt, .int (nI tl), .int (nI ta), .int (nI x), .int (nI 42), .int yo, .int (p_ref b), .int (p_ref d), .ref vc, .ref vb])), (va, .inl (cY 0, 9, .inl (upd (m_nf (m_all f cnt)) (nI x).toNatClampNeg (nI (nm (p_val b f) (p_val d f))))))] H25 := hP
              have hD : va_D A [(mx, .inr (7, [.ref va, .ref vk, .ref vr, .int (nI rl), .ref vs, .int (nI ik), .int (nI th), .ref vt, .int (nI tl), .int (nI ta), .int (nI x), .int (nI 42), .int yo, .int (p_ref b), .int (p_ref d), .ref vc, .ref vb])), (va, .inl (cY 0, 9, .inl (upd (m_nf (m_all f cnt)) (nI x).toNatClampNeg (nI (nm (p_val b f) (p_val d f))))))] := hD
              rw [m_upd (g := m_all f cnt) (n := x) (v := nm (p_val b f) (p_val d f)) (by omega)] at hP hD
              have hP : va_P D vwCl [(mx, .inr (7, [.ref va, .ref vk, .ref vr, .int (nI rl), .ref vs, .int (nI ik), .int (nI th), .ref vt, .int (nI tl), .int (nI ta), .int (nI x), .int (nI 42), .int yo, .int (p_ref b), .int (p_ref d), .ref vc, .ref vb])), (va, .inl (cY 0, 9, .inl (m_nf (m_up (m_all f cnt) x (nm (p_val b f) (p_val d f))))))] H25 := hP
              have hD : va_D A [(mx, .inr (7, [.ref va, .ref vk, .ref vr, .int (nI rl), .ref vs, .int (nI ik), .int (nI th), .ref vt, .int (nI tl), .int (nI ta), .int (nI x), .int (nI 42), .int yo, .int (p_ref b), .int (p_ref d), .ref vc, .ref vb])), (va, .inl (cY 0, 9, .inl (m_nf (m_up (m_all f cnt) x (nm (p_val b f) (p_val d f))))))] := hD
              rw [show m_nf (m_up (m_all f cnt) x (nm (p_val b f) (p_val d f))) = m_nf (m_all (m_up f x (nm (p_val b f) (p_val d f))) cnt) from congrArg m_nf (m_all_up ho1)] at hP hD
              have hP : va_P D vwCl [(mx, .inr (7, [.ref va, .ref vk, .ref vr, .int (nI rl), .ref vs, .int (nI ik), .int (nI th), .ref vt, .int (nI tl), .int (nI ta), .int (nI x), .int (nI 42), .int yo, .int (p_ref b), .int (p_ref d), .ref vc, .ref vb])), (va, .inl (cY 0, 9, .inl (m_nf (m_all (m_up f x (nm (p_val b f) (p_val d f))) cnt))))] H25 := hP
              have hD : va_D A [(mx, .inr (7, [.ref va, .ref vk, .ref vr, .int (nI rl), .ref vs, .int (nI ik), .int (nI th), .ref vt, .int (nI tl), .int (nI ta), .int (nI x), .int (nI 42), .int yo, .int (p_ref b), .int (p_ref d), .ref vc, .ref vb])), (va, .inl (cY 0, 9, .inl (m_nf (m_all (m_up f x (nm (p_val b f) (p_val d f))) cnt))))] := hD
              refine lv_aload_n hx hb dX7_does_197 rfl (lv_at hl 2 rfl) ?_
              refine va_get (D := D) (ci := 7) (v := .ref va) (C := RX7) (T := TX7) (N := 17) hx hb hts hwd1 hown hK hP 0 rfl rfl 0 (by decide) hwd3 (fun _ h9 => h9) rfl dX7_does_198 ?_
              refine lv_bipush (v := nI 8) hx hb dX7_does_201 (by decide) ?_
              refine lv_dup2_11 hx hb dX7_does_203 rfl rfl ?_
              refine va_iald hx hb hK hP 1 0 rfl rfl (m_in (n := 8) (by first | assumption | omega) (by decide)) dX7_does_204 ?_
              refine lv_topi (nm_r (m_ldn (g := m_all (m_up f x (nm (p_val b f) (p_val d f))) cnt) (n := 8) (by omega)) ?_)
              refine lv_topi (nm_r (congrArg nI (m_all8 (m_up f x (nm (p_val b f) (p_val d f))) cnt)) ?_)
              refine lv_iconst (v := nI 1) hx hb dX7_does_205 (by decide) ?_
              refine lv_iadd hx hb dX7_does_206 ?_
              refine lv_topi (nm_r (nI_add _ _) ?_)
              refine va_iast hx hb hK hP hD hS 1 0 rfl rfl (m_in (n := 8) (by first | assumption | omega) (by decide)) dX7_does_207 (fun H26 locs hP hD hS => ?_)
              have hP : va_P D vwCl [(mx, .inr (7, [.ref va, .ref vk, .ref vr, .int (nI rl), .ref vs, .int (nI ik), .int (nI th), .ref vt, .int (nI tl), .int (nI ta), .int (nI x), .int (nI 42), .int yo, .int (p_ref b), .int (p_ref d), .ref vc, .ref vb])), (va, .inl (cY 0, 9, .inl (upd (m_nf (m_all (m_up f x (nm (p_val b f) (p_val d f))) cnt)) (nI 8).toNatClampNeg (nI (cnt + 1)))))] H26 := hP
              have hD : va_D A [(mx, .inr (7, [.ref va, .ref vk, .ref vr, .int (nI rl), .ref vs, .int (nI ik), .int (nI th), .ref vt, .int (nI tl), .int (nI ta), .int (nI x), .int (nI 42), .int yo, .int (p_ref b), .int (p_ref d), .ref vc, .ref vb])), (va, .inl (cY 0, 9, .inl (upd (m_nf (m_all (m_up f x (nm (p_val b f) (p_val d f))) cnt)) (nI 8).toNatClampNeg (nI (cnt + 1)))))] := hD
              rw [m_upd (g := m_all (m_up f x (nm (p_val b f) (p_val d f))) cnt) (n := 8) (v := cnt + 1) (by omega)] at hP hD
              have hP : va_P D vwCl [(mx, .inr (7, [.ref va, .ref vk, .ref vr, .int (nI rl), .ref vs, .int (nI ik), .int (nI th), .ref vt, .int (nI tl), .int (nI ta), .int (nI x), .int (nI 42), .int yo, .int (p_ref b), .int (p_ref d), .ref vc, .ref vb])), (va, .inl (cY 0, 9, .inl (m_nf (m_up (m_all (m_up f x (nm (p_val b f) (p_val d f))) cnt) 8 (cnt + 1)))))] H26 := hP
              have hD : va_D A [(mx, .inr (7, [.ref va, .ref vk, .ref vr, .int (nI rl), .ref vs, .int (nI ik), .int (nI th), .ref vt, .int (nI tl), .int (nI ta), .int (nI x), .int (nI 42), .int yo, .int (p_ref b), .int (p_ref d), .ref vc, .ref vb])), (va, .inl (cY 0, 9, .inl (m_nf (m_up (m_all (m_up f x (nm (p_val b f) (p_val d f))) cnt) 8 (cnt + 1)))))] := hD
              rw [show m_nf (m_up (m_all (m_up f x (nm (p_val b f) (p_val d f))) cnt) 8 (cnt + 1)) = m_nf (m_all (m_up f x (nm (p_val b f) (p_val d f))) (cnt + 1)) from congrArg m_nf (m_all_up8 (m_up f x (nm (p_val b f) (p_val d f))) cnt (cnt + 1))] at hP hD
              have hP : va_P D vwCl [(mx, .inr (7, [.ref va, .ref vk, .ref vr, .int (nI rl), .ref vs, .int (nI ik), .int (nI th), .ref vt, .int (nI tl), .int (nI ta), .int (nI x), .int (nI 42), .int yo, .int (p_ref b), .int (p_ref d), .ref vc, .ref vb])), (va, .inl (cY 0, 9, .inl (m_nf (m_all (m_up f x (nm (p_val b f) (p_val d f))) (cnt + 1)))))] H26 := hP
              have hD : va_D A [(mx, .inr (7, [.ref va, .ref vk, .ref vr, .int (nI rl), .ref vs, .int (nI ik), .int (nI th), .ref vt, .int (nI tl), .int (nI ta), .int (nI x), .int (nI 42), .int yo, .int (p_ref b), .int (p_ref d), .ref vc, .ref vb])), (va, .inl (cY 0, 9, .inl (m_nf (m_all (m_up f x (nm (p_val b f) (p_val d f))) (cnt + 1)))))] := hD
              refine lv_goto (tgt := 258) hx hb dX7_does_208 (by decide) ?_
              refine lv_iconst (v := nI 1) hx hb dX7_does_258 (by decide) ?_
              subst hQ
              exact m_zret C0 (by decide) hS dX7_does_259 (u := (m_up f x (nm (p_val b f) (p_val d f)), cnt + 1)) hP (Or.inr ⟨rfl, by simp (config := { decide := true }) only [p_do, p_res, if_true, if_false], m_zup hf8 ho1, m_up_lt hf16 (nm_lt _ _)⟩)
            · exact absurd c66 (by decide)
          · exact absurd c53 (by decide)
        · exact absurd c31 (by decide)
  · skip
    have hP : va_P D vwCl [(mx, .inr (7, [.ref va, .ref vk, .ref vr, .int (nI rl), .ref vs, .int (nI ik), .int (nI th), .ref vt, .int (nI tl), .int (nI ta), .int (nI x), .int (nI 47), .int yo, .int (p_ref b), .int (p_ref d), .ref vc, .ref vb])), (va, .inl (cY 0, 9, .inl (m_nf (m_all f cnt))))] s.heap := hP
    have hD : va_D A [(mx, .inr (7, [.ref va, .ref vk, .ref vr, .int (nI rl), .ref vs, .int (nI ik), .int (nI th), .ref vt, .int (nI tl), .int (nI ta), .int (nI x), .int (nI 47), .int yo, .int (p_ref b), .int (p_ref d), .ref vc, .ref vb])), (va, .inl (cY 0, 9, .inl (m_nf (m_all f cnt))))] := hD
    refine lv_aload_n hx hb dX7_does_0 rfl (lv_at hl 0 rfl) ?_
    refine lv_aload_n hx hb dX7_does_1 rfl (lv_at hl 0 rfl) ?_
    refine va_get (D := D) (ci := 7) (v := .int (p_ref b)) (C := RX7) (T := TX7) (N := 17) hx hb hts hwd1 hown hK hP 0 rfl rfl 13 (by decide) hwd0 (fun _ h9 => h9) rfl dX7_does_2 ?_
    refine m_callVi (As := [.int (p_ref b)]) (rest := []) C0 hl hP hD hS (c_X7_valueOf l D cY mx va vk vr vs vt vc vb rl ik th tl ta (nI x) (nI 47) yo (p_ref b) (p_ref d) f cnt b (by first | assumption | omega | exact nm_lt _ _ | exact np_lt _ _ | decide)) (cwV 1 hts gX7_does_X7_valueOf rfl rfl rfl (by decide +kernel) ⟨Nat.le_of_ble_eq_true rfl, Nat.le_of_ble_eq_true rfl⟩) dX7_does_5 [0, 1] rfl rfl 0 rfl rfl rfl rfl (Nat.le_of_ble_eq_true rfl) (Nat.zero_le _) (Nat.zero_le _) (fun _ => rfl) (fun r28 u H27 locs hw hP hD hS => ?_)
    try dsimp only at hw
    obtain rfl := hw
    have hP : va_P D vwCl [(mx, .inr (7, [.ref va, .ref vk, .ref vr, .int (nI rl), .ref vs, .int (nI ik), .int (nI th), .ref vt, .int (nI tl), .int (nI ta), .int (nI x), .int (nI 47), .int yo, .int (p_ref b), .int (p_ref d), .ref vc, .ref vb])), (va, .inl (cY 0, 9, .inl (m_nf (m_all f cnt))))] H27 := hP
    have hD : va_D A [(mx, .inr (7, [.ref va, .ref vk, .ref vr, .int (nI rl), .ref vs, .int (nI ik), .int (nI th), .ref vt, .int (nI tl), .int (nI ta), .int (nI x), .int (nI 47), .int yo, .int (p_ref b), .int (p_ref d), .ref vc, .ref vb])), (va, .inl (cY 0, 9, .inl (m_nf (m_all f cnt))))] := hD
    refine lv_istore_n (lv' := [(1, .int (nI (p_val b f))), (0, .ref mx)]) hx hb dX7_does_8 rfl hl (by decide) rfl (fun ls hl => ?_)
    refine lv_aload_n hx hb dX7_does_9 rfl (lv_at hl 1 rfl) ?_
    refine va_get (D := D) (ci := 7) (v := .int (nI 47)) (C := RX7) (T := TX7) (N := 17) hx hb hts hwd1 hown hK hP 0 rfl rfl 11 (by decide) hwd2 (fun _ h9 => h9) rfl dX7_does_10 ?_
    refine lv_if_eq (tgt := 34) hx hb dX7_does_13 (by decide) (fun c13 => ?_) (fun c13 => ?_)
    · exact absurd c13 (by decide)
    · refine lv_aload_n hx hb dX7_does_16 rfl (lv_at hl 1 rfl) ?_
      refine va_get (D := D) (ci := 7) (v := .int (nI 47)) (C := RX7) (T := TX7) (N := 17) hx hb hts hwd1 hown hK hP 0 rfl rfl 11 (by decide) hwd2 (fun _ h9 => h9) rfl dX7_does_17 ?_
      refine lv_bipush (v := nI 126) hx hb dX7_does_20 (by decide) ?_
      refine lv_icmp_eq (tgt := 34) hx hb dX7_does_22 (by decide) (fun c22 => ?_) (fun c22 => ?_)
      · exact absurd c22 (by decide)
      · refine lv_aload_n hx hb dX7_does_25 rfl (lv_at hl 1 rfl) ?_
        refine va_get (D := D) (ci := 7) (v := .int (nI 47)) (C := RX7) (T := TX7) (N := 17) hx hb hts hwd1 hown hK hP 0 rfl rfl 11 (by decide) hwd2 (fun _ h9 => h9) rfl dX7_does_26 ?_
        refine lv_bipush (v := nI 37) hx hb dX7_does_29 (by decide) ?_
        refine lv_icmp_ne (tgt := 38) hx hb dX7_does_31 (by decide) (fun c31 => ?_) (fun c31 => ?_)
        · refine lv_aload_n hx hb dX7_does_38 rfl (lv_at hl 1 rfl) ?_
          refine lv_aload_n hx hb dX7_does_39 rfl (lv_at hl 1 rfl) ?_
          refine va_get (D := D) (ci := 7) (v := .int (p_ref d)) (C := RX7) (T := TX7) (N := 17) hx hb hts hwd1 hown hK hP 0 rfl rfl 14 (by decide) hwd5 (fun _ h9 => h9) rfl dX7_does_40 ?_
          refine m_callVi (As := [.int (p_ref d)]) (rest := []) C0 hl hP hD hS (c_X7_valueOf l D cY mx va vk vr vs vt vc vb rl ik th tl ta (nI x) (nI 47) yo (p_ref b) (p_ref d) f cnt d (by first | assumption | omega | exact nm_lt _ _ | exact np_lt _ _ | decide)) (cwV 1 hts gX7_does_X7_valueOf rfl rfl rfl (by decide +kernel) ⟨Nat.le_of_ble_eq_true rfl, Nat.le_of_ble_eq_true rfl⟩) dX7_does_43 [0, 1] rfl rfl 0 rfl rfl rfl rfl (Nat.le_of_ble_eq_true rfl) (Nat.zero_le _) (Nat.zero_le _) (fun _ => rfl) (fun r30 u H29 locs hw hP hD hS => ?_)
          try dsimp only at hw
          obtain rfl := hw
          have hP : va_P D vwCl [(mx, .inr (7, [.ref va, .ref vk, .ref vr, .int (nI rl), .ref vs, .int (nI ik), .int (nI th), .ref vt, .int (nI tl), .int (nI ta), .int (nI x), .int (nI 47), .int yo, .int (p_ref b), .int (p_ref d), .ref vc, .ref vb])), (va, .inl (cY 0, 9, .inl (m_nf (m_all f cnt))))] H29 := hP
          have hD : va_D A [(mx, .inr (7, [.ref va, .ref vk, .ref vr, .int (nI rl), .ref vs, .int (nI ik), .int (nI th), .ref vt, .int (nI tl), .int (nI ta), .int (nI x), .int (nI 47), .int yo, .int (p_ref b), .int (p_ref d), .ref vc, .ref vb])), (va, .inl (cY 0, 9, .inl (m_nf (m_all f cnt))))] := hD
          refine lv_istore_n (lv' := [(2, .int (nI (p_val d f))), (1, .int (nI (p_val b f))), (0, .ref mx)]) hx hb dX7_does_46 rfl hl (by decide) rfl (fun ls hl => ?_)
          refine lv_aload_n hx hb dX7_does_47 rfl (lv_at hl 2 rfl) ?_
          refine va_get (D := D) (ci := 7) (v := .int (nI 47)) (C := RX7) (T := TX7) (N := 17) hx hb hts hwd1 hown hK hP 0 rfl rfl 11 (by decide) hwd2 (fun _ h9 => h9) rfl dX7_does_48 ?_
          refine lv_bipush (v := nI 126) hx hb dX7_does_51 (by decide) ?_
          refine lv_icmp_ne (tgt := 60) hx hb dX7_does_53 (by decide) (fun c53 => ?_) (fun c53 => ?_)
          · refine lv_aload_n hx hb dX7_does_60 rfl (lv_at hl 2 rfl) ?_
            refine va_get (D := D) (ci := 7) (v := .int (nI 47)) (C := RX7) (T := TX7) (N := 17) hx hb hts hwd1 hown hK hP 0 rfl rfl 11 (by decide) hwd2 (fun _ h9 => h9) rfl dX7_does_61 ?_
            refine lv_bipush (v := nI 47) hx hb dX7_does_64 (by decide) ?_
            refine lv_icmp_ne (tgt := 75) hx hb dX7_does_66 (by decide) (fun c66 => ?_) (fun c66 => ?_)
            · exact absurd c66 (by decide)
            · refine lv_iload_n hx hb dX7_does_69 rfl (lv_at hl 0 rfl) ?_
              refine lv_if_ne (tgt := 75) hx hb dX7_does_70 (by decide) (fun c70 => ?_) (fun c70 => ?_)
              · have c70 : ¬ ((p_val d f) = 0) := fun qq9 => c70 ((nI_eq (a := (p_val d f)) (b := 0) (by first | omega | exact Nat.lt_of_le_of_lt Nat.and_le_right (by decide) | exact Nat.lt_trans (nm_lt _ _) (by decide) | exact Nat.lt_trans (np_lt _ _) (by decide) | exact Nat.lt_trans (p_at_lt htx) (by decide)) (by first | omega | exact Nat.lt_of_le_of_lt Nat.and_le_right (by decide) | exact Nat.lt_trans (nm_lt _ _) (by decide) | exact Nat.lt_trans (np_lt _ _) (by decide) | exact Nat.lt_trans (p_at_lt htx) (by decide))).mpr qq9)
                refine lv_aload_n hx hb dX7_does_75 rfl (lv_at hl 2 rfl) ?_
                refine va_get (D := D) (ci := 7) (v := .int (nI 47)) (C := RX7) (T := TX7) (N := 17) hx hb hts hwd1 hown hK hP 0 rfl rfl 11 (by decide) hwd2 (fun _ h9 => h9) rfl dX7_does_76 ?_
                refine lv_lookup (tgt := 211) hx hb dX7_does_79 (by decide +kernel) (off := 132) (by decide +kernel) (by decide) ?_
                refine lv_aload_n hx hb dX7_does_211 rfl (lv_at hl 2 rfl) ?_
                refine va_get (D := D) (ci := 7) (v := .ref va) (C := RX7) (T := TX7) (N := 17) hx hb hts hwd1 hown hK hP 0 rfl rfl 0 (by decide) hwd3 (fun _ h9 => h9) rfl dX7_does_212 ?_
                refine lv_aload_n hx hb dX7_does_215 rfl (lv_at hl 2 rfl) ?_
                refine va_get (D := D) (ci := 7) (v := .int (nI x)) (C := RX7) (T := TX7) (N := 17) hx hb hts hwd1 hown hK hP 0 rfl rfl 10 (by decide) hwd4 (fun _ h9 => h9) rfl dX7_does_216 ?_
                refine lv_iload_n hx hb dX7_does_219 rfl (lv_at hl 1 rfl) ?_
                refine lv_iload_n hx hb dX7_does_220 rfl (lv_at hl 0 rfl) ?_
                refine m_callSi (As := [.int (nI (p_val d f))]) (rest := [.int (nI (p_val b f)), .int (nI x), .ref va]) C0 hl hP hD hS (c_X7_inverted l D cY (p_val d f) (by first | assumption | omega | exact nm_lt _ _ | exact np_lt _ _ | decide)) (va_cwS 1 hts gX7_does_X7_inverted rfl rfl rfl (by decide +kernel) ⟨Nat.le_of_ble_eq_true rfl, Nat.le_of_ble_eq_true rfl⟩) dX7_does_221 [] rfl rfl rfl (Nat.le_of_ble_eq_true rfl) (Nat.zero_le _) (Nat.zero_le _) (fun _ => rfl) (fun r32 u H31 locs hw hP hD hS => ?_)
                try dsimp only at hw
                obtain rfl := hw
                have hP : va_P D vwCl [(mx, .inr (7, [.ref va, .ref vk, .ref vr, .int (nI rl), .ref vs, .int (nI ik), .int (nI th), .ref vt, .int (nI tl), .int (nI ta), .int (nI x), .int (nI 47), .int yo, .int (p_ref b), .int (p_ref d), .ref vc, .ref vb])), (va, .inl (cY 0, 9, .inl (m_nf (m_all f cnt))))] H31 := hP
                have hD : va_D A [(mx, .inr (7, [.ref va, .ref vk, .ref vr, .int (nI rl), .ref vs, .int (nI ik), .int (nI th), .ref vt, .int (nI tl), .int (nI ta), .int (nI x), .int (nI 47), .int yo, .int (p_ref b), .int (p_ref d), .ref vc, .ref vb])), (va, .inl (cY 0, 9, .inl (m_nf (m_all f cnt))))] := hD
                refine m_callSi (As := [.int (nI (p_val b f)), .int (nI (np (p_val d f) 65534))]) (rest := [.int (nI x), .ref va]) C0 hl hP hD hS (c_X7_times l D cY (p_val b f) (np (p_val d f) 65534) (by first | assumption | omega | exact nm_lt _ _ | exact np_lt _ _ | decide) (by first | assumption | omega | exact nm_lt _ _ | exact np_lt _ _ | decide)) (va_cwS 2 hts gX7_does_X7_times rfl rfl rfl (by decide +kernel) ⟨Nat.le_of_ble_eq_true rfl, Nat.le_of_ble_eq_true rfl⟩) dX7_does_224 [] rfl rfl rfl (Nat.le_of_ble_eq_true rfl) (Nat.zero_le _) (Nat.zero_le _) (fun _ => rfl) (fun r34 u H33 locs hw hP hD hS => ?_)
                try dsimp only at hw
                obtain rfl := hw
                have hP : va_P D vwCl [(mx, .inr (7, [.ref va, .ref vk, .ref vr, .int (nI rl), .ref vs, .int (nI ik), .int (nI th), .ref vt, .int (nI tl), .int (nI ta), .int (nI x), .int (nI 47), .int yo, .int (p_ref b), .int (p_ref d), .ref vc, .ref vb])), (va, .inl (cY 0, 9, .inl (m_nf (m_all f cnt))))] H33 := hP
                have hD : va_D A [(mx, .inr (7, [.ref va, .ref vk, .ref vr, .int (nI rl), .ref vs, .int (nI ik), .int (nI th), .ref vt, .int (nI tl), .int (nI ta), .int (nI x), .int (nI 47), .int yo, .int (p_ref b), .int (p_ref d), .ref vc, .ref vb])), (va, .inl (cY 0, 9, .inl (m_nf (m_all f cnt))))] := hD
                refine va_iast hx hb hK hP hD hS 1 0 rfl rfl (m_in (n := x) (by first | assumption | omega) (by decide)) dX7_does_227 (fun H35 locs hP hD hS => ?_)
                have hP : va_P D vwCl [(mx, .inr (7, [.ref va, .ref vk, .ref vr, .int (nI rl), .ref vs, .int (nI ik), .int (nI th), .ref vt, .int (nI tl), .int (nI ta), .int (nI x), .int (nI 47), .int yo, .int (p_ref b), .int (p_ref d), .ref vc, .ref vb])), (va, .inl (cY 0, 9, .inl (upd (m_nf (m_all f cnt)) (nI x).toNatClampNeg (nI (nm (p_val b f) (np (p_val d f) 65534))))))] H35 := hP
                have hD : va_D A [(mx, .inr (7, [.ref va, .ref vk, .ref vr, .int (nI rl), .ref vs, .int (nI ik), .int (nI th), .ref vt, .int (nI tl), .int (nI ta), .int (nI x), .int (nI 47), .int yo, .int (p_ref b), .int (p_ref d), .ref vc, .ref vb])), (va, .inl (cY 0, 9, .inl (upd (m_nf (m_all f cnt)) (nI x).toNatClampNeg (nI (nm (p_val b f) (np (p_val d f) 65534))))))] := hD
                rw [m_upd (g := m_all f cnt) (n := x) (v := nm (p_val b f) (np (p_val d f) 65534)) (by omega)] at hP hD
                have hP : va_P D vwCl [(mx, .inr (7, [.ref va, .ref vk, .ref vr, .int (nI rl), .ref vs, .int (nI ik), .int (nI th), .ref vt, .int (nI tl), .int (nI ta), .int (nI x), .int (nI 47), .int yo, .int (p_ref b), .int (p_ref d), .ref vc, .ref vb])), (va, .inl (cY 0, 9, .inl (m_nf (m_up (m_all f cnt) x (nm (p_val b f) (np (p_val d f) 65534))))))] H35 := hP
                have hD : va_D A [(mx, .inr (7, [.ref va, .ref vk, .ref vr, .int (nI rl), .ref vs, .int (nI ik), .int (nI th), .ref vt, .int (nI tl), .int (nI ta), .int (nI x), .int (nI 47), .int yo, .int (p_ref b), .int (p_ref d), .ref vc, .ref vb])), (va, .inl (cY 0, 9, .inl (m_nf (m_up (m_all f cnt) x (nm (p_val b f) (np (p_val d f) 65534))))))] := hD
                rw [show m_nf (m_up (m_all f cnt) x (nm (p_val b f) (np (p_val d f) 65534))) = m_nf (m_all (m_up f x (nm (p_val b f) (np (p_val d f) 65534))) cnt) from congrArg m_nf (m_all_up ho1)] at hP hD
                have hP : va_P D vwCl [(mx, .inr (7, [.ref va, .ref vk, .ref vr, .int (nI rl), .ref vs, .int (nI ik), .int (nI th), .ref vt, .int (nI tl), .int (nI ta), .int (nI x), .int (nI 47), .int yo, .int (p_ref b), .int (p_ref d), .ref vc, .ref vb])), (va, .inl (cY 0, 9, .inl (m_nf (m_all (m_up f x (nm (p_val b f) (np (p_val d f) 65534))) cnt))))] H35 := hP
                have hD : va_D A [(mx, .inr (7, [.ref va, .ref vk, .ref vr, .int (nI rl), .ref vs, .int (nI ik), .int (nI th), .ref vt, .int (nI tl), .int (nI ta), .int (nI x), .int (nI 47), .int yo, .int (p_ref b), .int (p_ref d), .ref vc, .ref vb])), (va, .inl (cY 0, 9, .inl (m_nf (m_all (m_up f x (nm (p_val b f) (np (p_val d f) 65534))) cnt))))] := hD
                refine lv_goto (tgt := 258) hx hb dX7_does_228 (by decide) ?_
                refine lv_iconst (v := nI 1) hx hb dX7_does_258 (by decide) ?_
                subst hQ
                exact m_zret C0 (by decide) hS dX7_does_259 (u := (m_up f x (nm (p_val b f) (np (p_val d f) 65534)), cnt)) hP (Or.inr ⟨rfl, by simp (config := { decide := true }) only [p_do, p_res, if_true, if_false, if_neg c70], m_zup hf8 ho1, m_up_lt hf16 (nm_lt _ _)⟩)
              · have c70 : (p_val d f) = 0 := (nI_eq (a := (p_val d f)) (b := 0) (by first | omega | exact Nat.lt_of_le_of_lt Nat.and_le_right (by decide) | exact Nat.lt_trans (nm_lt _ _) (by decide) | exact Nat.lt_trans (np_lt _ _) (by decide) | exact Nat.lt_trans (p_at_lt htx) (by decide)) (by first | omega | exact Nat.lt_of_le_of_lt Nat.and_le_right (by decide) | exact Nat.lt_trans (nm_lt _ _) (by decide) | exact Nat.lt_trans (np_lt _ _) (by decide) | exact Nat.lt_trans (p_at_lt htx) (by decide))).mp c70
                refine lv_iconst (v := nI 0) hx hb dX7_does_73 (by decide) ?_
                subst hQ
                exact m_zret C0 (by decide) hS dX7_does_74 (u := (f, cnt)) hP (Or.inl ⟨rfl, by simp (config := { decide := true }) only [p_do, p_res, if_true, if_false, c70, if_true], rfl, rfl⟩)
          · exact absurd c53 (by decide)
        · exact absurd c31 (by decide)
  · skip
    have hP : va_P D vwCl [(mx, .inr (7, [.ref va, .ref vk, .ref vr, .int (nI rl), .ref vs, .int (nI ik), .int (nI th), .ref vt, .int (nI tl), .int (nI ta), .int (nI x), .int (nI 94), .int yo, .int (p_ref b), .int (p_ref d), .ref vc, .ref vb])), (va, .inl (cY 0, 9, .inl (m_nf (m_all f cnt))))] s.heap := hP
    have hD : va_D A [(mx, .inr (7, [.ref va, .ref vk, .ref vr, .int (nI rl), .ref vs, .int (nI ik), .int (nI th), .ref vt, .int (nI tl), .int (nI ta), .int (nI x), .int (nI 94), .int yo, .int (p_ref b), .int (p_ref d), .ref vc, .ref vb])), (va, .inl (cY 0, 9, .inl (m_nf (m_all f cnt))))] := hD
    refine lv_aload_n hx hb dX7_does_0 rfl (lv_at hl 0 rfl) ?_
    refine lv_aload_n hx hb dX7_does_1 rfl (lv_at hl 0 rfl) ?_
    refine va_get (D := D) (ci := 7) (v := .int (p_ref b)) (C := RX7) (T := TX7) (N := 17) hx hb hts hwd1 hown hK hP 0 rfl rfl 13 (by decide) hwd0 (fun _ h9 => h9) rfl dX7_does_2 ?_
    refine m_callVi (As := [.int (p_ref b)]) (rest := []) C0 hl hP hD hS (c_X7_valueOf l D cY mx va vk vr vs vt vc vb rl ik th tl ta (nI x) (nI 94) yo (p_ref b) (p_ref d) f cnt b (by first | assumption | omega | exact nm_lt _ _ | exact np_lt _ _ | decide)) (cwV 1 hts gX7_does_X7_valueOf rfl rfl rfl (by decide +kernel) ⟨Nat.le_of_ble_eq_true rfl, Nat.le_of_ble_eq_true rfl⟩) dX7_does_5 [0, 1] rfl rfl 0 rfl rfl rfl rfl (Nat.le_of_ble_eq_true rfl) (Nat.zero_le _) (Nat.zero_le _) (fun _ => rfl) (fun r37 u H36 locs hw hP hD hS => ?_)
    try dsimp only at hw
    obtain rfl := hw
    have hP : va_P D vwCl [(mx, .inr (7, [.ref va, .ref vk, .ref vr, .int (nI rl), .ref vs, .int (nI ik), .int (nI th), .ref vt, .int (nI tl), .int (nI ta), .int (nI x), .int (nI 94), .int yo, .int (p_ref b), .int (p_ref d), .ref vc, .ref vb])), (va, .inl (cY 0, 9, .inl (m_nf (m_all f cnt))))] H36 := hP
    have hD : va_D A [(mx, .inr (7, [.ref va, .ref vk, .ref vr, .int (nI rl), .ref vs, .int (nI ik), .int (nI th), .ref vt, .int (nI tl), .int (nI ta), .int (nI x), .int (nI 94), .int yo, .int (p_ref b), .int (p_ref d), .ref vc, .ref vb])), (va, .inl (cY 0, 9, .inl (m_nf (m_all f cnt))))] := hD
    refine lv_istore_n (lv' := [(1, .int (nI (p_val b f))), (0, .ref mx)]) hx hb dX7_does_8 rfl hl (by decide) rfl (fun ls hl => ?_)
    refine lv_aload_n hx hb dX7_does_9 rfl (lv_at hl 1 rfl) ?_
    refine va_get (D := D) (ci := 7) (v := .int (nI 94)) (C := RX7) (T := TX7) (N := 17) hx hb hts hwd1 hown hK hP 0 rfl rfl 11 (by decide) hwd2 (fun _ h9 => h9) rfl dX7_does_10 ?_
    refine lv_if_eq (tgt := 34) hx hb dX7_does_13 (by decide) (fun c13 => ?_) (fun c13 => ?_)
    · exact absurd c13 (by decide)
    · refine lv_aload_n hx hb dX7_does_16 rfl (lv_at hl 1 rfl) ?_
      refine va_get (D := D) (ci := 7) (v := .int (nI 94)) (C := RX7) (T := TX7) (N := 17) hx hb hts hwd1 hown hK hP 0 rfl rfl 11 (by decide) hwd2 (fun _ h9 => h9) rfl dX7_does_17 ?_
      refine lv_bipush (v := nI 126) hx hb dX7_does_20 (by decide) ?_
      refine lv_icmp_eq (tgt := 34) hx hb dX7_does_22 (by decide) (fun c22 => ?_) (fun c22 => ?_)
      · exact absurd c22 (by decide)
      · refine lv_aload_n hx hb dX7_does_25 rfl (lv_at hl 1 rfl) ?_
        refine va_get (D := D) (ci := 7) (v := .int (nI 94)) (C := RX7) (T := TX7) (N := 17) hx hb hts hwd1 hown hK hP 0 rfl rfl 11 (by decide) hwd2 (fun _ h9 => h9) rfl dX7_does_26 ?_
        refine lv_bipush (v := nI 37) hx hb dX7_does_29 (by decide) ?_
        refine lv_icmp_ne (tgt := 38) hx hb dX7_does_31 (by decide) (fun c31 => ?_) (fun c31 => ?_)
        · refine lv_aload_n hx hb dX7_does_38 rfl (lv_at hl 1 rfl) ?_
          refine lv_aload_n hx hb dX7_does_39 rfl (lv_at hl 1 rfl) ?_
          refine va_get (D := D) (ci := 7) (v := .int (p_ref d)) (C := RX7) (T := TX7) (N := 17) hx hb hts hwd1 hown hK hP 0 rfl rfl 14 (by decide) hwd5 (fun _ h9 => h9) rfl dX7_does_40 ?_
          refine m_callVi (As := [.int (p_ref d)]) (rest := []) C0 hl hP hD hS (c_X7_valueOf l D cY mx va vk vr vs vt vc vb rl ik th tl ta (nI x) (nI 94) yo (p_ref b) (p_ref d) f cnt d (by first | assumption | omega | exact nm_lt _ _ | exact np_lt _ _ | decide)) (cwV 1 hts gX7_does_X7_valueOf rfl rfl rfl (by decide +kernel) ⟨Nat.le_of_ble_eq_true rfl, Nat.le_of_ble_eq_true rfl⟩) dX7_does_43 [0, 1] rfl rfl 0 rfl rfl rfl rfl (Nat.le_of_ble_eq_true rfl) (Nat.zero_le _) (Nat.zero_le _) (fun _ => rfl) (fun r39 u H38 locs hw hP hD hS => ?_)
          try dsimp only at hw
          obtain rfl := hw
          have hP : va_P D vwCl [(mx, .inr (7, [.ref va, .ref vk, .ref vr, .int (nI rl), .ref vs, .int (nI ik), .int (nI th), .ref vt, .int (nI tl), .int (nI ta), .int (nI x), .int (nI 94), .int yo, .int (p_ref b), .int (p_ref d), .ref vc, .ref vb])), (va, .inl (cY 0, 9, .inl (m_nf (m_all f cnt))))] H38 := hP
          have hD : va_D A [(mx, .inr (7, [.ref va, .ref vk, .ref vr, .int (nI rl), .ref vs, .int (nI ik), .int (nI th), .ref vt, .int (nI tl), .int (nI ta), .int (nI x), .int (nI 94), .int yo, .int (p_ref b), .int (p_ref d), .ref vc, .ref vb])), (va, .inl (cY 0, 9, .inl (m_nf (m_all f cnt))))] := hD
          refine lv_istore_n (lv' := [(2, .int (nI (p_val d f))), (1, .int (nI (p_val b f))), (0, .ref mx)]) hx hb dX7_does_46 rfl hl (by decide) rfl (fun ls hl => ?_)
          refine lv_aload_n hx hb dX7_does_47 rfl (lv_at hl 2 rfl) ?_
          refine va_get (D := D) (ci := 7) (v := .int (nI 94)) (C := RX7) (T := TX7) (N := 17) hx hb hts hwd1 hown hK hP 0 rfl rfl 11 (by decide) hwd2 (fun _ h9 => h9) rfl dX7_does_48 ?_
          refine lv_bipush (v := nI 126) hx hb dX7_does_51 (by decide) ?_
          refine lv_icmp_ne (tgt := 60) hx hb dX7_does_53 (by decide) (fun c53 => ?_) (fun c53 => ?_)
          · refine lv_aload_n hx hb dX7_does_60 rfl (lv_at hl 2 rfl) ?_
            refine va_get (D := D) (ci := 7) (v := .int (nI 94)) (C := RX7) (T := TX7) (N := 17) hx hb hts hwd1 hown hK hP 0 rfl rfl 11 (by decide) hwd2 (fun _ h9 => h9) rfl dX7_does_61 ?_
            refine lv_bipush (v := nI 47) hx hb dX7_does_64 (by decide) ?_
            refine lv_icmp_ne (tgt := 75) hx hb dX7_does_66 (by decide) (fun c66 => ?_) (fun c66 => ?_)
            · refine lv_aload_n hx hb dX7_does_75 rfl (lv_at hl 2 rfl) ?_
              refine va_get (D := D) (ci := 7) (v := .int (nI 94)) (C := RX7) (T := TX7) (N := 17) hx hb hts hwd1 hown hK hP 0 rfl rfl 11 (by decide) hwd2 (fun _ h9 => h9) rfl dX7_does_76 ?_
              refine lv_lookup (tgt := 231) hx hb dX7_does_79 (by decide +kernel) (off := 152) (by decide +kernel) (by decide) ?_
              refine lv_aload_n hx hb dX7_does_231 rfl (lv_at hl 2 rfl) ?_
              refine va_get (D := D) (ci := 7) (v := .ref va) (C := RX7) (T := TX7) (N := 17) hx hb hts hwd1 hown hK hP 0 rfl rfl 0 (by decide) hwd3 (fun _ h9 => h9) rfl dX7_does_232 ?_
              refine lv_aload_n hx hb dX7_does_235 rfl (lv_at hl 2 rfl) ?_
              refine va_get (D := D) (ci := 7) (v := .int (nI x)) (C := RX7) (T := TX7) (N := 17) hx hb hts hwd1 hown hK hP 0 rfl rfl 10 (by decide) hwd4 (fun _ h9 => h9) rfl dX7_does_236 ?_
              refine lv_iload_n hx hb dX7_does_239 rfl (lv_at hl 1 rfl) ?_
              refine lv_iload_n hx hb dX7_does_240 rfl (lv_at hl 0 rfl) ?_
              refine m_callSi (As := [.int (nI (p_val b f)), .int (nI (p_val d f))]) (rest := [.int (nI x), .ref va]) C0 hl hP hD hS (c_X7_powered l D cY (p_val b f) (p_val d f) (by first | assumption | omega | exact nm_lt _ _ | exact np_lt _ _ | decide) (by first | assumption | omega | exact nm_lt _ _ | exact np_lt _ _ | decide)) (va_cwS 2 hts gX7_does_X7_powered rfl rfl rfl (by decide +kernel) ⟨Nat.le_of_ble_eq_true rfl, Nat.le_of_ble_eq_true rfl⟩) dX7_does_241 [] rfl rfl rfl (Nat.le_of_ble_eq_true rfl) (Nat.zero_le _) (Nat.zero_le _) (fun _ => rfl) (fun r41 u H40 locs hw hP hD hS => ?_)
              try dsimp only at hw
              obtain rfl := hw
              have hP : va_P D vwCl [(mx, .inr (7, [.ref va, .ref vk, .ref vr, .int (nI rl), .ref vs, .int (nI ik), .int (nI th), .ref vt, .int (nI tl), .int (nI ta), .int (nI x), .int (nI 94), .int yo, .int (p_ref b), .int (p_ref d), .ref vc, .ref vb])), (va, .inl (cY 0, 9, .inl (m_nf (m_all f cnt))))] H40 := hP
              have hD : va_D A [(mx, .inr (7, [.ref va, .ref vk, .ref vr, .int (nI rl), .ref vs, .int (nI ik), .int (nI th), .ref vt, .int (nI tl), .int (nI ta), .int (nI x), .int (nI 94), .int yo, .int (p_ref b), .int (p_ref d), .ref vc, .ref vb])), (va, .inl (cY 0, 9, .inl (m_nf (m_all f cnt))))] := hD
              refine va_iast hx hb hK hP hD hS 1 0 rfl rfl (m_in (n := x) (by first | assumption | omega) (by decide)) dX7_does_244 (fun H42 locs hP hD hS => ?_)
              have hP : va_P D vwCl [(mx, .inr (7, [.ref va, .ref vk, .ref vr, .int (nI rl), .ref vs, .int (nI ik), .int (nI th), .ref vt, .int (nI tl), .int (nI ta), .int (nI x), .int (nI 94), .int yo, .int (p_ref b), .int (p_ref d), .ref vc, .ref vb])), (va, .inl (cY 0, 9, .inl (upd (m_nf (m_all f cnt)) (nI x).toNatClampNeg (nI (np (p_val b f) (p_val d f))))))] H42 := hP
              have hD : va_D A [(mx, .inr (7, [.ref va, .ref vk, .ref vr, .int (nI rl), .ref vs, .int (nI ik), .int (nI th), .ref vt, .int (nI tl), .int (nI ta), .int (nI x), .int (nI 94), .int yo, .int (p_ref b), .int (p_ref d), .ref vc, .ref vb])), (va, .inl (cY 0, 9, .inl (upd (m_nf (m_all f cnt)) (nI x).toNatClampNeg (nI (np (p_val b f) (p_val d f))))))] := hD
              rw [m_upd (g := m_all f cnt) (n := x) (v := np (p_val b f) (p_val d f)) (by omega)] at hP hD
              have hP : va_P D vwCl [(mx, .inr (7, [.ref va, .ref vk, .ref vr, .int (nI rl), .ref vs, .int (nI ik), .int (nI th), .ref vt, .int (nI tl), .int (nI ta), .int (nI x), .int (nI 94), .int yo, .int (p_ref b), .int (p_ref d), .ref vc, .ref vb])), (va, .inl (cY 0, 9, .inl (m_nf (m_up (m_all f cnt) x (np (p_val b f) (p_val d f))))))] H42 := hP
              have hD : va_D A [(mx, .inr (7, [.ref va, .ref vk, .ref vr, .int (nI rl), .ref vs, .int (nI ik), .int (nI th), .ref vt, .int (nI tl), .int (nI ta), .int (nI x), .int (nI 94), .int yo, .int (p_ref b), .int (p_ref d), .ref vc, .ref vb])), (va, .inl (cY 0, 9, .inl (m_nf (m_up (m_all f cnt) x (np (p_val b f) (p_val d f))))))] := hD
              rw [show m_nf (m_up (m_all f cnt) x (np (p_val b f) (p_val d f))) = m_nf (m_all (m_up f x (np (p_val b f) (p_val d f))) cnt) from congrArg m_nf (m_all_up ho1)] at hP hD
              have hP : va_P D vwCl [(mx, .inr (7, [.ref va, .ref vk, .ref vr, .int (nI rl), .ref vs, .int (nI ik), .int (nI th), .ref vt, .int (nI tl), .int (nI ta), .int (nI x), .int (nI 94), .int yo, .int (p_ref b), .int (p_ref d), .ref vc, .ref vb])), (va, .inl (cY 0, 9, .inl (m_nf (m_all (m_up f x (np (p_val b f) (p_val d f))) cnt))))] H42 := hP
              have hD : va_D A [(mx, .inr (7, [.ref va, .ref vk, .ref vr, .int (nI rl), .ref vs, .int (nI ik), .int (nI th), .ref vt, .int (nI tl), .int (nI ta), .int (nI x), .int (nI 94), .int yo, .int (p_ref b), .int (p_ref d), .ref vc, .ref vb])), (va, .inl (cY 0, 9, .inl (m_nf (m_all (m_up f x (np (p_val b f) (p_val d f))) cnt))))] := hD
              refine lv_goto (tgt := 258) hx hb dX7_does_245 (by decide) ?_
              refine lv_iconst (v := nI 1) hx hb dX7_does_258 (by decide) ?_
              subst hQ
              exact m_zret C0 (by decide) hS dX7_does_259 (u := (m_up f x (np (p_val b f) (p_val d f)), cnt)) hP (Or.inr ⟨rfl, by simp (config := { decide := true }) only [p_do, p_res, if_true, if_false], m_zup hf8 ho1, m_up_lt hf16 (np_lt _ _)⟩)
            · exact absurd c66 (by decide)
          · exact absurd c53 (by decide)
        · exact absurd c31 (by decide)
